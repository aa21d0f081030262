/-! ===== cases ===== -/
set_option maxRecDepth 100000 in
theorem lc_30_0 : lw_g (6, 0xffffffff0000000000ffffffff0000000000ffffffff0000000000ffffffff00000000007fffffff0000000005000000000000001e) = true := by decide +kernel
set_option maxRecDepth 100000 in
theorem lc_30_1 : lw_g (6, 0xffffffff0000000000ffffffff0000000000ffffffff0000000000ffffffff00000000008000000b8000000005000000000000001e) = true := by decide +kernel
set_option maxRecDepth 100000 in
theorem lc_30_2 : lw_g (6, 0xffffffff0000000000ffffffff0000000000ffffffff0000000000ffffffff0000000000ffffffff8000000c05000000000000001e) = true := by decide +kernel
theorem cv_30 (y1 y2 y3 y4 y5 : Nat) (h1 : y1 < 4294967296) (h2 : y2 < 4294967296) (h3 : y3 < 4294967296) (h4 : y4 < 4294967296) (h5 : y5 < 4294967296) : ∃ p, lw_g (6, p) = true ∧ iv_f6 30 y1 y2 y3 y4 y5 p := by
  rcases Nat.lt_or_ge y1 2147483648 with g | g
  · exact ⟨0xffffffff0000000000ffffffff0000000000ffffffff0000000000ffffffff00000000007fffffff0000000005000000000000001e, lc_30_0, iv_lf (a1 := 0) (b1 := 2147483647) (a2 := 0) (b2 := 4294967295) (a3 := 0) (b3 := 4294967295) (a4 := 0) (b4 := 4294967295) (a5 := 0) (b5 := 4294967295) (by decide +kernel) (by omega)⟩
  · rcases Nat.lt_or_ge y1 2147483660 with g | g
    · exact ⟨0xffffffff0000000000ffffffff0000000000ffffffff0000000000ffffffff00000000008000000b8000000005000000000000001e, lc_30_1, iv_lf (a1 := 2147483648) (b1 := 2147483659) (a2 := 0) (b2 := 4294967295) (a3 := 0) (b3 := 4294967295) (a4 := 0) (b4 := 4294967295) (a5 := 0) (b5 := 4294967295) (by decide +kernel) (by omega)⟩
    · exact ⟨0xffffffff0000000000ffffffff0000000000ffffffff0000000000ffffffff0000000000ffffffff8000000c05000000000000001e, lc_30_2, iv_lf (a1 := 2147483660) (b1 := 4294967295) (a2 := 0) (b2 := 4294967295) (a3 := 0) (b3 := 4294967295) (a4 := 0) (b4 := 4294967295) (a5 := 0) (b5 := 4294967295) (by decide +kernel) (by omega)⟩
set_option maxRecDepth 100000 in
theorem lc_31_0 : lw_g (6, 0xffffffff0000000000ffffffff0000000000ffffffff0000000000ffffffff00000000007fffffff0000000005000000000000001f) = true := by decide +kernel
set_option maxRecDepth 100000 in
theorem lc_31_1 : lw_g (6, 0xffffffff0000000000ffffffff0000000000ffffffff0000000000ffffffff00000000008000000b8000000005000000000000001f) = true := by decide +kernel
set_option maxRecDepth 100000 in
theorem lc_31_2 : lw_g (6, 0xffffffff0000000000ffffffff0000000000ffffffff0000000000ffffffff0000000000ffffffff8000000c05000000000000001f) = true := by decide +kernel
theorem cv_31 (y1 y2 y3 y4 y5 : Nat) (h1 : y1 < 4294967296) (h2 : y2 < 4294967296) (h3 : y3 < 4294967296) (h4 : y4 < 4294967296) (h5 : y5 < 4294967296) : ∃ p, lw_g (6, p) = true ∧ iv_f6 31 y1 y2 y3 y4 y5 p := by
  rcases Nat.lt_or_ge y1 2147483648 with g | g
  · exact ⟨0xffffffff0000000000ffffffff0000000000ffffffff0000000000ffffffff00000000007fffffff0000000005000000000000001f, lc_31_0, iv_lf (a1 := 0) (b1 := 2147483647) (a2 := 0) (b2 := 4294967295) (a3 := 0) (b3 := 4294967295) (a4 := 0) (b4 := 4294967295) (a5 := 0) (b5 := 4294967295) (by decide +kernel) (by omega)⟩
  · rcases Nat.lt_or_ge y1 2147483660 with g | g
    · exact ⟨0xffffffff0000000000ffffffff0000000000ffffffff0000000000ffffffff00000000008000000b8000000005000000000000001f, lc_31_1, iv_lf (a1 := 2147483648) (b1 := 2147483659) (a2 := 0) (b2 := 4294967295) (a3 := 0) (b3 := 4294967295) (a4 := 0) (b4 := 4294967295) (a5 := 0) (b5 := 4294967295) (by decide +kernel) (by omega)⟩
    · exact ⟨0xffffffff0000000000ffffffff0000000000ffffffff0000000000ffffffff0000000000ffffffff8000000c05000000000000001f, lc_31_2, iv_lf (a1 := 2147483660) (b1 := 4294967295) (a2 := 0) (b2 := 4294967295) (a3 := 0) (b3 := 4294967295) (a4 := 0) (b4 := 4294967295) (a5 := 0) (b5 := 4294967295) (by decide +kernel) (by omega)⟩
set_option maxRecDepth 100000 in
theorem lc_32_0 : lw_g (6, 0xffffffff0000000000ffffffff0000000000ffffffff0000000000ffffffff00000000007fffffff00000000050000000000000020) = true := by decide +kernel
set_option maxRecDepth 100000 in
theorem lc_32_1 : lw_g (6, 0xffffffff0000000000ffffffff0000000000ffffffff00000000007fffffff00000000008000000380000000050000000000000020) = true := by decide +kernel
set_option maxRecDepth 100000 in
theorem lc_32_2 : lw_g (6, 0xffffffff0000000000ffffffff0000000000ffffffff00000000008000000080000000008000000080000000050000000000000020) = true := by decide +kernel
set_option maxRecDepth 100000 in
theorem lc_32_3 : lw_g (6, 0xffffffff0000000000ffffffff0000000000ffffffff00000000008000000380000001008000000080000000050000000000000020) = true := by decide +kernel
set_option maxRecDepth 100000 in
theorem lc_32_4 : lw_g (6, 0xffffffff0000000000ffffffff0000000000ffffffff00000000008000000080000000008000000180000001050000000000000020) = true := by decide +kernel
set_option maxRecDepth 100000 in
theorem lc_32_5 : lw_g (6, 0xffffffff0000000000ffffffff0000000000ffffffff00000000008000000180000001008000000180000001050000000000000020) = true := by decide +kernel
set_option maxRecDepth 100000 in
theorem lc_32_6 : lw_g (6, 0xffffffff0000000000ffffffff0000000000ffffffff00000000008000000380000002008000000180000001050000000000000020) = true := by decide +kernel
set_option maxRecDepth 100000 in
theorem lc_32_7 : lw_g (6, 0xffffffff0000000000ffffffff0000000000ffffffff00000000008000000180000000008000000280000002050000000000000020) = true := by decide +kernel
set_option maxRecDepth 100000 in
theorem lc_32_8 : lw_g (6, 0xffffffff0000000000ffffffff0000000000ffffffff00000000008000000280000002008000000280000002050000000000000020) = true := by decide +kernel
set_option maxRecDepth 100000 in
theorem lc_32_9 : lw_g (6, 0xffffffff0000000000ffffffff0000000000ffffffff00000000008000000380000003008000000280000002050000000000000020) = true := by decide +kernel
set_option maxRecDepth 100000 in
theorem lc_32_10 : lw_g (6, 0xffffffff0000000000ffffffff0000000000ffffffff00000000008000000280000000008000000380000003050000000000000020) = true := by decide +kernel
set_option maxRecDepth 100000 in
theorem lc_32_11 : lw_g (6, 0xffffffff0000000000ffffffff0000000000ffffffff00000000008000000380000003008000000380000003050000000000000020) = true := by decide +kernel
set_option maxRecDepth 100000 in
theorem lc_32_12 : lw_g (6, 0xffffffff0000000000ffffffff0000000000ffffffff0000000000ffffffff80000004008000000380000000050000000000000020) = true := by decide +kernel
set_option maxRecDepth 100000 in
theorem lc_32_13 : lw_g (6, 0xffffffff0000000000ffffffff0000000000ffffffff0000000000ffffffff0000000000ffffffff80000004050000000000000020) = true := by decide +kernel
theorem cv_32 (y1 y2 y3 y4 y5 : Nat) (h1 : y1 < 4294967296) (h2 : y2 < 4294967296) (h3 : y3 < 4294967296) (h4 : y4 < 4294967296) (h5 : y5 < 4294967296) : ∃ p, lw_g (6, p) = true ∧ iv_f6 32 y1 y2 y3 y4 y5 p := by
  rcases Nat.lt_or_ge y1 2147483648 with g | g
  · exact ⟨0xffffffff0000000000ffffffff0000000000ffffffff0000000000ffffffff00000000007fffffff00000000050000000000000020, lc_32_0, iv_lf (a1 := 0) (b1 := 2147483647) (a2 := 0) (b2 := 4294967295) (a3 := 0) (b3 := 4294967295) (a4 := 0) (b4 := 4294967295) (a5 := 0) (b5 := 4294967295) (by decide +kernel) (by omega)⟩
  · rcases Nat.lt_or_ge y1 2147483652 with g | g
    · rcases Nat.lt_or_ge y2 2147483648 with g | g
      · exact ⟨0xffffffff0000000000ffffffff0000000000ffffffff00000000007fffffff00000000008000000380000000050000000000000020, lc_32_1, iv_lf (a1 := 2147483648) (b1 := 2147483651) (a2 := 0) (b2 := 2147483647) (a3 := 0) (b3 := 4294967295) (a4 := 0) (b4 := 4294967295) (a5 := 0) (b5 := 4294967295) (by decide +kernel) (by omega)⟩
      · rcases Nat.lt_or_ge y2 2147483652 with g | g
        · rcases Nat.lt_or_ge y1 2147483649 with g | g
          · rcases Nat.lt_or_ge y2 2147483649 with g | g
            · exact ⟨0xffffffff0000000000ffffffff0000000000ffffffff00000000008000000080000000008000000080000000050000000000000020, lc_32_2, iv_lf (a1 := 2147483648) (b1 := 2147483648) (a2 := 2147483648) (b2 := 2147483648) (a3 := 0) (b3 := 4294967295) (a4 := 0) (b4 := 4294967295) (a5 := 0) (b5 := 4294967295) (by decide +kernel) (by omega)⟩
            · exact ⟨0xffffffff0000000000ffffffff0000000000ffffffff00000000008000000380000001008000000080000000050000000000000020, lc_32_3, iv_lf (a1 := 2147483648) (b1 := 2147483648) (a2 := 2147483649) (b2 := 2147483651) (a3 := 0) (b3 := 4294967295) (a4 := 0) (b4 := 4294967295) (a5 := 0) (b5 := 4294967295) (by decide +kernel) (by omega)⟩
          · rcases Nat.lt_or_ge y1 2147483650 with g | g
            · rcases Nat.lt_or_ge y2 2147483649 with g | g
              · exact ⟨0xffffffff0000000000ffffffff0000000000ffffffff00000000008000000080000000008000000180000001050000000000000020, lc_32_4, iv_lf (a1 := 2147483649) (b1 := 2147483649) (a2 := 2147483648) (b2 := 2147483648) (a3 := 0) (b3 := 4294967295) (a4 := 0) (b4 := 4294967295) (a5 := 0) (b5 := 4294967295) (by decide +kernel) (by omega)⟩
              · rcases Nat.lt_or_ge y2 2147483650 with g | g
                · exact ⟨0xffffffff0000000000ffffffff0000000000ffffffff00000000008000000180000001008000000180000001050000000000000020, lc_32_5, iv_lf (a1 := 2147483649) (b1 := 2147483649) (a2 := 2147483649) (b2 := 2147483649) (a3 := 0) (b3 := 4294967295) (a4 := 0) (b4 := 4294967295) (a5 := 0) (b5 := 4294967295) (by decide +kernel) (by omega)⟩
                · exact ⟨0xffffffff0000000000ffffffff0000000000ffffffff00000000008000000380000002008000000180000001050000000000000020, lc_32_6, iv_lf (a1 := 2147483649) (b1 := 2147483649) (a2 := 2147483650) (b2 := 2147483651) (a3 := 0) (b3 := 4294967295) (a4 := 0) (b4 := 4294967295) (a5 := 0) (b5 := 4294967295) (by decide +kernel) (by omega)⟩
            · rcases Nat.lt_or_ge y1 2147483651 with g | g
              · rcases Nat.lt_or_ge y2 2147483650 with g | g
                · exact ⟨0xffffffff0000000000ffffffff0000000000ffffffff00000000008000000180000000008000000280000002050000000000000020, lc_32_7, iv_lf (a1 := 2147483650) (b1 := 2147483650) (a2 := 2147483648) (b2 := 2147483649) (a3 := 0) (b3 := 4294967295) (a4 := 0) (b4 := 4294967295) (a5 := 0) (b5 := 4294967295) (by decide +kernel) (by omega)⟩
                · rcases Nat.lt_or_ge y2 2147483651 with g | g
                  · exact ⟨0xffffffff0000000000ffffffff0000000000ffffffff00000000008000000280000002008000000280000002050000000000000020, lc_32_8, iv_lf (a1 := 2147483650) (b1 := 2147483650) (a2 := 2147483650) (b2 := 2147483650) (a3 := 0) (b3 := 4294967295) (a4 := 0) (b4 := 4294967295) (a5 := 0) (b5 := 4294967295) (by decide +kernel) (by omega)⟩
                  · exact ⟨0xffffffff0000000000ffffffff0000000000ffffffff00000000008000000380000003008000000280000002050000000000000020, lc_32_9, iv_lf (a1 := 2147483650) (b1 := 2147483650) (a2 := 2147483651) (b2 := 2147483651) (a3 := 0) (b3 := 4294967295) (a4 := 0) (b4 := 4294967295) (a5 := 0) (b5 := 4294967295) (by decide +kernel) (by omega)⟩
              · rcases Nat.lt_or_ge y2 2147483651 with g | g
                · exact ⟨0xffffffff0000000000ffffffff0000000000ffffffff00000000008000000280000000008000000380000003050000000000000020, lc_32_10, iv_lf (a1 := 2147483651) (b1 := 2147483651) (a2 := 2147483648) (b2 := 2147483650) (a3 := 0) (b3 := 4294967295) (a4 := 0) (b4 := 4294967295) (a5 := 0) (b5 := 4294967295) (by decide +kernel) (by omega)⟩
                · exact ⟨0xffffffff0000000000ffffffff0000000000ffffffff00000000008000000380000003008000000380000003050000000000000020, lc_32_11, iv_lf (a1 := 2147483651) (b1 := 2147483651) (a2 := 2147483651) (b2 := 2147483651) (a3 := 0) (b3 := 4294967295) (a4 := 0) (b4 := 4294967295) (a5 := 0) (b5 := 4294967295) (by decide +kernel) (by omega)⟩
        · exact ⟨0xffffffff0000000000ffffffff0000000000ffffffff0000000000ffffffff80000004008000000380000000050000000000000020, lc_32_12, iv_lf (a1 := 2147483648) (b1 := 2147483651) (a2 := 2147483652) (b2 := 4294967295) (a3 := 0) (b3 := 4294967295) (a4 := 0) (b4 := 4294967295) (a5 := 0) (b5 := 4294967295) (by decide +kernel) (by omega)⟩
    · exact ⟨0xffffffff0000000000ffffffff0000000000ffffffff0000000000ffffffff0000000000ffffffff80000004050000000000000020, lc_32_13, iv_lf (a1 := 2147483652) (b1 := 4294967295) (a2 := 0) (b2 := 4294967295) (a3 := 0) (b3 := 4294967295) (a4 := 0) (b4 := 4294967295) (a5 := 0) (b5 := 4294967295) (by decide +kernel) (by omega)⟩
