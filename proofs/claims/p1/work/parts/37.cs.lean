/-! ===== cases ===== -/
set_option maxRecDepth 100000 in
theorem lc_9_0 : lw_g (6, 0xffffffff0000000000ffffffff0000000000ffffffff0000000000ffffffff00000000007fffffff00000000050000000000000009) = true := by decide +kernel
set_option maxRecDepth 100000 in
theorem lc_9_1 : lw_g (6, 0xffffffff0000000000ffffffff0000000000ffffffff0000000000ffffffff00000000008000000080000000050000000000000009) = true := by decide +kernel
set_option maxRecDepth 100000 in
theorem lc_9_2 : lw_g (6, 0xffffffff0000000000ffffffff0000000000ffffffff0000000000ffffffff00000000008000000180000001050000000000000009) = true := by decide +kernel
set_option maxRecDepth 100000 in
theorem lc_9_3 : lw_g (6, 0xffffffff0000000000ffffffff0000000000ffffffff0000000000ffffffff00000000008000000280000002050000000000000009) = true := by decide +kernel
set_option maxRecDepth 100000 in
theorem lc_9_4 : lw_g (6, 0xffffffff0000000000ffffffff0000000000ffffffff0000000000ffffffff00000000008000000380000003050000000000000009) = true := by decide +kernel
set_option maxRecDepth 100000 in
theorem lc_9_5 : lw_g (6, 0xffffffff0000000000ffffffff0000000000ffffffff0000000000ffffffff0000000000ffffffff80000004050000000000000009) = true := by decide +kernel
theorem cv_9 (y1 y2 y3 y4 y5 : Nat) (h1 : y1 < 4294967296) (h2 : y2 < 4294967296) (h3 : y3 < 4294967296) (h4 : y4 < 4294967296) (h5 : y5 < 4294967296) : ∃ p, lw_g (6, p) = true ∧ iv_f6 9 y1 y2 y3 y4 y5 p := by
  rcases Nat.lt_or_ge y1 2147483648 with g | g
  · exact ⟨0xffffffff0000000000ffffffff0000000000ffffffff0000000000ffffffff00000000007fffffff00000000050000000000000009, lc_9_0, iv_lf (a1 := 0) (b1 := 2147483647) (a2 := 0) (b2 := 4294967295) (a3 := 0) (b3 := 4294967295) (a4 := 0) (b4 := 4294967295) (a5 := 0) (b5 := 4294967295) (by decide +kernel) (by omega)⟩
  · rcases Nat.lt_or_ge y1 2147483652 with g | g
    · rcases Nat.lt_or_ge y1 2147483649 with g | g
      · exact ⟨0xffffffff0000000000ffffffff0000000000ffffffff0000000000ffffffff00000000008000000080000000050000000000000009, lc_9_1, iv_lf (a1 := 2147483648) (b1 := 2147483648) (a2 := 0) (b2 := 4294967295) (a3 := 0) (b3 := 4294967295) (a4 := 0) (b4 := 4294967295) (a5 := 0) (b5 := 4294967295) (by decide +kernel) (by omega)⟩
      · rcases Nat.lt_or_ge y1 2147483650 with g | g
        · exact ⟨0xffffffff0000000000ffffffff0000000000ffffffff0000000000ffffffff00000000008000000180000001050000000000000009, lc_9_2, iv_lf (a1 := 2147483649) (b1 := 2147483649) (a2 := 0) (b2 := 4294967295) (a3 := 0) (b3 := 4294967295) (a4 := 0) (b4 := 4294967295) (a5 := 0) (b5 := 4294967295) (by decide +kernel) (by omega)⟩
        · rcases Nat.lt_or_ge y1 2147483651 with g | g
          · exact ⟨0xffffffff0000000000ffffffff0000000000ffffffff0000000000ffffffff00000000008000000280000002050000000000000009, lc_9_3, iv_lf (a1 := 2147483650) (b1 := 2147483650) (a2 := 0) (b2 := 4294967295) (a3 := 0) (b3 := 4294967295) (a4 := 0) (b4 := 4294967295) (a5 := 0) (b5 := 4294967295) (by decide +kernel) (by omega)⟩
          · exact ⟨0xffffffff0000000000ffffffff0000000000ffffffff0000000000ffffffff00000000008000000380000003050000000000000009, lc_9_4, iv_lf (a1 := 2147483651) (b1 := 2147483651) (a2 := 0) (b2 := 4294967295) (a3 := 0) (b3 := 4294967295) (a4 := 0) (b4 := 4294967295) (a5 := 0) (b5 := 4294967295) (by decide +kernel) (by omega)⟩
    · exact ⟨0xffffffff0000000000ffffffff0000000000ffffffff0000000000ffffffff0000000000ffffffff80000004050000000000000009, lc_9_5, iv_lf (a1 := 2147483652) (b1 := 4294967295) (a2 := 0) (b2 := 4294967295) (a3 := 0) (b3 := 4294967295) (a4 := 0) (b4 := 4294967295) (a5 := 0) (b5 := 4294967295) (by decide +kernel) (by omega)⟩
set_option maxRecDepth 100000 in
theorem lc_10_0 : lw_g (6, 0xffffffff0000000000ffffffff0000000000ffffffff0000000000ffffffff00000000007fffffff0000000005000000000000000a) = true := by decide +kernel
set_option maxRecDepth 100000 in
theorem lc_10_1 : lw_g (6, 0xffffffff0000000000ffffffff0000000000ffffffff0000000000ffffffff0000000000800000008000000005000000000000000a) = true := by decide +kernel
set_option maxRecDepth 100000 in
theorem lc_10_2 : lw_g (6, 0xffffffff0000000000ffffffff0000000000ffffffff0000000000ffffffff0000000000800000018000000105000000000000000a) = true := by decide +kernel
set_option maxRecDepth 100000 in
theorem lc_10_3 : lw_g (6, 0xffffffff0000000000ffffffff0000000000ffffffff0000000000ffffffff0000000000800000028000000205000000000000000a) = true := by decide +kernel
set_option maxRecDepth 100000 in
theorem lc_10_4 : lw_g (6, 0xffffffff0000000000ffffffff0000000000ffffffff0000000000ffffffff0000000000800000038000000305000000000000000a) = true := by decide +kernel
set_option maxRecDepth 100000 in
theorem lc_10_5 : lw_g (6, 0xffffffff0000000000ffffffff0000000000ffffffff0000000000ffffffff0000000000ffffffff8000000405000000000000000a) = true := by decide +kernel
theorem cv_10 (y1 y2 y3 y4 y5 : Nat) (h1 : y1 < 4294967296) (h2 : y2 < 4294967296) (h3 : y3 < 4294967296) (h4 : y4 < 4294967296) (h5 : y5 < 4294967296) : ∃ p, lw_g (6, p) = true ∧ iv_f6 10 y1 y2 y3 y4 y5 p := by
  rcases Nat.lt_or_ge y1 2147483648 with g | g
  · exact ⟨0xffffffff0000000000ffffffff0000000000ffffffff0000000000ffffffff00000000007fffffff0000000005000000000000000a, lc_10_0, iv_lf (a1 := 0) (b1 := 2147483647) (a2 := 0) (b2 := 4294967295) (a3 := 0) (b3 := 4294967295) (a4 := 0) (b4 := 4294967295) (a5 := 0) (b5 := 4294967295) (by decide +kernel) (by omega)⟩
  · rcases Nat.lt_or_ge y1 2147483652 with g | g
    · rcases Nat.lt_or_ge y1 2147483649 with g | g
      · exact ⟨0xffffffff0000000000ffffffff0000000000ffffffff0000000000ffffffff0000000000800000008000000005000000000000000a, lc_10_1, iv_lf (a1 := 2147483648) (b1 := 2147483648) (a2 := 0) (b2 := 4294967295) (a3 := 0) (b3 := 4294967295) (a4 := 0) (b4 := 4294967295) (a5 := 0) (b5 := 4294967295) (by decide +kernel) (by omega)⟩
      · rcases Nat.lt_or_ge y1 2147483650 with g | g
        · exact ⟨0xffffffff0000000000ffffffff0000000000ffffffff0000000000ffffffff0000000000800000018000000105000000000000000a, lc_10_2, iv_lf (a1 := 2147483649) (b1 := 2147483649) (a2 := 0) (b2 := 4294967295) (a3 := 0) (b3 := 4294967295) (a4 := 0) (b4 := 4294967295) (a5 := 0) (b5 := 4294967295) (by decide +kernel) (by omega)⟩
        · rcases Nat.lt_or_ge y1 2147483651 with g | g
          · exact ⟨0xffffffff0000000000ffffffff0000000000ffffffff0000000000ffffffff0000000000800000028000000205000000000000000a, lc_10_3, iv_lf (a1 := 2147483650) (b1 := 2147483650) (a2 := 0) (b2 := 4294967295) (a3 := 0) (b3 := 4294967295) (a4 := 0) (b4 := 4294967295) (a5 := 0) (b5 := 4294967295) (by decide +kernel) (by omega)⟩
          · exact ⟨0xffffffff0000000000ffffffff0000000000ffffffff0000000000ffffffff0000000000800000038000000305000000000000000a, lc_10_4, iv_lf (a1 := 2147483651) (b1 := 2147483651) (a2 := 0) (b2 := 4294967295) (a3 := 0) (b3 := 4294967295) (a4 := 0) (b4 := 4294967295) (a5 := 0) (b5 := 4294967295) (by decide +kernel) (by omega)⟩
    · exact ⟨0xffffffff0000000000ffffffff0000000000ffffffff0000000000ffffffff0000000000ffffffff8000000405000000000000000a, lc_10_5, iv_lf (a1 := 2147483652) (b1 := 4294967295) (a2 := 0) (b2 := 4294967295) (a3 := 0) (b3 := 4294967295) (a4 := 0) (b4 := 4294967295) (a5 := 0) (b5 := 4294967295) (by decide +kernel) (by omega)⟩
set_option maxRecDepth 100000 in
theorem lc_11_0 : lw_g (6, 0xffffffff0000000000ffffffff0000000000ffffffff0000000000ffffffff00000000007fffffff0000000005000000000000000b) = true := by decide +kernel
set_option maxRecDepth 100000 in
theorem lc_11_1 : lw_g (6, 0xffffffff0000000000ffffffff0000000000ffffffff00000000007fffffff0000000000800000038000000005000000000000000b) = true := by decide +kernel
set_option maxRecDepth 100000 in
theorem lc_11_2 : lw_g (6, 0xffffffff0000000000ffffffff0000000000ffffffff0000000000800000008000000000800000008000000005000000000000000b) = true := by decide +kernel
set_option maxRecDepth 100000 in
theorem lc_11_3 : lw_g (6, 0xffffffff0000000000ffffffff0000000000ffffffff0000000000800000018000000100800000008000000005000000000000000b) = true := by decide +kernel
set_option maxRecDepth 100000 in
theorem lc_11_4 : lw_g (6, 0xffffffff0000000000ffffffff0000000000ffffffff0000000000800000028000000200800000008000000005000000000000000b) = true := by decide +kernel
set_option maxRecDepth 100000 in
theorem lc_11_5 : lw_g (6, 0xffffffff0000000000ffffffff0000000000ffffffff0000000000800000038000000300800000008000000005000000000000000b) = true := by decide +kernel
set_option maxRecDepth 100000 in
theorem lc_11_6 : lw_g (6, 0xffffffff0000000000ffffffff0000000000ffffffff0000000000800000048000000400800000008000000005000000000000000b) = true := by decide +kernel
set_option maxRecDepth 100000 in
theorem lc_11_7 : lw_g (6, 0xffffffff0000000000ffffffff0000000000ffffffff0000000000800000058000000500800000008000000005000000000000000b) = true := by decide +kernel
set_option maxRecDepth 100000 in
theorem lc_11_8 : lw_g (6, 0xffffffff0000000000ffffffff0000000000ffffffff0000000000800000068000000600800000008000000005000000000000000b) = true := by decide +kernel
set_option maxRecDepth 100000 in
theorem lc_11_9 : lw_g (6, 0xffffffff0000000000ffffffff0000000000ffffffff0000000000800000078000000700800000008000000005000000000000000b) = true := by decide +kernel
set_option maxRecDepth 100000 in
theorem lc_11_10 : lw_g (6, 0xffffffff0000000000ffffffff0000000000ffffffff0000000000800000088000000800800000008000000005000000000000000b) = true := by decide +kernel
set_option maxRecDepth 100000 in
theorem lc_11_11 : lw_g (6, 0xffffffff0000000000ffffffff0000000000ffffffff0000000000800000098000000900800000008000000005000000000000000b) = true := by decide +kernel
set_option maxRecDepth 100000 in
theorem lc_11_12 : lw_g (6, 0xffffffff0000000000ffffffff0000000000ffffffff00000000008000000a8000000a00800000008000000005000000000000000b) = true := by decide +kernel
set_option maxRecDepth 100000 in
theorem lc_11_13 : lw_g (6, 0xffffffff0000000000ffffffff0000000000ffffffff00000000008000000b8000000b00800000008000000005000000000000000b) = true := by decide +kernel
set_option maxRecDepth 100000 in
theorem lc_11_14 : lw_g (6, 0xffffffff0000000000ffffffff0000000000ffffffff0000000000800000008000000000800000018000000105000000000000000b) = true := by decide +kernel
set_option maxRecDepth 100000 in
theorem lc_11_15 : lw_g (6, 0xffffffff0000000000ffffffff0000000000ffffffff0000000000800000018000000100800000018000000105000000000000000b) = true := by decide +kernel
set_option maxRecDepth 100000 in
theorem lc_11_16 : lw_g (6, 0xffffffff0000000000ffffffff0000000000ffffffff0000000000800000028000000200800000018000000105000000000000000b) = true := by decide +kernel
set_option maxRecDepth 100000 in
theorem lc_11_17 : lw_g (6, 0xffffffff0000000000ffffffff0000000000ffffffff0000000000800000038000000300800000018000000105000000000000000b) = true := by decide +kernel
set_option maxRecDepth 100000 in
theorem lc_11_18 : lw_g (6, 0xffffffff0000000000ffffffff0000000000ffffffff0000000000800000048000000400800000018000000105000000000000000b) = true := by decide +kernel
set_option maxRecDepth 100000 in
theorem lc_11_19 : lw_g (6, 0xffffffff0000000000ffffffff0000000000ffffffff0000000000800000058000000500800000018000000105000000000000000b) = true := by decide +kernel
set_option maxRecDepth 100000 in
theorem lc_11_20 : lw_g (6, 0xffffffff0000000000ffffffff0000000000ffffffff0000000000800000068000000600800000018000000105000000000000000b) = true := by decide +kernel
set_option maxRecDepth 100000 in
theorem lc_11_21 : lw_g (6, 0xffffffff0000000000ffffffff0000000000ffffffff0000000000800000078000000700800000018000000105000000000000000b) = true := by decide +kernel
set_option maxRecDepth 100000 in
theorem lc_11_22 : lw_g (6, 0xffffffff0000000000ffffffff0000000000ffffffff0000000000800000088000000800800000018000000105000000000000000b) = true := by decide +kernel
set_option maxRecDepth 100000 in
theorem lc_11_23 : lw_g (6, 0xffffffff0000000000ffffffff0000000000ffffffff0000000000800000098000000900800000018000000105000000000000000b) = true := by decide +kernel
set_option maxRecDepth 100000 in
theorem lc_11_24 : lw_g (6, 0xffffffff0000000000ffffffff0000000000ffffffff00000000008000000a8000000a00800000018000000105000000000000000b) = true := by decide +kernel
set_option maxRecDepth 100000 in
theorem lc_11_25 : lw_g (6, 0xffffffff0000000000ffffffff0000000000ffffffff00000000008000000b8000000b00800000018000000105000000000000000b) = true := by decide +kernel
set_option maxRecDepth 100000 in
theorem lc_11_26 : lw_g (6, 0xffffffff0000000000ffffffff0000000000ffffffff0000000000800000008000000000800000028000000205000000000000000b) = true := by decide +kernel
set_option maxRecDepth 100000 in
theorem lc_11_27 : lw_g (6, 0xffffffff0000000000ffffffff0000000000ffffffff0000000000800000018000000100800000028000000205000000000000000b) = true := by decide +kernel
set_option maxRecDepth 100000 in
theorem lc_11_28 : lw_g (6, 0xffffffff0000000000ffffffff0000000000ffffffff0000000000800000028000000200800000028000000205000000000000000b) = true := by decide +kernel
set_option maxRecDepth 100000 in
theorem lc_11_29 : lw_g (6, 0xffffffff0000000000ffffffff0000000000ffffffff0000000000800000038000000300800000028000000205000000000000000b) = true := by decide +kernel
set_option maxRecDepth 100000 in
theorem lc_11_30 : lw_g (6, 0xffffffff0000000000ffffffff0000000000ffffffff0000000000800000048000000400800000028000000205000000000000000b) = true := by decide +kernel
set_option maxRecDepth 100000 in
theorem lc_11_31 : lw_g (6, 0xffffffff0000000000ffffffff0000000000ffffffff0000000000800000058000000500800000028000000205000000000000000b) = true := by decide +kernel
set_option maxRecDepth 100000 in
theorem lc_11_32 : lw_g (6, 0xffffffff0000000000ffffffff0000000000ffffffff0000000000800000068000000600800000028000000205000000000000000b) = true := by decide +kernel
set_option maxRecDepth 100000 in
theorem lc_11_33 : lw_g (6, 0xffffffff0000000000ffffffff0000000000ffffffff0000000000800000078000000700800000028000000205000000000000000b) = true := by decide +kernel
set_option maxRecDepth 100000 in
theorem lc_11_34 : lw_g (6, 0xffffffff0000000000ffffffff0000000000ffffffff0000000000800000088000000800800000028000000205000000000000000b) = true := by decide +kernel
set_option maxRecDepth 100000 in
theorem lc_11_35 : lw_g (6, 0xffffffff0000000000ffffffff0000000000ffffffff0000000000800000098000000900800000028000000205000000000000000b) = true := by decide +kernel
set_option maxRecDepth 100000 in
theorem lc_11_36 : lw_g (6, 0xffffffff0000000000ffffffff0000000000ffffffff00000000008000000a8000000a00800000028000000205000000000000000b) = true := by decide +kernel
set_option maxRecDepth 100000 in
theorem lc_11_37 : lw_g (6, 0xffffffff0000000000ffffffff0000000000ffffffff00000000008000000b8000000b00800000028000000205000000000000000b) = true := by decide +kernel
set_option maxRecDepth 100000 in
theorem lc_11_38 : lw_g (6, 0xffffffff0000000000ffffffff0000000000ffffffff0000000000800000008000000000800000038000000305000000000000000b) = true := by decide +kernel
set_option maxRecDepth 100000 in
theorem lc_11_39 : lw_g (6, 0xffffffff0000000000ffffffff0000000000ffffffff0000000000800000018000000100800000038000000305000000000000000b) = true := by decide +kernel
set_option maxRecDepth 100000 in
theorem lc_11_40 : lw_g (6, 0xffffffff0000000000ffffffff0000000000ffffffff0000000000800000028000000200800000038000000305000000000000000b) = true := by decide +kernel
set_option maxRecDepth 100000 in
theorem lc_11_41 : lw_g (6, 0xffffffff0000000000ffffffff0000000000ffffffff0000000000800000038000000300800000038000000305000000000000000b) = true := by decide +kernel
set_option maxRecDepth 100000 in
theorem lc_11_42 : lw_g (6, 0xffffffff0000000000ffffffff0000000000ffffffff0000000000800000048000000400800000038000000305000000000000000b) = true := by decide +kernel
set_option maxRecDepth 100000 in
theorem lc_11_43 : lw_g (6, 0xffffffff0000000000ffffffff0000000000ffffffff0000000000800000058000000500800000038000000305000000000000000b) = true := by decide +kernel
set_option maxRecDepth 100000 in
theorem lc_11_44 : lw_g (6, 0xffffffff0000000000ffffffff0000000000ffffffff0000000000800000068000000600800000038000000305000000000000000b) = true := by decide +kernel
set_option maxRecDepth 100000 in
theorem lc_11_45 : lw_g (6, 0xffffffff0000000000ffffffff0000000000ffffffff0000000000800000078000000700800000038000000305000000000000000b) = true := by decide +kernel
set_option maxRecDepth 100000 in
theorem lc_11_46 : lw_g (6, 0xffffffff0000000000ffffffff0000000000ffffffff0000000000800000088000000800800000038000000305000000000000000b) = true := by decide +kernel
set_option maxRecDepth 100000 in
theorem lc_11_47 : lw_g (6, 0xffffffff0000000000ffffffff0000000000ffffffff0000000000800000098000000900800000038000000305000000000000000b) = true := by decide +kernel
set_option maxRecDepth 100000 in
theorem lc_11_48 : lw_g (6, 0xffffffff0000000000ffffffff0000000000ffffffff00000000008000000a8000000a00800000038000000305000000000000000b) = true := by decide +kernel
set_option maxRecDepth 100000 in
theorem lc_11_49 : lw_g (6, 0xffffffff0000000000ffffffff0000000000ffffffff00000000008000000b8000000b00800000038000000305000000000000000b) = true := by decide +kernel
set_option maxRecDepth 100000 in
theorem lc_11_50 : lw_g (6, 0xffffffff0000000000ffffffff0000000000ffffffff0000000000ffffffff8000000c00800000038000000005000000000000000b) = true := by decide +kernel
set_option maxRecDepth 100000 in
theorem lc_11_51 : lw_g (6, 0xffffffff0000000000ffffffff0000000000ffffffff0000000000ffffffff0000000000ffffffff8000000405000000000000000b) = true := by decide +kernel
theorem cv_11 (y1 y2 y3 y4 y5 : Nat) (h1 : y1 < 4294967296) (h2 : y2 < 4294967296) (h3 : y3 < 4294967296) (h4 : y4 < 4294967296) (h5 : y5 < 4294967296) : ∃ p, lw_g (6, p) = true ∧ iv_f6 11 y1 y2 y3 y4 y5 p := by
  rcases Nat.lt_or_ge y1 2147483648 with g | g
  · exact ⟨0xffffffff0000000000ffffffff0000000000ffffffff0000000000ffffffff00000000007fffffff0000000005000000000000000b, lc_11_0, iv_lf (a1 := 0) (b1 := 2147483647) (a2 := 0) (b2 := 4294967295) (a3 := 0) (b3 := 4294967295) (a4 := 0) (b4 := 4294967295) (a5 := 0) (b5 := 4294967295) (by decide +kernel) (by omega)⟩
  · rcases Nat.lt_or_ge y1 2147483652 with g | g
    · rcases Nat.lt_or_ge y2 2147483648 with g | g
      · exact ⟨0xffffffff0000000000ffffffff0000000000ffffffff00000000007fffffff0000000000800000038000000005000000000000000b, lc_11_1, iv_lf (a1 := 2147483648) (b1 := 2147483651) (a2 := 0) (b2 := 2147483647) (a3 := 0) (b3 := 4294967295) (a4 := 0) (b4 := 4294967295) (a5 := 0) (b5 := 4294967295) (by decide +kernel) (by omega)⟩
      · rcases Nat.lt_or_ge y2 2147483660 with g | g
        · rcases Nat.lt_or_ge y1 2147483649 with g | g
          · rcases Nat.lt_or_ge y2 2147483649 with g | g
            · exact ⟨0xffffffff0000000000ffffffff0000000000ffffffff0000000000800000008000000000800000008000000005000000000000000b, lc_11_2, iv_lf (a1 := 2147483648) (b1 := 2147483648) (a2 := 2147483648) (b2 := 2147483648) (a3 := 0) (b3 := 4294967295) (a4 := 0) (b4 := 4294967295) (a5 := 0) (b5 := 4294967295) (by decide +kernel) (by omega)⟩
            · rcases Nat.lt_or_ge y2 2147483650 with g | g
              · exact ⟨0xffffffff0000000000ffffffff0000000000ffffffff0000000000800000018000000100800000008000000005000000000000000b, lc_11_3, iv_lf (a1 := 2147483648) (b1 := 2147483648) (a2 := 2147483649) (b2 := 2147483649) (a3 := 0) (b3 := 4294967295) (a4 := 0) (b4 := 4294967295) (a5 := 0) (b5 := 4294967295) (by decide +kernel) (by omega)⟩
              · rcases Nat.lt_or_ge y2 2147483651 with g | g
                · exact ⟨0xffffffff0000000000ffffffff0000000000ffffffff0000000000800000028000000200800000008000000005000000000000000b, lc_11_4, iv_lf (a1 := 2147483648) (b1 := 2147483648) (a2 := 2147483650) (b2 := 2147483650) (a3 := 0) (b3 := 4294967295) (a4 := 0) (b4 := 4294967295) (a5 := 0) (b5 := 4294967295) (by decide +kernel) (by omega)⟩
                · rcases Nat.lt_or_ge y2 2147483652 with g | g
                  · exact ⟨0xffffffff0000000000ffffffff0000000000ffffffff0000000000800000038000000300800000008000000005000000000000000b, lc_11_5, iv_lf (a1 := 2147483648) (b1 := 2147483648) (a2 := 2147483651) (b2 := 2147483651) (a3 := 0) (b3 := 4294967295) (a4 := 0) (b4 := 4294967295) (a5 := 0) (b5 := 4294967295) (by decide +kernel) (by omega)⟩
                  · rcases Nat.lt_or_ge y2 2147483653 with g | g
                    · exact ⟨0xffffffff0000000000ffffffff0000000000ffffffff0000000000800000048000000400800000008000000005000000000000000b, lc_11_6, iv_lf (a1 := 2147483648) (b1 := 2147483648) (a2 := 2147483652) (b2 := 2147483652) (a3 := 0) (b3 := 4294967295) (a4 := 0) (b4 := 4294967295) (a5 := 0) (b5 := 4294967295) (by decide +kernel) (by omega)⟩
                    · rcases Nat.lt_or_ge y2 2147483654 with g | g
                      · exact ⟨0xffffffff0000000000ffffffff0000000000ffffffff0000000000800000058000000500800000008000000005000000000000000b, lc_11_7, iv_lf (a1 := 2147483648) (b1 := 2147483648) (a2 := 2147483653) (b2 := 2147483653) (a3 := 0) (b3 := 4294967295) (a4 := 0) (b4 := 4294967295) (a5 := 0) (b5 := 4294967295) (by decide +kernel) (by omega)⟩
                      · rcases Nat.lt_or_ge y2 2147483655 with g | g
                        · exact ⟨0xffffffff0000000000ffffffff0000000000ffffffff0000000000800000068000000600800000008000000005000000000000000b, lc_11_8, iv_lf (a1 := 2147483648) (b1 := 2147483648) (a2 := 2147483654) (b2 := 2147483654) (a3 := 0) (b3 := 4294967295) (a4 := 0) (b4 := 4294967295) (a5 := 0) (b5 := 4294967295) (by decide +kernel) (by omega)⟩
                        · rcases Nat.lt_or_ge y2 2147483656 with g | g
                          · exact ⟨0xffffffff0000000000ffffffff0000000000ffffffff0000000000800000078000000700800000008000000005000000000000000b, lc_11_9, iv_lf (a1 := 2147483648) (b1 := 2147483648) (a2 := 2147483655) (b2 := 2147483655) (a3 := 0) (b3 := 4294967295) (a4 := 0) (b4 := 4294967295) (a5 := 0) (b5 := 4294967295) (by decide +kernel) (by omega)⟩
                          · rcases Nat.lt_or_ge y2 2147483657 with g | g
                            · exact ⟨0xffffffff0000000000ffffffff0000000000ffffffff0000000000800000088000000800800000008000000005000000000000000b, lc_11_10, iv_lf (a1 := 2147483648) (b1 := 2147483648) (a2 := 2147483656) (b2 := 2147483656) (a3 := 0) (b3 := 4294967295) (a4 := 0) (b4 := 4294967295) (a5 := 0) (b5 := 4294967295) (by decide +kernel) (by omega)⟩
                            · rcases Nat.lt_or_ge y2 2147483658 with g | g
                              · exact ⟨0xffffffff0000000000ffffffff0000000000ffffffff0000000000800000098000000900800000008000000005000000000000000b, lc_11_11, iv_lf (a1 := 2147483648) (b1 := 2147483648) (a2 := 2147483657) (b2 := 2147483657) (a3 := 0) (b3 := 4294967295) (a4 := 0) (b4 := 4294967295) (a5 := 0) (b5 := 4294967295) (by decide +kernel) (by omega)⟩
                              · rcases Nat.lt_or_ge y2 2147483659 with g | g
                                · exact ⟨0xffffffff0000000000ffffffff0000000000ffffffff00000000008000000a8000000a00800000008000000005000000000000000b, lc_11_12, iv_lf (a1 := 2147483648) (b1 := 2147483648) (a2 := 2147483658) (b2 := 2147483658) (a3 := 0) (b3 := 4294967295) (a4 := 0) (b4 := 4294967295) (a5 := 0) (b5 := 4294967295) (by decide +kernel) (by omega)⟩
                                · exact ⟨0xffffffff0000000000ffffffff0000000000ffffffff00000000008000000b8000000b00800000008000000005000000000000000b, lc_11_13, iv_lf (a1 := 2147483648) (b1 := 2147483648) (a2 := 2147483659) (b2 := 2147483659) (a3 := 0) (b3 := 4294967295) (a4 := 0) (b4 := 4294967295) (a5 := 0) (b5 := 4294967295) (by decide +kernel) (by omega)⟩
          · rcases Nat.lt_or_ge y1 2147483650 with g | g
            · rcases Nat.lt_or_ge y2 2147483649 with g | g
              · exact ⟨0xffffffff0000000000ffffffff0000000000ffffffff0000000000800000008000000000800000018000000105000000000000000b, lc_11_14, iv_lf (a1 := 2147483649) (b1 := 2147483649) (a2 := 2147483648) (b2 := 2147483648) (a3 := 0) (b3 := 4294967295) (a4 := 0) (b4 := 4294967295) (a5 := 0) (b5 := 4294967295) (by decide +kernel) (by omega)⟩
              · rcases Nat.lt_or_ge y2 2147483650 with g | g
                · exact ⟨0xffffffff0000000000ffffffff0000000000ffffffff0000000000800000018000000100800000018000000105000000000000000b, lc_11_15, iv_lf (a1 := 2147483649) (b1 := 2147483649) (a2 := 2147483649) (b2 := 2147483649) (a3 := 0) (b3 := 4294967295) (a4 := 0) (b4 := 4294967295) (a5 := 0) (b5 := 4294967295) (by decide +kernel) (by omega)⟩
                · rcases Nat.lt_or_ge y2 2147483651 with g | g
                  · exact ⟨0xffffffff0000000000ffffffff0000000000ffffffff0000000000800000028000000200800000018000000105000000000000000b, lc_11_16, iv_lf (a1 := 2147483649) (b1 := 2147483649) (a2 := 2147483650) (b2 := 2147483650) (a3 := 0) (b3 := 4294967295) (a4 := 0) (b4 := 4294967295) (a5 := 0) (b5 := 4294967295) (by decide +kernel) (by omega)⟩
                  · rcases Nat.lt_or_ge y2 2147483652 with g | g
                    · exact ⟨0xffffffff0000000000ffffffff0000000000ffffffff0000000000800000038000000300800000018000000105000000000000000b, lc_11_17, iv_lf (a1 := 2147483649) (b1 := 2147483649) (a2 := 2147483651) (b2 := 2147483651) (a3 := 0) (b3 := 4294967295) (a4 := 0) (b4 := 4294967295) (a5 := 0) (b5 := 4294967295) (by decide +kernel) (by omega)⟩
                    · rcases Nat.lt_or_ge y2 2147483653 with g | g
                      · exact ⟨0xffffffff0000000000ffffffff0000000000ffffffff0000000000800000048000000400800000018000000105000000000000000b, lc_11_18, iv_lf (a1 := 2147483649) (b1 := 2147483649) (a2 := 2147483652) (b2 := 2147483652) (a3 := 0) (b3 := 4294967295) (a4 := 0) (b4 := 4294967295) (a5 := 0) (b5 := 4294967295) (by decide +kernel) (by omega)⟩
                      · rcases Nat.lt_or_ge y2 2147483654 with g | g
                        · exact ⟨0xffffffff0000000000ffffffff0000000000ffffffff0000000000800000058000000500800000018000000105000000000000000b, lc_11_19, iv_lf (a1 := 2147483649) (b1 := 2147483649) (a2 := 2147483653) (b2 := 2147483653) (a3 := 0) (b3 := 4294967295) (a4 := 0) (b4 := 4294967295) (a5 := 0) (b5 := 4294967295) (by decide +kernel) (by omega)⟩
                        · rcases Nat.lt_or_ge y2 2147483655 with g | g
                          · exact ⟨0xffffffff0000000000ffffffff0000000000ffffffff0000000000800000068000000600800000018000000105000000000000000b, lc_11_20, iv_lf (a1 := 2147483649) (b1 := 2147483649) (a2 := 2147483654) (b2 := 2147483654) (a3 := 0) (b3 := 4294967295) (a4 := 0) (b4 := 4294967295) (a5 := 0) (b5 := 4294967295) (by decide +kernel) (by omega)⟩
                          · rcases Nat.lt_or_ge y2 2147483656 with g | g
                            · exact ⟨0xffffffff0000000000ffffffff0000000000ffffffff0000000000800000078000000700800000018000000105000000000000000b, lc_11_21, iv_lf (a1 := 2147483649) (b1 := 2147483649) (a2 := 2147483655) (b2 := 2147483655) (a3 := 0) (b3 := 4294967295) (a4 := 0) (b4 := 4294967295) (a5 := 0) (b5 := 4294967295) (by decide +kernel) (by omega)⟩
                            · rcases Nat.lt_or_ge y2 2147483657 with g | g
                              · exact ⟨0xffffffff0000000000ffffffff0000000000ffffffff0000000000800000088000000800800000018000000105000000000000000b, lc_11_22, iv_lf (a1 := 2147483649) (b1 := 2147483649) (a2 := 2147483656) (b2 := 2147483656) (a3 := 0) (b3 := 4294967295) (a4 := 0) (b4 := 4294967295) (a5 := 0) (b5 := 4294967295) (by decide +kernel) (by omega)⟩
                              · rcases Nat.lt_or_ge y2 2147483658 with g | g
                                · exact ⟨0xffffffff0000000000ffffffff0000000000ffffffff0000000000800000098000000900800000018000000105000000000000000b, lc_11_23, iv_lf (a1 := 2147483649) (b1 := 2147483649) (a2 := 2147483657) (b2 := 2147483657) (a3 := 0) (b3 := 4294967295) (a4 := 0) (b4 := 4294967295) (a5 := 0) (b5 := 4294967295) (by decide +kernel) (by omega)⟩
                                · rcases Nat.lt_or_ge y2 2147483659 with g | g
                                  · exact ⟨0xffffffff0000000000ffffffff0000000000ffffffff00000000008000000a8000000a00800000018000000105000000000000000b, lc_11_24, iv_lf (a1 := 2147483649) (b1 := 2147483649) (a2 := 2147483658) (b2 := 2147483658) (a3 := 0) (b3 := 4294967295) (a4 := 0) (b4 := 4294967295) (a5 := 0) (b5 := 4294967295) (by decide +kernel) (by omega)⟩
                                  · exact ⟨0xffffffff0000000000ffffffff0000000000ffffffff00000000008000000b8000000b00800000018000000105000000000000000b, lc_11_25, iv_lf (a1 := 2147483649) (b1 := 2147483649) (a2 := 2147483659) (b2 := 2147483659) (a3 := 0) (b3 := 4294967295) (a4 := 0) (b4 := 4294967295) (a5 := 0) (b5 := 4294967295) (by decide +kernel) (by omega)⟩
            · rcases Nat.lt_or_ge y1 2147483651 with g | g
              · rcases Nat.lt_or_ge y2 2147483649 with g | g
                · exact ⟨0xffffffff0000000000ffffffff0000000000ffffffff0000000000800000008000000000800000028000000205000000000000000b, lc_11_26, iv_lf (a1 := 2147483650) (b1 := 2147483650) (a2 := 2147483648) (b2 := 2147483648) (a3 := 0) (b3 := 4294967295) (a4 := 0) (b4 := 4294967295) (a5 := 0) (b5 := 4294967295) (by decide +kernel) (by omega)⟩
                · rcases Nat.lt_or_ge y2 2147483650 with g | g
                  · exact ⟨0xffffffff0000000000ffffffff0000000000ffffffff0000000000800000018000000100800000028000000205000000000000000b, lc_11_27, iv_lf (a1 := 2147483650) (b1 := 2147483650) (a2 := 2147483649) (b2 := 2147483649) (a3 := 0) (b3 := 4294967295) (a4 := 0) (b4 := 4294967295) (a5 := 0) (b5 := 4294967295) (by decide +kernel) (by omega)⟩
                  · rcases Nat.lt_or_ge y2 2147483651 with g | g
                    · exact ⟨0xffffffff0000000000ffffffff0000000000ffffffff0000000000800000028000000200800000028000000205000000000000000b, lc_11_28, iv_lf (a1 := 2147483650) (b1 := 2147483650) (a2 := 2147483650) (b2 := 2147483650) (a3 := 0) (b3 := 4294967295) (a4 := 0) (b4 := 4294967295) (a5 := 0) (b5 := 4294967295) (by decide +kernel) (by omega)⟩
                    · rcases Nat.lt_or_ge y2 2147483652 with g | g
                      · exact ⟨0xffffffff0000000000ffffffff0000000000ffffffff0000000000800000038000000300800000028000000205000000000000000b, lc_11_29, iv_lf (a1 := 2147483650) (b1 := 2147483650) (a2 := 2147483651) (b2 := 2147483651) (a3 := 0) (b3 := 4294967295) (a4 := 0) (b4 := 4294967295) (a5 := 0) (b5 := 4294967295) (by decide +kernel) (by omega)⟩
                      · rcases Nat.lt_or_ge y2 2147483653 with g | g
                        · exact ⟨0xffffffff0000000000ffffffff0000000000ffffffff0000000000800000048000000400800000028000000205000000000000000b, lc_11_30, iv_lf (a1 := 2147483650) (b1 := 2147483650) (a2 := 2147483652) (b2 := 2147483652) (a3 := 0) (b3 := 4294967295) (a4 := 0) (b4 := 4294967295) (a5 := 0) (b5 := 4294967295) (by decide +kernel) (by omega)⟩
                        · rcases Nat.lt_or_ge y2 2147483654 with g | g
                          · exact ⟨0xffffffff0000000000ffffffff0000000000ffffffff0000000000800000058000000500800000028000000205000000000000000b, lc_11_31, iv_lf (a1 := 2147483650) (b1 := 2147483650) (a2 := 2147483653) (b2 := 2147483653) (a3 := 0) (b3 := 4294967295) (a4 := 0) (b4 := 4294967295) (a5 := 0) (b5 := 4294967295) (by decide +kernel) (by omega)⟩
                          · rcases Nat.lt_or_ge y2 2147483655 with g | g
                            · exact ⟨0xffffffff0000000000ffffffff0000000000ffffffff0000000000800000068000000600800000028000000205000000000000000b, lc_11_32, iv_lf (a1 := 2147483650) (b1 := 2147483650) (a2 := 2147483654) (b2 := 2147483654) (a3 := 0) (b3 := 4294967295) (a4 := 0) (b4 := 4294967295) (a5 := 0) (b5 := 4294967295) (by decide +kernel) (by omega)⟩
                            · rcases Nat.lt_or_ge y2 2147483656 with g | g
                              · exact ⟨0xffffffff0000000000ffffffff0000000000ffffffff0000000000800000078000000700800000028000000205000000000000000b, lc_11_33, iv_lf (a1 := 2147483650) (b1 := 2147483650) (a2 := 2147483655) (b2 := 2147483655) (a3 := 0) (b3 := 4294967295) (a4 := 0) (b4 := 4294967295) (a5 := 0) (b5 := 4294967295) (by decide +kernel) (by omega)⟩
                              · rcases Nat.lt_or_ge y2 2147483657 with g | g
                                · exact ⟨0xffffffff0000000000ffffffff0000000000ffffffff0000000000800000088000000800800000028000000205000000000000000b, lc_11_34, iv_lf (a1 := 2147483650) (b1 := 2147483650) (a2 := 2147483656) (b2 := 2147483656) (a3 := 0) (b3 := 4294967295) (a4 := 0) (b4 := 4294967295) (a5 := 0) (b5 := 4294967295) (by decide +kernel) (by omega)⟩
                                · rcases Nat.lt_or_ge y2 2147483658 with g | g
                                  · exact ⟨0xffffffff0000000000ffffffff0000000000ffffffff0000000000800000098000000900800000028000000205000000000000000b, lc_11_35, iv_lf (a1 := 2147483650) (b1 := 2147483650) (a2 := 2147483657) (b2 := 2147483657) (a3 := 0) (b3 := 4294967295) (a4 := 0) (b4 := 4294967295) (a5 := 0) (b5 := 4294967295) (by decide +kernel) (by omega)⟩
                                  · rcases Nat.lt_or_ge y2 2147483659 with g | g
                                    · exact ⟨0xffffffff0000000000ffffffff0000000000ffffffff00000000008000000a8000000a00800000028000000205000000000000000b, lc_11_36, iv_lf (a1 := 2147483650) (b1 := 2147483650) (a2 := 2147483658) (b2 := 2147483658) (a3 := 0) (b3 := 4294967295) (a4 := 0) (b4 := 4294967295) (a5 := 0) (b5 := 4294967295) (by decide +kernel) (by omega)⟩
                                    · exact ⟨0xffffffff0000000000ffffffff0000000000ffffffff00000000008000000b8000000b00800000028000000205000000000000000b, lc_11_37, iv_lf (a1 := 2147483650) (b1 := 2147483650) (a2 := 2147483659) (b2 := 2147483659) (a3 := 0) (b3 := 4294967295) (a4 := 0) (b4 := 4294967295) (a5 := 0) (b5 := 4294967295) (by decide +kernel) (by omega)⟩
              · rcases Nat.lt_or_ge y2 2147483649 with g | g
                · exact ⟨0xffffffff0000000000ffffffff0000000000ffffffff0000000000800000008000000000800000038000000305000000000000000b, lc_11_38, iv_lf (a1 := 2147483651) (b1 := 2147483651) (a2 := 2147483648) (b2 := 2147483648) (a3 := 0) (b3 := 4294967295) (a4 := 0) (b4 := 4294967295) (a5 := 0) (b5 := 4294967295) (by decide +kernel) (by omega)⟩
                · rcases Nat.lt_or_ge y2 2147483650 with g | g
                  · exact ⟨0xffffffff0000000000ffffffff0000000000ffffffff0000000000800000018000000100800000038000000305000000000000000b, lc_11_39, iv_lf (a1 := 2147483651) (b1 := 2147483651) (a2 := 2147483649) (b2 := 2147483649) (a3 := 0) (b3 := 4294967295) (a4 := 0) (b4 := 4294967295) (a5 := 0) (b5 := 4294967295) (by decide +kernel) (by omega)⟩
                  · rcases Nat.lt_or_ge y2 2147483651 with g | g
                    · exact ⟨0xffffffff0000000000ffffffff0000000000ffffffff0000000000800000028000000200800000038000000305000000000000000b, lc_11_40, iv_lf (a1 := 2147483651) (b1 := 2147483651) (a2 := 2147483650) (b2 := 2147483650) (a3 := 0) (b3 := 4294967295) (a4 := 0) (b4 := 4294967295) (a5 := 0) (b5 := 4294967295) (by decide +kernel) (by omega)⟩
                    · rcases Nat.lt_or_ge y2 2147483652 with g | g
                      · exact ⟨0xffffffff0000000000ffffffff0000000000ffffffff0000000000800000038000000300800000038000000305000000000000000b, lc_11_41, iv_lf (a1 := 2147483651) (b1 := 2147483651) (a2 := 2147483651) (b2 := 2147483651) (a3 := 0) (b3 := 4294967295) (a4 := 0) (b4 := 4294967295) (a5 := 0) (b5 := 4294967295) (by decide +kernel) (by omega)⟩
                      · rcases Nat.lt_or_ge y2 2147483653 with g | g
                        · exact ⟨0xffffffff0000000000ffffffff0000000000ffffffff0000000000800000048000000400800000038000000305000000000000000b, lc_11_42, iv_lf (a1 := 2147483651) (b1 := 2147483651) (a2 := 2147483652) (b2 := 2147483652) (a3 := 0) (b3 := 4294967295) (a4 := 0) (b4 := 4294967295) (a5 := 0) (b5 := 4294967295) (by decide +kernel) (by omega)⟩
                        · rcases Nat.lt_or_ge y2 2147483654 with g | g
                          · exact ⟨0xffffffff0000000000ffffffff0000000000ffffffff0000000000800000058000000500800000038000000305000000000000000b, lc_11_43, iv_lf (a1 := 2147483651) (b1 := 2147483651) (a2 := 2147483653) (b2 := 2147483653) (a3 := 0) (b3 := 4294967295) (a4 := 0) (b4 := 4294967295) (a5 := 0) (b5 := 4294967295) (by decide +kernel) (by omega)⟩
                          · rcases Nat.lt_or_ge y2 2147483655 with g | g
                            · exact ⟨0xffffffff0000000000ffffffff0000000000ffffffff0000000000800000068000000600800000038000000305000000000000000b, lc_11_44, iv_lf (a1 := 2147483651) (b1 := 2147483651) (a2 := 2147483654) (b2 := 2147483654) (a3 := 0) (b3 := 4294967295) (a4 := 0) (b4 := 4294967295) (a5 := 0) (b5 := 4294967295) (by decide +kernel) (by omega)⟩
                            · rcases Nat.lt_or_ge y2 2147483656 with g | g
                              · exact ⟨0xffffffff0000000000ffffffff0000000000ffffffff0000000000800000078000000700800000038000000305000000000000000b, lc_11_45, iv_lf (a1 := 2147483651) (b1 := 2147483651) (a2 := 2147483655) (b2 := 2147483655) (a3 := 0) (b3 := 4294967295) (a4 := 0) (b4 := 4294967295) (a5 := 0) (b5 := 4294967295) (by decide +kernel) (by omega)⟩
                              · rcases Nat.lt_or_ge y2 2147483657 with g | g
                                · exact ⟨0xffffffff0000000000ffffffff0000000000ffffffff0000000000800000088000000800800000038000000305000000000000000b, lc_11_46, iv_lf (a1 := 2147483651) (b1 := 2147483651) (a2 := 2147483656) (b2 := 2147483656) (a3 := 0) (b3 := 4294967295) (a4 := 0) (b4 := 4294967295) (a5 := 0) (b5 := 4294967295) (by decide +kernel) (by omega)⟩
                                · rcases Nat.lt_or_ge y2 2147483658 with g | g
                                  · exact ⟨0xffffffff0000000000ffffffff0000000000ffffffff0000000000800000098000000900800000038000000305000000000000000b, lc_11_47, iv_lf (a1 := 2147483651) (b1 := 2147483651) (a2 := 2147483657) (b2 := 2147483657) (a3 := 0) (b3 := 4294967295) (a4 := 0) (b4 := 4294967295) (a5 := 0) (b5 := 4294967295) (by decide +kernel) (by omega)⟩
                                  · rcases Nat.lt_or_ge y2 2147483659 with g | g
                                    · exact ⟨0xffffffff0000000000ffffffff0000000000ffffffff00000000008000000a8000000a00800000038000000305000000000000000b, lc_11_48, iv_lf (a1 := 2147483651) (b1 := 2147483651) (a2 := 2147483658) (b2 := 2147483658) (a3 := 0) (b3 := 4294967295) (a4 := 0) (b4 := 4294967295) (a5 := 0) (b5 := 4294967295) (by decide +kernel) (by omega)⟩
                                    · exact ⟨0xffffffff0000000000ffffffff0000000000ffffffff00000000008000000b8000000b00800000038000000305000000000000000b, lc_11_49, iv_lf (a1 := 2147483651) (b1 := 2147483651) (a2 := 2147483659) (b2 := 2147483659) (a3 := 0) (b3 := 4294967295) (a4 := 0) (b4 := 4294967295) (a5 := 0) (b5 := 4294967295) (by decide +kernel) (by omega)⟩
        · exact ⟨0xffffffff0000000000ffffffff0000000000ffffffff0000000000ffffffff8000000c00800000038000000005000000000000000b, lc_11_50, iv_lf (a1 := 2147483648) (b1 := 2147483651) (a2 := 2147483660) (b2 := 4294967295) (a3 := 0) (b3 := 4294967295) (a4 := 0) (b4 := 4294967295) (a5 := 0) (b5 := 4294967295) (by decide +kernel) (by omega)⟩
    · exact ⟨0xffffffff0000000000ffffffff0000000000ffffffff0000000000ffffffff0000000000ffffffff8000000405000000000000000b, lc_11_51, iv_lf (a1 := 2147483652) (b1 := 4294967295) (a2 := 0) (b2 := 4294967295) (a3 := 0) (b3 := 4294967295) (a4 := 0) (b4 := 4294967295) (a5 := 0) (b5 := 4294967295) (by decide +kernel) (by omega)⟩
set_option maxRecDepth 100000 in
theorem lc_12_0 : lw_g (6, 0xffffffff0000000000ffffffff0000000000ffffffff0000000000ffffffff00000000007fffffff0000000005000000000000000c) = true := by decide +kernel
set_option maxRecDepth 100000 in
theorem lc_12_1 : lw_g (6, 0xffffffff0000000000ffffffff0000000000ffffffff0000000000ffffffff0000000000ffffffff8000000005000000000000000c) = true := by decide +kernel
theorem cv_12 (y1 y2 y3 y4 y5 : Nat) (h1 : y1 < 4294967296) (h2 : y2 < 4294967296) (h3 : y3 < 4294967296) (h4 : y4 < 4294967296) (h5 : y5 < 4294967296) : ∃ p, lw_g (6, p) = true ∧ iv_f6 12 y1 y2 y3 y4 y5 p := by
  rcases Nat.lt_or_ge y1 2147483648 with g | g
  · exact ⟨0xffffffff0000000000ffffffff0000000000ffffffff0000000000ffffffff00000000007fffffff0000000005000000000000000c, lc_12_0, iv_lf (a1 := 0) (b1 := 2147483647) (a2 := 0) (b2 := 4294967295) (a3 := 0) (b3 := 4294967295) (a4 := 0) (b4 := 4294967295) (a5 := 0) (b5 := 4294967295) (by decide +kernel) (by omega)⟩
  · exact ⟨0xffffffff0000000000ffffffff0000000000ffffffff0000000000ffffffff0000000000ffffffff8000000005000000000000000c, lc_12_1, iv_lf (a1 := 2147483648) (b1 := 4294967295) (a2 := 0) (b2 := 4294967295) (a3 := 0) (b3 := 4294967295) (a4 := 0) (b4 := 4294967295) (a5 := 0) (b5 := 4294967295) (by decide +kernel) (by omega)⟩
