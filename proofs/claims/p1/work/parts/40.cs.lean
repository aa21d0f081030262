/-! ===== cases ===== -/
set_option maxRecDepth 100000 in
theorem lc_33_0 : lw_g (6, 0xffffffff0000000000ffffffff0000000000ffffffff0000000000ffffffff00000000007fffffff00000000050000000000000021) = true := by decide +kernel
set_option maxRecDepth 100000 in
theorem lc_33_1 : lw_g (6, 0xffffffff0000000000ffffffff0000000000ffffffff00000000007fffffff00000000008000000380000000050000000000000021) = true := by decide +kernel
set_option maxRecDepth 100000 in
theorem lc_33_2 : lw_g (6, 0xffffffff0000000000ffffffff0000000000ffffffff00000000008000000080000000008000000080000000050000000000000021) = true := by decide +kernel
set_option maxRecDepth 100000 in
theorem lc_33_3 : lw_g (6, 0xffffffff0000000000ffffffff0000000000ffffffff00000000008000000180000001008000000080000000050000000000000021) = true := by decide +kernel
set_option maxRecDepth 100000 in
theorem lc_33_4 : lw_g (6, 0xffffffff0000000000ffffffff0000000000ffffffff00000000008000000280000002008000000080000000050000000000000021) = true := by decide +kernel
set_option maxRecDepth 100000 in
theorem lc_33_5 : lw_g (6, 0xffffffff0000000000ffffffff0000000000ffffffff00000000008000000380000003008000000080000000050000000000000021) = true := by decide +kernel
set_option maxRecDepth 100000 in
theorem lc_33_6 : lw_g (6, 0xffffffff0000000000ffffffff0000000000ffffffff00000000008000000480000004008000000080000000050000000000000021) = true := by decide +kernel
set_option maxRecDepth 100000 in
theorem lc_33_7 : lw_g (6, 0xffffffff0000000000ffffffff0000000000ffffffff00000000008000000580000005008000000080000000050000000000000021) = true := by decide +kernel
set_option maxRecDepth 100000 in
theorem lc_33_8 : lw_g (6, 0xffffffff0000000000ffffffff0000000000ffffffff00000000008000000680000006008000000080000000050000000000000021) = true := by decide +kernel
set_option maxRecDepth 100000 in
theorem lc_33_9 : lw_g (6, 0xffffffff0000000000ffffffff0000000000ffffffff00000000008000000780000007008000000080000000050000000000000021) = true := by decide +kernel
set_option maxRecDepth 100000 in
theorem lc_33_10 : lw_g (6, 0xffffffff0000000000ffffffff0000000000ffffffff00000000008000000880000008008000000080000000050000000000000021) = true := by decide +kernel
set_option maxRecDepth 100000 in
theorem lc_33_11 : lw_g (6, 0xffffffff0000000000ffffffff0000000000ffffffff00000000008000000980000009008000000080000000050000000000000021) = true := by decide +kernel
set_option maxRecDepth 100000 in
theorem lc_33_12 : lw_g (6, 0xffffffff0000000000ffffffff0000000000ffffffff00000000008000000a8000000a008000000080000000050000000000000021) = true := by decide +kernel
set_option maxRecDepth 100000 in
theorem lc_33_13 : lw_g (6, 0xffffffff0000000000ffffffff0000000000ffffffff00000000008000000b8000000b008000000080000000050000000000000021) = true := by decide +kernel
set_option maxRecDepth 100000 in
theorem lc_33_14 : lw_g (6, 0xffffffff0000000000ffffffff0000000000ffffffff00000000008000000080000000008000000180000001050000000000000021) = true := by decide +kernel
set_option maxRecDepth 100000 in
theorem lc_33_15 : lw_g (6, 0xffffffff0000000000ffffffff0000000000ffffffff00000000008000000180000001008000000180000001050000000000000021) = true := by decide +kernel
set_option maxRecDepth 100000 in
theorem lc_33_16 : lw_g (6, 0xffffffff0000000000ffffffff0000000000ffffffff00000000008000000280000002008000000180000001050000000000000021) = true := by decide +kernel
set_option maxRecDepth 100000 in
theorem lc_33_17 : lw_g (6, 0xffffffff0000000000ffffffff0000000000ffffffff00000000008000000380000003008000000180000001050000000000000021) = true := by decide +kernel
set_option maxRecDepth 100000 in
theorem lc_33_18 : lw_g (6, 0xffffffff0000000000ffffffff0000000000ffffffff00000000008000000480000004008000000180000001050000000000000021) = true := by decide +kernel
set_option maxRecDepth 100000 in
theorem lc_33_19 : lw_g (6, 0xffffffff0000000000ffffffff0000000000ffffffff00000000008000000580000005008000000180000001050000000000000021) = true := by decide +kernel
set_option maxRecDepth 100000 in
theorem lc_33_20 : lw_g (6, 0xffffffff0000000000ffffffff0000000000ffffffff00000000008000000680000006008000000180000001050000000000000021) = true := by decide +kernel
set_option maxRecDepth 100000 in
theorem lc_33_21 : lw_g (6, 0xffffffff0000000000ffffffff0000000000ffffffff00000000008000000780000007008000000180000001050000000000000021) = true := by decide +kernel
set_option maxRecDepth 100000 in
theorem lc_33_22 : lw_g (6, 0xffffffff0000000000ffffffff0000000000ffffffff00000000008000000880000008008000000180000001050000000000000021) = true := by decide +kernel
set_option maxRecDepth 100000 in
theorem lc_33_23 : lw_g (6, 0xffffffff0000000000ffffffff0000000000ffffffff00000000008000000980000009008000000180000001050000000000000021) = true := by decide +kernel
set_option maxRecDepth 100000 in
theorem lc_33_24 : lw_g (6, 0xffffffff0000000000ffffffff0000000000ffffffff00000000008000000a8000000a008000000180000001050000000000000021) = true := by decide +kernel
set_option maxRecDepth 100000 in
theorem lc_33_25 : lw_g (6, 0xffffffff0000000000ffffffff0000000000ffffffff00000000008000000b8000000b008000000180000001050000000000000021) = true := by decide +kernel
set_option maxRecDepth 100000 in
theorem lc_33_26 : lw_g (6, 0xffffffff0000000000ffffffff0000000000ffffffff00000000008000000080000000008000000280000002050000000000000021) = true := by decide +kernel
set_option maxRecDepth 100000 in
theorem lc_33_27 : lw_g (6, 0xffffffff0000000000ffffffff0000000000ffffffff00000000008000000180000001008000000280000002050000000000000021) = true := by decide +kernel
set_option maxRecDepth 100000 in
theorem lc_33_28 : lw_g (6, 0xffffffff0000000000ffffffff0000000000ffffffff00000000008000000280000002008000000280000002050000000000000021) = true := by decide +kernel
set_option maxRecDepth 100000 in
theorem lc_33_29 : lw_g (6, 0xffffffff0000000000ffffffff0000000000ffffffff00000000008000000380000003008000000280000002050000000000000021) = true := by decide +kernel
set_option maxRecDepth 100000 in
theorem lc_33_30 : lw_g (6, 0xffffffff0000000000ffffffff0000000000ffffffff00000000008000000480000004008000000280000002050000000000000021) = true := by decide +kernel
set_option maxRecDepth 100000 in
theorem lc_33_31 : lw_g (6, 0xffffffff0000000000ffffffff0000000000ffffffff00000000008000000580000005008000000280000002050000000000000021) = true := by decide +kernel
set_option maxRecDepth 100000 in
theorem lc_33_32 : lw_g (6, 0xffffffff0000000000ffffffff0000000000ffffffff00000000008000000680000006008000000280000002050000000000000021) = true := by decide +kernel
set_option maxRecDepth 100000 in
theorem lc_33_33 : lw_g (6, 0xffffffff0000000000ffffffff0000000000ffffffff00000000008000000780000007008000000280000002050000000000000021) = true := by decide +kernel
set_option maxRecDepth 100000 in
theorem lc_33_34 : lw_g (6, 0xffffffff0000000000ffffffff0000000000ffffffff00000000008000000880000008008000000280000002050000000000000021) = true := by decide +kernel
set_option maxRecDepth 100000 in
theorem lc_33_35 : lw_g (6, 0xffffffff0000000000ffffffff0000000000ffffffff00000000008000000980000009008000000280000002050000000000000021) = true := by decide +kernel
set_option maxRecDepth 100000 in
theorem lc_33_36 : lw_g (6, 0xffffffff0000000000ffffffff0000000000ffffffff00000000008000000a8000000a008000000280000002050000000000000021) = true := by decide +kernel
set_option maxRecDepth 100000 in
theorem lc_33_37 : lw_g (6, 0xffffffff0000000000ffffffff0000000000ffffffff00000000008000000b8000000b008000000280000002050000000000000021) = true := by decide +kernel
set_option maxRecDepth 100000 in
theorem lc_33_38 : lw_g (6, 0xffffffff0000000000ffffffff0000000000ffffffff00000000008000000080000000008000000380000003050000000000000021) = true := by decide +kernel
set_option maxRecDepth 100000 in
theorem lc_33_39 : lw_g (6, 0xffffffff0000000000ffffffff0000000000ffffffff00000000008000000180000001008000000380000003050000000000000021) = true := by decide +kernel
set_option maxRecDepth 100000 in
theorem lc_33_40 : lw_g (6, 0xffffffff0000000000ffffffff0000000000ffffffff00000000008000000280000002008000000380000003050000000000000021) = true := by decide +kernel
set_option maxRecDepth 100000 in
theorem lc_33_41 : lw_g (6, 0xffffffff0000000000ffffffff0000000000ffffffff00000000008000000380000003008000000380000003050000000000000021) = true := by decide +kernel
set_option maxRecDepth 100000 in
theorem lc_33_42 : lw_g (6, 0xffffffff0000000000ffffffff0000000000ffffffff00000000008000000480000004008000000380000003050000000000000021) = true := by decide +kernel
set_option maxRecDepth 100000 in
theorem lc_33_43 : lw_g (6, 0xffffffff0000000000ffffffff0000000000ffffffff00000000008000000580000005008000000380000003050000000000000021) = true := by decide +kernel
set_option maxRecDepth 100000 in
theorem lc_33_44 : lw_g (6, 0xffffffff0000000000ffffffff0000000000ffffffff00000000008000000680000006008000000380000003050000000000000021) = true := by decide +kernel
set_option maxRecDepth 100000 in
theorem lc_33_45 : lw_g (6, 0xffffffff0000000000ffffffff0000000000ffffffff00000000008000000780000007008000000380000003050000000000000021) = true := by decide +kernel
set_option maxRecDepth 100000 in
theorem lc_33_46 : lw_g (6, 0xffffffff0000000000ffffffff0000000000ffffffff00000000008000000880000008008000000380000003050000000000000021) = true := by decide +kernel
set_option maxRecDepth 100000 in
theorem lc_33_47 : lw_g (6, 0xffffffff0000000000ffffffff0000000000ffffffff00000000008000000980000009008000000380000003050000000000000021) = true := by decide +kernel
set_option maxRecDepth 100000 in
theorem lc_33_48 : lw_g (6, 0xffffffff0000000000ffffffff0000000000ffffffff00000000008000000a8000000a008000000380000003050000000000000021) = true := by decide +kernel
set_option maxRecDepth 100000 in
theorem lc_33_49 : lw_g (6, 0xffffffff0000000000ffffffff0000000000ffffffff00000000008000000b8000000b008000000380000003050000000000000021) = true := by decide +kernel
set_option maxRecDepth 100000 in
theorem lc_33_50 : lw_g (6, 0xffffffff0000000000ffffffff0000000000ffffffff0000000000ffffffff8000000c008000000380000000050000000000000021) = true := by decide +kernel
set_option maxRecDepth 100000 in
theorem lc_33_51 : lw_g (6, 0xffffffff0000000000ffffffff0000000000ffffffff0000000000ffffffff0000000000ffffffff80000004050000000000000021) = true := by decide +kernel
theorem cv_33 (y1 y2 y3 y4 y5 : Nat) (h1 : y1 < 4294967296) (h2 : y2 < 4294967296) (h3 : y3 < 4294967296) (h4 : y4 < 4294967296) (h5 : y5 < 4294967296) : ∃ p, lw_g (6, p) = true ∧ iv_f6 33 y1 y2 y3 y4 y5 p := by
  rcases Nat.lt_or_ge y1 2147483648 with g | g
  · exact ⟨0xffffffff0000000000ffffffff0000000000ffffffff0000000000ffffffff00000000007fffffff00000000050000000000000021, lc_33_0, iv_lf (a1 := 0) (b1 := 2147483647) (a2 := 0) (b2 := 4294967295) (a3 := 0) (b3 := 4294967295) (a4 := 0) (b4 := 4294967295) (a5 := 0) (b5 := 4294967295) (by decide +kernel) (by omega)⟩
  · rcases Nat.lt_or_ge y1 2147483652 with g | g
    · rcases Nat.lt_or_ge y2 2147483648 with g | g
      · exact ⟨0xffffffff0000000000ffffffff0000000000ffffffff00000000007fffffff00000000008000000380000000050000000000000021, lc_33_1, iv_lf (a1 := 2147483648) (b1 := 2147483651) (a2 := 0) (b2 := 2147483647) (a3 := 0) (b3 := 4294967295) (a4 := 0) (b4 := 4294967295) (a5 := 0) (b5 := 4294967295) (by decide +kernel) (by omega)⟩
      · rcases Nat.lt_or_ge y2 2147483660 with g | g
        · rcases Nat.lt_or_ge y1 2147483649 with g | g
          · rcases Nat.lt_or_ge y2 2147483649 with g | g
            · exact ⟨0xffffffff0000000000ffffffff0000000000ffffffff00000000008000000080000000008000000080000000050000000000000021, lc_33_2, iv_lf (a1 := 2147483648) (b1 := 2147483648) (a2 := 2147483648) (b2 := 2147483648) (a3 := 0) (b3 := 4294967295) (a4 := 0) (b4 := 4294967295) (a5 := 0) (b5 := 4294967295) (by decide +kernel) (by omega)⟩
            · rcases Nat.lt_or_ge y2 2147483650 with g | g
              · exact ⟨0xffffffff0000000000ffffffff0000000000ffffffff00000000008000000180000001008000000080000000050000000000000021, lc_33_3, iv_lf (a1 := 2147483648) (b1 := 2147483648) (a2 := 2147483649) (b2 := 2147483649) (a3 := 0) (b3 := 4294967295) (a4 := 0) (b4 := 4294967295) (a5 := 0) (b5 := 4294967295) (by decide +kernel) (by omega)⟩
              · rcases Nat.lt_or_ge y2 2147483651 with g | g
                · exact ⟨0xffffffff0000000000ffffffff0000000000ffffffff00000000008000000280000002008000000080000000050000000000000021, lc_33_4, iv_lf (a1 := 2147483648) (b1 := 2147483648) (a2 := 2147483650) (b2 := 2147483650) (a3 := 0) (b3 := 4294967295) (a4 := 0) (b4 := 4294967295) (a5 := 0) (b5 := 4294967295) (by decide +kernel) (by omega)⟩
                · rcases Nat.lt_or_ge y2 2147483652 with g | g
                  · exact ⟨0xffffffff0000000000ffffffff0000000000ffffffff00000000008000000380000003008000000080000000050000000000000021, lc_33_5, iv_lf (a1 := 2147483648) (b1 := 2147483648) (a2 := 2147483651) (b2 := 2147483651) (a3 := 0) (b3 := 4294967295) (a4 := 0) (b4 := 4294967295) (a5 := 0) (b5 := 4294967295) (by decide +kernel) (by omega)⟩
                  · rcases Nat.lt_or_ge y2 2147483653 with g | g
                    · exact ⟨0xffffffff0000000000ffffffff0000000000ffffffff00000000008000000480000004008000000080000000050000000000000021, lc_33_6, iv_lf (a1 := 2147483648) (b1 := 2147483648) (a2 := 2147483652) (b2 := 2147483652) (a3 := 0) (b3 := 4294967295) (a4 := 0) (b4 := 4294967295) (a5 := 0) (b5 := 4294967295) (by decide +kernel) (by omega)⟩
                    · rcases Nat.lt_or_ge y2 2147483654 with g | g
                      · exact ⟨0xffffffff0000000000ffffffff0000000000ffffffff00000000008000000580000005008000000080000000050000000000000021, lc_33_7, iv_lf (a1 := 2147483648) (b1 := 2147483648) (a2 := 2147483653) (b2 := 2147483653) (a3 := 0) (b3 := 4294967295) (a4 := 0) (b4 := 4294967295) (a5 := 0) (b5 := 4294967295) (by decide +kernel) (by omega)⟩
                      · rcases Nat.lt_or_ge y2 2147483655 with g | g
                        · exact ⟨0xffffffff0000000000ffffffff0000000000ffffffff00000000008000000680000006008000000080000000050000000000000021, lc_33_8, iv_lf (a1 := 2147483648) (b1 := 2147483648) (a2 := 2147483654) (b2 := 2147483654) (a3 := 0) (b3 := 4294967295) (a4 := 0) (b4 := 4294967295) (a5 := 0) (b5 := 4294967295) (by decide +kernel) (by omega)⟩
                        · rcases Nat.lt_or_ge y2 2147483656 with g | g
                          · exact ⟨0xffffffff0000000000ffffffff0000000000ffffffff00000000008000000780000007008000000080000000050000000000000021, lc_33_9, iv_lf (a1 := 2147483648) (b1 := 2147483648) (a2 := 2147483655) (b2 := 2147483655) (a3 := 0) (b3 := 4294967295) (a4 := 0) (b4 := 4294967295) (a5 := 0) (b5 := 4294967295) (by decide +kernel) (by omega)⟩
                          · rcases Nat.lt_or_ge y2 2147483657 with g | g
                            · exact ⟨0xffffffff0000000000ffffffff0000000000ffffffff00000000008000000880000008008000000080000000050000000000000021, lc_33_10, iv_lf (a1 := 2147483648) (b1 := 2147483648) (a2 := 2147483656) (b2 := 2147483656) (a3 := 0) (b3 := 4294967295) (a4 := 0) (b4 := 4294967295) (a5 := 0) (b5 := 4294967295) (by decide +kernel) (by omega)⟩
                            · rcases Nat.lt_or_ge y2 2147483658 with g | g
                              · exact ⟨0xffffffff0000000000ffffffff0000000000ffffffff00000000008000000980000009008000000080000000050000000000000021, lc_33_11, iv_lf (a1 := 2147483648) (b1 := 2147483648) (a2 := 2147483657) (b2 := 2147483657) (a3 := 0) (b3 := 4294967295) (a4 := 0) (b4 := 4294967295) (a5 := 0) (b5 := 4294967295) (by decide +kernel) (by omega)⟩
                              · rcases Nat.lt_or_ge y2 2147483659 with g | g
                                · exact ⟨0xffffffff0000000000ffffffff0000000000ffffffff00000000008000000a8000000a008000000080000000050000000000000021, lc_33_12, iv_lf (a1 := 2147483648) (b1 := 2147483648) (a2 := 2147483658) (b2 := 2147483658) (a3 := 0) (b3 := 4294967295) (a4 := 0) (b4 := 4294967295) (a5 := 0) (b5 := 4294967295) (by decide +kernel) (by omega)⟩
                                · exact ⟨0xffffffff0000000000ffffffff0000000000ffffffff00000000008000000b8000000b008000000080000000050000000000000021, lc_33_13, iv_lf (a1 := 2147483648) (b1 := 2147483648) (a2 := 2147483659) (b2 := 2147483659) (a3 := 0) (b3 := 4294967295) (a4 := 0) (b4 := 4294967295) (a5 := 0) (b5 := 4294967295) (by decide +kernel) (by omega)⟩
          · rcases Nat.lt_or_ge y1 2147483650 with g | g
            · rcases Nat.lt_or_ge y2 2147483649 with g | g
              · exact ⟨0xffffffff0000000000ffffffff0000000000ffffffff00000000008000000080000000008000000180000001050000000000000021, lc_33_14, iv_lf (a1 := 2147483649) (b1 := 2147483649) (a2 := 2147483648) (b2 := 2147483648) (a3 := 0) (b3 := 4294967295) (a4 := 0) (b4 := 4294967295) (a5 := 0) (b5 := 4294967295) (by decide +kernel) (by omega)⟩
              · rcases Nat.lt_or_ge y2 2147483650 with g | g
                · exact ⟨0xffffffff0000000000ffffffff0000000000ffffffff00000000008000000180000001008000000180000001050000000000000021, lc_33_15, iv_lf (a1 := 2147483649) (b1 := 2147483649) (a2 := 2147483649) (b2 := 2147483649) (a3 := 0) (b3 := 4294967295) (a4 := 0) (b4 := 4294967295) (a5 := 0) (b5 := 4294967295) (by decide +kernel) (by omega)⟩
                · rcases Nat.lt_or_ge y2 2147483651 with g | g
                  · exact ⟨0xffffffff0000000000ffffffff0000000000ffffffff00000000008000000280000002008000000180000001050000000000000021, lc_33_16, iv_lf (a1 := 2147483649) (b1 := 2147483649) (a2 := 2147483650) (b2 := 2147483650) (a3 := 0) (b3 := 4294967295) (a4 := 0) (b4 := 4294967295) (a5 := 0) (b5 := 4294967295) (by decide +kernel) (by omega)⟩
                  · rcases Nat.lt_or_ge y2 2147483652 with g | g
                    · exact ⟨0xffffffff0000000000ffffffff0000000000ffffffff00000000008000000380000003008000000180000001050000000000000021, lc_33_17, iv_lf (a1 := 2147483649) (b1 := 2147483649) (a2 := 2147483651) (b2 := 2147483651) (a3 := 0) (b3 := 4294967295) (a4 := 0) (b4 := 4294967295) (a5 := 0) (b5 := 4294967295) (by decide +kernel) (by omega)⟩
                    · rcases Nat.lt_or_ge y2 2147483653 with g | g
                      · exact ⟨0xffffffff0000000000ffffffff0000000000ffffffff00000000008000000480000004008000000180000001050000000000000021, lc_33_18, iv_lf (a1 := 2147483649) (b1 := 2147483649) (a2 := 2147483652) (b2 := 2147483652) (a3 := 0) (b3 := 4294967295) (a4 := 0) (b4 := 4294967295) (a5 := 0) (b5 := 4294967295) (by decide +kernel) (by omega)⟩
                      · rcases Nat.lt_or_ge y2 2147483654 with g | g
                        · exact ⟨0xffffffff0000000000ffffffff0000000000ffffffff00000000008000000580000005008000000180000001050000000000000021, lc_33_19, iv_lf (a1 := 2147483649) (b1 := 2147483649) (a2 := 2147483653) (b2 := 2147483653) (a3 := 0) (b3 := 4294967295) (a4 := 0) (b4 := 4294967295) (a5 := 0) (b5 := 4294967295) (by decide +kernel) (by omega)⟩
                        · rcases Nat.lt_or_ge y2 2147483655 with g | g
                          · exact ⟨0xffffffff0000000000ffffffff0000000000ffffffff00000000008000000680000006008000000180000001050000000000000021, lc_33_20, iv_lf (a1 := 2147483649) (b1 := 2147483649) (a2 := 2147483654) (b2 := 2147483654) (a3 := 0) (b3 := 4294967295) (a4 := 0) (b4 := 4294967295) (a5 := 0) (b5 := 4294967295) (by decide +kernel) (by omega)⟩
                          · rcases Nat.lt_or_ge y2 2147483656 with g | g
                            · exact ⟨0xffffffff0000000000ffffffff0000000000ffffffff00000000008000000780000007008000000180000001050000000000000021, lc_33_21, iv_lf (a1 := 2147483649) (b1 := 2147483649) (a2 := 2147483655) (b2 := 2147483655) (a3 := 0) (b3 := 4294967295) (a4 := 0) (b4 := 4294967295) (a5 := 0) (b5 := 4294967295) (by decide +kernel) (by omega)⟩
                            · rcases Nat.lt_or_ge y2 2147483657 with g | g
                              · exact ⟨0xffffffff0000000000ffffffff0000000000ffffffff00000000008000000880000008008000000180000001050000000000000021, lc_33_22, iv_lf (a1 := 2147483649) (b1 := 2147483649) (a2 := 2147483656) (b2 := 2147483656) (a3 := 0) (b3 := 4294967295) (a4 := 0) (b4 := 4294967295) (a5 := 0) (b5 := 4294967295) (by decide +kernel) (by omega)⟩
                              · rcases Nat.lt_or_ge y2 2147483658 with g | g
                                · exact ⟨0xffffffff0000000000ffffffff0000000000ffffffff00000000008000000980000009008000000180000001050000000000000021, lc_33_23, iv_lf (a1 := 2147483649) (b1 := 2147483649) (a2 := 2147483657) (b2 := 2147483657) (a3 := 0) (b3 := 4294967295) (a4 := 0) (b4 := 4294967295) (a5 := 0) (b5 := 4294967295) (by decide +kernel) (by omega)⟩
                                · rcases Nat.lt_or_ge y2 2147483659 with g | g
                                  · exact ⟨0xffffffff0000000000ffffffff0000000000ffffffff00000000008000000a8000000a008000000180000001050000000000000021, lc_33_24, iv_lf (a1 := 2147483649) (b1 := 2147483649) (a2 := 2147483658) (b2 := 2147483658) (a3 := 0) (b3 := 4294967295) (a4 := 0) (b4 := 4294967295) (a5 := 0) (b5 := 4294967295) (by decide +kernel) (by omega)⟩
                                  · exact ⟨0xffffffff0000000000ffffffff0000000000ffffffff00000000008000000b8000000b008000000180000001050000000000000021, lc_33_25, iv_lf (a1 := 2147483649) (b1 := 2147483649) (a2 := 2147483659) (b2 := 2147483659) (a3 := 0) (b3 := 4294967295) (a4 := 0) (b4 := 4294967295) (a5 := 0) (b5 := 4294967295) (by decide +kernel) (by omega)⟩
            · rcases Nat.lt_or_ge y1 2147483651 with g | g
              · rcases Nat.lt_or_ge y2 2147483649 with g | g
                · exact ⟨0xffffffff0000000000ffffffff0000000000ffffffff00000000008000000080000000008000000280000002050000000000000021, lc_33_26, iv_lf (a1 := 2147483650) (b1 := 2147483650) (a2 := 2147483648) (b2 := 2147483648) (a3 := 0) (b3 := 4294967295) (a4 := 0) (b4 := 4294967295) (a5 := 0) (b5 := 4294967295) (by decide +kernel) (by omega)⟩
                · rcases Nat.lt_or_ge y2 2147483650 with g | g
                  · exact ⟨0xffffffff0000000000ffffffff0000000000ffffffff00000000008000000180000001008000000280000002050000000000000021, lc_33_27, iv_lf (a1 := 2147483650) (b1 := 2147483650) (a2 := 2147483649) (b2 := 2147483649) (a3 := 0) (b3 := 4294967295) (a4 := 0) (b4 := 4294967295) (a5 := 0) (b5 := 4294967295) (by decide +kernel) (by omega)⟩
                  · rcases Nat.lt_or_ge y2 2147483651 with g | g
                    · exact ⟨0xffffffff0000000000ffffffff0000000000ffffffff00000000008000000280000002008000000280000002050000000000000021, lc_33_28, iv_lf (a1 := 2147483650) (b1 := 2147483650) (a2 := 2147483650) (b2 := 2147483650) (a3 := 0) (b3 := 4294967295) (a4 := 0) (b4 := 4294967295) (a5 := 0) (b5 := 4294967295) (by decide +kernel) (by omega)⟩
                    · rcases Nat.lt_or_ge y2 2147483652 with g | g
                      · exact ⟨0xffffffff0000000000ffffffff0000000000ffffffff00000000008000000380000003008000000280000002050000000000000021, lc_33_29, iv_lf (a1 := 2147483650) (b1 := 2147483650) (a2 := 2147483651) (b2 := 2147483651) (a3 := 0) (b3 := 4294967295) (a4 := 0) (b4 := 4294967295) (a5 := 0) (b5 := 4294967295) (by decide +kernel) (by omega)⟩
                      · rcases Nat.lt_or_ge y2 2147483653 with g | g
                        · exact ⟨0xffffffff0000000000ffffffff0000000000ffffffff00000000008000000480000004008000000280000002050000000000000021, lc_33_30, iv_lf (a1 := 2147483650) (b1 := 2147483650) (a2 := 2147483652) (b2 := 2147483652) (a3 := 0) (b3 := 4294967295) (a4 := 0) (b4 := 4294967295) (a5 := 0) (b5 := 4294967295) (by decide +kernel) (by omega)⟩
                        · rcases Nat.lt_or_ge y2 2147483654 with g | g
                          · exact ⟨0xffffffff0000000000ffffffff0000000000ffffffff00000000008000000580000005008000000280000002050000000000000021, lc_33_31, iv_lf (a1 := 2147483650) (b1 := 2147483650) (a2 := 2147483653) (b2 := 2147483653) (a3 := 0) (b3 := 4294967295) (a4 := 0) (b4 := 4294967295) (a5 := 0) (b5 := 4294967295) (by decide +kernel) (by omega)⟩
                          · rcases Nat.lt_or_ge y2 2147483655 with g | g
                            · exact ⟨0xffffffff0000000000ffffffff0000000000ffffffff00000000008000000680000006008000000280000002050000000000000021, lc_33_32, iv_lf (a1 := 2147483650) (b1 := 2147483650) (a2 := 2147483654) (b2 := 2147483654) (a3 := 0) (b3 := 4294967295) (a4 := 0) (b4 := 4294967295) (a5 := 0) (b5 := 4294967295) (by decide +kernel) (by omega)⟩
                            · rcases Nat.lt_or_ge y2 2147483656 with g | g
                              · exact ⟨0xffffffff0000000000ffffffff0000000000ffffffff00000000008000000780000007008000000280000002050000000000000021, lc_33_33, iv_lf (a1 := 2147483650) (b1 := 2147483650) (a2 := 2147483655) (b2 := 2147483655) (a3 := 0) (b3 := 4294967295) (a4 := 0) (b4 := 4294967295) (a5 := 0) (b5 := 4294967295) (by decide +kernel) (by omega)⟩
                              · rcases Nat.lt_or_ge y2 2147483657 with g | g
                                · exact ⟨0xffffffff0000000000ffffffff0000000000ffffffff00000000008000000880000008008000000280000002050000000000000021, lc_33_34, iv_lf (a1 := 2147483650) (b1 := 2147483650) (a2 := 2147483656) (b2 := 2147483656) (a3 := 0) (b3 := 4294967295) (a4 := 0) (b4 := 4294967295) (a5 := 0) (b5 := 4294967295) (by decide +kernel) (by omega)⟩
                                · rcases Nat.lt_or_ge y2 2147483658 with g | g
                                  · exact ⟨0xffffffff0000000000ffffffff0000000000ffffffff00000000008000000980000009008000000280000002050000000000000021, lc_33_35, iv_lf (a1 := 2147483650) (b1 := 2147483650) (a2 := 2147483657) (b2 := 2147483657) (a3 := 0) (b3 := 4294967295) (a4 := 0) (b4 := 4294967295) (a5 := 0) (b5 := 4294967295) (by decide +kernel) (by omega)⟩
                                  · rcases Nat.lt_or_ge y2 2147483659 with g | g
                                    · exact ⟨0xffffffff0000000000ffffffff0000000000ffffffff00000000008000000a8000000a008000000280000002050000000000000021, lc_33_36, iv_lf (a1 := 2147483650) (b1 := 2147483650) (a2 := 2147483658) (b2 := 2147483658) (a3 := 0) (b3 := 4294967295) (a4 := 0) (b4 := 4294967295) (a5 := 0) (b5 := 4294967295) (by decide +kernel) (by omega)⟩
                                    · exact ⟨0xffffffff0000000000ffffffff0000000000ffffffff00000000008000000b8000000b008000000280000002050000000000000021, lc_33_37, iv_lf (a1 := 2147483650) (b1 := 2147483650) (a2 := 2147483659) (b2 := 2147483659) (a3 := 0) (b3 := 4294967295) (a4 := 0) (b4 := 4294967295) (a5 := 0) (b5 := 4294967295) (by decide +kernel) (by omega)⟩
              · rcases Nat.lt_or_ge y2 2147483649 with g | g
                · exact ⟨0xffffffff0000000000ffffffff0000000000ffffffff00000000008000000080000000008000000380000003050000000000000021, lc_33_38, iv_lf (a1 := 2147483651) (b1 := 2147483651) (a2 := 2147483648) (b2 := 2147483648) (a3 := 0) (b3 := 4294967295) (a4 := 0) (b4 := 4294967295) (a5 := 0) (b5 := 4294967295) (by decide +kernel) (by omega)⟩
                · rcases Nat.lt_or_ge y2 2147483650 with g | g
                  · exact ⟨0xffffffff0000000000ffffffff0000000000ffffffff00000000008000000180000001008000000380000003050000000000000021, lc_33_39, iv_lf (a1 := 2147483651) (b1 := 2147483651) (a2 := 2147483649) (b2 := 2147483649) (a3 := 0) (b3 := 4294967295) (a4 := 0) (b4 := 4294967295) (a5 := 0) (b5 := 4294967295) (by decide +kernel) (by omega)⟩
                  · rcases Nat.lt_or_ge y2 2147483651 with g | g
                    · exact ⟨0xffffffff0000000000ffffffff0000000000ffffffff00000000008000000280000002008000000380000003050000000000000021, lc_33_40, iv_lf (a1 := 2147483651) (b1 := 2147483651) (a2 := 2147483650) (b2 := 2147483650) (a3 := 0) (b3 := 4294967295) (a4 := 0) (b4 := 4294967295) (a5 := 0) (b5 := 4294967295) (by decide +kernel) (by omega)⟩
                    · rcases Nat.lt_or_ge y2 2147483652 with g | g
                      · exact ⟨0xffffffff0000000000ffffffff0000000000ffffffff00000000008000000380000003008000000380000003050000000000000021, lc_33_41, iv_lf (a1 := 2147483651) (b1 := 2147483651) (a2 := 2147483651) (b2 := 2147483651) (a3 := 0) (b3 := 4294967295) (a4 := 0) (b4 := 4294967295) (a5 := 0) (b5 := 4294967295) (by decide +kernel) (by omega)⟩
                      · rcases Nat.lt_or_ge y2 2147483653 with g | g
                        · exact ⟨0xffffffff0000000000ffffffff0000000000ffffffff00000000008000000480000004008000000380000003050000000000000021, lc_33_42, iv_lf (a1 := 2147483651) (b1 := 2147483651) (a2 := 2147483652) (b2 := 2147483652) (a3 := 0) (b3 := 4294967295) (a4 := 0) (b4 := 4294967295) (a5 := 0) (b5 := 4294967295) (by decide +kernel) (by omega)⟩
                        · rcases Nat.lt_or_ge y2 2147483654 with g | g
                          · exact ⟨0xffffffff0000000000ffffffff0000000000ffffffff00000000008000000580000005008000000380000003050000000000000021, lc_33_43, iv_lf (a1 := 2147483651) (b1 := 2147483651) (a2 := 2147483653) (b2 := 2147483653) (a3 := 0) (b3 := 4294967295) (a4 := 0) (b4 := 4294967295) (a5 := 0) (b5 := 4294967295) (by decide +kernel) (by omega)⟩
                          · rcases Nat.lt_or_ge y2 2147483655 with g | g
                            · exact ⟨0xffffffff0000000000ffffffff0000000000ffffffff00000000008000000680000006008000000380000003050000000000000021, lc_33_44, iv_lf (a1 := 2147483651) (b1 := 2147483651) (a2 := 2147483654) (b2 := 2147483654) (a3 := 0) (b3 := 4294967295) (a4 := 0) (b4 := 4294967295) (a5 := 0) (b5 := 4294967295) (by decide +kernel) (by omega)⟩
                            · rcases Nat.lt_or_ge y2 2147483656 with g | g
                              · exact ⟨0xffffffff0000000000ffffffff0000000000ffffffff00000000008000000780000007008000000380000003050000000000000021, lc_33_45, iv_lf (a1 := 2147483651) (b1 := 2147483651) (a2 := 2147483655) (b2 := 2147483655) (a3 := 0) (b3 := 4294967295) (a4 := 0) (b4 := 4294967295) (a5 := 0) (b5 := 4294967295) (by decide +kernel) (by omega)⟩
                              · rcases Nat.lt_or_ge y2 2147483657 with g | g
                                · exact ⟨0xffffffff0000000000ffffffff0000000000ffffffff00000000008000000880000008008000000380000003050000000000000021, lc_33_46, iv_lf (a1 := 2147483651) (b1 := 2147483651) (a2 := 2147483656) (b2 := 2147483656) (a3 := 0) (b3 := 4294967295) (a4 := 0) (b4 := 4294967295) (a5 := 0) (b5 := 4294967295) (by decide +kernel) (by omega)⟩
                                · rcases Nat.lt_or_ge y2 2147483658 with g | g
                                  · exact ⟨0xffffffff0000000000ffffffff0000000000ffffffff00000000008000000980000009008000000380000003050000000000000021, lc_33_47, iv_lf (a1 := 2147483651) (b1 := 2147483651) (a2 := 2147483657) (b2 := 2147483657) (a3 := 0) (b3 := 4294967295) (a4 := 0) (b4 := 4294967295) (a5 := 0) (b5 := 4294967295) (by decide +kernel) (by omega)⟩
                                  · rcases Nat.lt_or_ge y2 2147483659 with g | g
                                    · exact ⟨0xffffffff0000000000ffffffff0000000000ffffffff00000000008000000a8000000a008000000380000003050000000000000021, lc_33_48, iv_lf (a1 := 2147483651) (b1 := 2147483651) (a2 := 2147483658) (b2 := 2147483658) (a3 := 0) (b3 := 4294967295) (a4 := 0) (b4 := 4294967295) (a5 := 0) (b5 := 4294967295) (by decide +kernel) (by omega)⟩
                                    · exact ⟨0xffffffff0000000000ffffffff0000000000ffffffff00000000008000000b8000000b008000000380000003050000000000000021, lc_33_49, iv_lf (a1 := 2147483651) (b1 := 2147483651) (a2 := 2147483659) (b2 := 2147483659) (a3 := 0) (b3 := 4294967295) (a4 := 0) (b4 := 4294967295) (a5 := 0) (b5 := 4294967295) (by decide +kernel) (by omega)⟩
        · exact ⟨0xffffffff0000000000ffffffff0000000000ffffffff0000000000ffffffff8000000c008000000380000000050000000000000021, lc_33_50, iv_lf (a1 := 2147483648) (b1 := 2147483651) (a2 := 2147483660) (b2 := 4294967295) (a3 := 0) (b3 := 4294967295) (a4 := 0) (b4 := 4294967295) (a5 := 0) (b5 := 4294967295) (by decide +kernel) (by omega)⟩
    · exact ⟨0xffffffff0000000000ffffffff0000000000ffffffff0000000000ffffffff0000000000ffffffff80000004050000000000000021, lc_33_51, iv_lf (a1 := 2147483652) (b1 := 4294967295) (a2 := 0) (b2 := 4294967295) (a3 := 0) (b3 := 4294967295) (a4 := 0) (b4 := 4294967295) (a5 := 0) (b5 := 4294967295) (by decide +kernel) (by omega)⟩
set_option maxRecDepth 100000 in
theorem lc_34_0 : lw_g (6, 0xffffffff0000000000ffffffff0000000000ffffffff0000000000ffffffff0000000000ffffffff00000000050000000000000022) = true := by decide +kernel
theorem cv_34 (y1 y2 y3 y4 y5 : Nat) (h1 : y1 < 4294967296) (h2 : y2 < 4294967296) (h3 : y3 < 4294967296) (h4 : y4 < 4294967296) (h5 : y5 < 4294967296) : ∃ p, lw_g (6, p) = true ∧ iv_f6 34 y1 y2 y3 y4 y5 p := by
  exact ⟨0xffffffff0000000000ffffffff0000000000ffffffff0000000000ffffffff0000000000ffffffff00000000050000000000000022, lc_34_0, iv_lf (a1 := 0) (b1 := 4294967295) (a2 := 0) (b2 := 4294967295) (a3 := 0) (b3 := 4294967295) (a4 := 0) (b4 := 4294967295) (a5 := 0) (b5 := 4294967295) (by decide +kernel) (by omega)⟩
set_option maxRecDepth 100000 in
theorem lc_35_0 : lw_g (6, 0xffffffff0000000000ffffffff0000000000ffffffff0000000000ffffffff0000000000ffffffff00000000050000000000000023) = true := by decide +kernel
theorem cv_35 (y1 y2 y3 y4 y5 : Nat) (h1 : y1 < 4294967296) (h2 : y2 < 4294967296) (h3 : y3 < 4294967296) (h4 : y4 < 4294967296) (h5 : y5 < 4294967296) : ∃ p, lw_g (6, p) = true ∧ iv_f6 35 y1 y2 y3 y4 y5 p := by
  exact ⟨0xffffffff0000000000ffffffff0000000000ffffffff0000000000ffffffff0000000000ffffffff00000000050000000000000023, lc_35_0, iv_lf (a1 := 0) (b1 := 4294967295) (a2 := 0) (b2 := 4294967295) (a3 := 0) (b3 := 4294967295) (a4 := 0) (b4 := 4294967295) (a5 := 0) (b5 := 4294967295) (by decide +kernel) (by omega)⟩
set_option maxRecDepth 100000 in
theorem lc_36_0 : lw_g (6, 0xffffffff0000000000ffffffff0000000000ffffffff0000000000ffffffff00000000007fffffff00000000050000000000000024) = true := by decide +kernel
set_option maxRecDepth 100000 in
theorem lc_36_1 : lw_g (6, 0xffffffff0000000000ffffffff0000000000ffffffff0000000000ffffffff00000000008000000080000000050000000000000024) = true := by decide +kernel
set_option maxRecDepth 100000 in
theorem lc_36_2 : lw_g (6, 0xffffffff0000000000ffffffff0000000000ffffffff0000000000ffffffff00000000008000000180000001050000000000000024) = true := by decide +kernel
set_option maxRecDepth 100000 in
theorem lc_36_3 : lw_g (6, 0xffffffff0000000000ffffffff0000000000ffffffff0000000000ffffffff00000000008000000280000002050000000000000024) = true := by decide +kernel
set_option maxRecDepth 100000 in
theorem lc_36_4 : lw_g (6, 0xffffffff0000000000ffffffff0000000000ffffffff0000000000ffffffff00000000008000000380000003050000000000000024) = true := by decide +kernel
set_option maxRecDepth 100000 in
theorem lc_36_5 : lw_g (6, 0xffffffff0000000000ffffffff0000000000ffffffff0000000000ffffffff00000000008000000480000004050000000000000024) = true := by decide +kernel
set_option maxRecDepth 100000 in
theorem lc_36_6 : lw_g (6, 0xffffffff0000000000ffffffff0000000000ffffffff0000000000ffffffff00000000008000000580000005050000000000000024) = true := by decide +kernel
set_option maxRecDepth 100000 in
theorem lc_36_7 : lw_g (6, 0xffffffff0000000000ffffffff0000000000ffffffff0000000000ffffffff00000000008000000680000006050000000000000024) = true := by decide +kernel
set_option maxRecDepth 100000 in
theorem lc_36_8 : lw_g (6, 0xffffffff0000000000ffffffff0000000000ffffffff0000000000ffffffff00000000008000000780000007050000000000000024) = true := by decide +kernel
set_option maxRecDepth 100000 in
theorem lc_36_9 : lw_g (6, 0xffffffff0000000000ffffffff0000000000ffffffff0000000000ffffffff00000000008000000880000008050000000000000024) = true := by decide +kernel
set_option maxRecDepth 100000 in
theorem lc_36_10 : lw_g (6, 0xffffffff0000000000ffffffff0000000000ffffffff0000000000ffffffff00000000008000000980000009050000000000000024) = true := by decide +kernel
set_option maxRecDepth 100000 in
theorem lc_36_11 : lw_g (6, 0xffffffff0000000000ffffffff0000000000ffffffff0000000000ffffffff00000000008000000a8000000a050000000000000024) = true := by decide +kernel
set_option maxRecDepth 100000 in
theorem lc_36_12 : lw_g (6, 0xffffffff0000000000ffffffff0000000000ffffffff0000000000ffffffff00000000008000000b8000000b050000000000000024) = true := by decide +kernel
set_option maxRecDepth 100000 in
theorem lc_36_13 : lw_g (6, 0xffffffff0000000000ffffffff0000000000ffffffff0000000000ffffffff0000000000ffffffff8000000c050000000000000024) = true := by decide +kernel
theorem cv_36 (y1 y2 y3 y4 y5 : Nat) (h1 : y1 < 4294967296) (h2 : y2 < 4294967296) (h3 : y3 < 4294967296) (h4 : y4 < 4294967296) (h5 : y5 < 4294967296) : ∃ p, lw_g (6, p) = true ∧ iv_f6 36 y1 y2 y3 y4 y5 p := by
  rcases Nat.lt_or_ge y1 2147483648 with g | g
  · exact ⟨0xffffffff0000000000ffffffff0000000000ffffffff0000000000ffffffff00000000007fffffff00000000050000000000000024, lc_36_0, iv_lf (a1 := 0) (b1 := 2147483647) (a2 := 0) (b2 := 4294967295) (a3 := 0) (b3 := 4294967295) (a4 := 0) (b4 := 4294967295) (a5 := 0) (b5 := 4294967295) (by decide +kernel) (by omega)⟩
  · rcases Nat.lt_or_ge y1 2147483649 with g | g
    · exact ⟨0xffffffff0000000000ffffffff0000000000ffffffff0000000000ffffffff00000000008000000080000000050000000000000024, lc_36_1, iv_lf (a1 := 2147483648) (b1 := 2147483648) (a2 := 0) (b2 := 4294967295) (a3 := 0) (b3 := 4294967295) (a4 := 0) (b4 := 4294967295) (a5 := 0) (b5 := 4294967295) (by decide +kernel) (by omega)⟩
    · rcases Nat.lt_or_ge y1 2147483650 with g | g
      · exact ⟨0xffffffff0000000000ffffffff0000000000ffffffff0000000000ffffffff00000000008000000180000001050000000000000024, lc_36_2, iv_lf (a1 := 2147483649) (b1 := 2147483649) (a2 := 0) (b2 := 4294967295) (a3 := 0) (b3 := 4294967295) (a4 := 0) (b4 := 4294967295) (a5 := 0) (b5 := 4294967295) (by decide +kernel) (by omega)⟩
      · rcases Nat.lt_or_ge y1 2147483651 with g | g
        · exact ⟨0xffffffff0000000000ffffffff0000000000ffffffff0000000000ffffffff00000000008000000280000002050000000000000024, lc_36_3, iv_lf (a1 := 2147483650) (b1 := 2147483650) (a2 := 0) (b2 := 4294967295) (a3 := 0) (b3 := 4294967295) (a4 := 0) (b4 := 4294967295) (a5 := 0) (b5 := 4294967295) (by decide +kernel) (by omega)⟩
        · rcases Nat.lt_or_ge y1 2147483652 with g | g
          · exact ⟨0xffffffff0000000000ffffffff0000000000ffffffff0000000000ffffffff00000000008000000380000003050000000000000024, lc_36_4, iv_lf (a1 := 2147483651) (b1 := 2147483651) (a2 := 0) (b2 := 4294967295) (a3 := 0) (b3 := 4294967295) (a4 := 0) (b4 := 4294967295) (a5 := 0) (b5 := 4294967295) (by decide +kernel) (by omega)⟩
          · rcases Nat.lt_or_ge y1 2147483653 with g | g
            · exact ⟨0xffffffff0000000000ffffffff0000000000ffffffff0000000000ffffffff00000000008000000480000004050000000000000024, lc_36_5, iv_lf (a1 := 2147483652) (b1 := 2147483652) (a2 := 0) (b2 := 4294967295) (a3 := 0) (b3 := 4294967295) (a4 := 0) (b4 := 4294967295) (a5 := 0) (b5 := 4294967295) (by decide +kernel) (by omega)⟩
            · rcases Nat.lt_or_ge y1 2147483654 with g | g
              · exact ⟨0xffffffff0000000000ffffffff0000000000ffffffff0000000000ffffffff00000000008000000580000005050000000000000024, lc_36_6, iv_lf (a1 := 2147483653) (b1 := 2147483653) (a2 := 0) (b2 := 4294967295) (a3 := 0) (b3 := 4294967295) (a4 := 0) (b4 := 4294967295) (a5 := 0) (b5 := 4294967295) (by decide +kernel) (by omega)⟩
              · rcases Nat.lt_or_ge y1 2147483655 with g | g
                · exact ⟨0xffffffff0000000000ffffffff0000000000ffffffff0000000000ffffffff00000000008000000680000006050000000000000024, lc_36_7, iv_lf (a1 := 2147483654) (b1 := 2147483654) (a2 := 0) (b2 := 4294967295) (a3 := 0) (b3 := 4294967295) (a4 := 0) (b4 := 4294967295) (a5 := 0) (b5 := 4294967295) (by decide +kernel) (by omega)⟩
                · rcases Nat.lt_or_ge y1 2147483656 with g | g
                  · exact ⟨0xffffffff0000000000ffffffff0000000000ffffffff0000000000ffffffff00000000008000000780000007050000000000000024, lc_36_8, iv_lf (a1 := 2147483655) (b1 := 2147483655) (a2 := 0) (b2 := 4294967295) (a3 := 0) (b3 := 4294967295) (a4 := 0) (b4 := 4294967295) (a5 := 0) (b5 := 4294967295) (by decide +kernel) (by omega)⟩
                  · rcases Nat.lt_or_ge y1 2147483657 with g | g
                    · exact ⟨0xffffffff0000000000ffffffff0000000000ffffffff0000000000ffffffff00000000008000000880000008050000000000000024, lc_36_9, iv_lf (a1 := 2147483656) (b1 := 2147483656) (a2 := 0) (b2 := 4294967295) (a3 := 0) (b3 := 4294967295) (a4 := 0) (b4 := 4294967295) (a5 := 0) (b5 := 4294967295) (by decide +kernel) (by omega)⟩
                    · rcases Nat.lt_or_ge y1 2147483658 with g | g
                      · exact ⟨0xffffffff0000000000ffffffff0000000000ffffffff0000000000ffffffff00000000008000000980000009050000000000000024, lc_36_10, iv_lf (a1 := 2147483657) (b1 := 2147483657) (a2 := 0) (b2 := 4294967295) (a3 := 0) (b3 := 4294967295) (a4 := 0) (b4 := 4294967295) (a5 := 0) (b5 := 4294967295) (by decide +kernel) (by omega)⟩
                      · rcases Nat.lt_or_ge y1 2147483659 with g | g
                        · exact ⟨0xffffffff0000000000ffffffff0000000000ffffffff0000000000ffffffff00000000008000000a8000000a050000000000000024, lc_36_11, iv_lf (a1 := 2147483658) (b1 := 2147483658) (a2 := 0) (b2 := 4294967295) (a3 := 0) (b3 := 4294967295) (a4 := 0) (b4 := 4294967295) (a5 := 0) (b5 := 4294967295) (by decide +kernel) (by omega)⟩
                        · rcases Nat.lt_or_ge y1 2147483660 with g | g
                          · exact ⟨0xffffffff0000000000ffffffff0000000000ffffffff0000000000ffffffff00000000008000000b8000000b050000000000000024, lc_36_12, iv_lf (a1 := 2147483659) (b1 := 2147483659) (a2 := 0) (b2 := 4294967295) (a3 := 0) (b3 := 4294967295) (a4 := 0) (b4 := 4294967295) (a5 := 0) (b5 := 4294967295) (by decide +kernel) (by omega)⟩
                          · exact ⟨0xffffffff0000000000ffffffff0000000000ffffffff0000000000ffffffff0000000000ffffffff8000000c050000000000000024, lc_36_13, iv_lf (a1 := 2147483660) (b1 := 4294967295) (a2 := 0) (b2 := 4294967295) (a3 := 0) (b3 := 4294967295) (a4 := 0) (b4 := 4294967295) (a5 := 0) (b5 := 4294967295) (by decide +kernel) (by omega)⟩
set_option maxRecDepth 100000 in
theorem lc_37_0 : lw_g (6, 0xffffffff0000000000ffffffff0000000000ffffffff0000000000ffffffff0000000000ffffffff00000000050000000000000025) = true := by decide +kernel
theorem cv_37 (y1 y2 y3 y4 y5 : Nat) (h1 : y1 < 4294967296) (h2 : y2 < 4294967296) (h3 : y3 < 4294967296) (h4 : y4 < 4294967296) (h5 : y5 < 4294967296) : ∃ p, lw_g (6, p) = true ∧ iv_f6 37 y1 y2 y3 y4 y5 p := by
  exact ⟨0xffffffff0000000000ffffffff0000000000ffffffff0000000000ffffffff0000000000ffffffff00000000050000000000000025, lc_37_0, iv_lf (a1 := 0) (b1 := 4294967295) (a2 := 0) (b2 := 4294967295) (a3 := 0) (b3 := 4294967295) (a4 := 0) (b4 := 4294967295) (a5 := 0) (b5 := 4294967295) (by decide +kernel) (by omega)⟩
set_option maxRecDepth 100000 in
theorem lc_38_0 : lw_g (6, 0xffffffff0000000000ffffffff0000000000ffffffff0000000000ffffffff0000000000ffffffff00000000050000000000000026) = true := by decide +kernel
theorem cv_38 (y1 y2 y3 y4 y5 : Nat) (h1 : y1 < 4294967296) (h2 : y2 < 4294967296) (h3 : y3 < 4294967296) (h4 : y4 < 4294967296) (h5 : y5 < 4294967296) : ∃ p, lw_g (6, p) = true ∧ iv_f6 38 y1 y2 y3 y4 y5 p := by
  exact ⟨0xffffffff0000000000ffffffff0000000000ffffffff0000000000ffffffff0000000000ffffffff00000000050000000000000026, lc_38_0, iv_lf (a1 := 0) (b1 := 4294967295) (a2 := 0) (b2 := 4294967295) (a3 := 0) (b3 := 4294967295) (a4 := 0) (b4 := 4294967295) (a5 := 0) (b5 := 4294967295) (by decide +kernel) (by omega)⟩
