/-! ===== the law's cases ===== -/
noncomputable def lw_g (sc : Nat × Nat) : Bool := iv_okr (iv_ev sc sm_all 100000 (50, 310, 0, 0) (pg_c 310) 0 [55340232221128654849, 147573952589676412928, 147573952589676412928, 147573952589676412928, 147573952589676412928, 147573952589676412928, 147573952589676412928] [] hp_0) 9223372043297226753
def iv_fc (v y : Nat) : Prop := v < 18446744073709551616 ∧ v % 4294967296 ≤ y ∧ y ≤ v / 4294967296
def iv_f6 (op y1 y2 y3 y4 y5 p : Nat) : Prop := iv_gt p 0 = 92233720368547758080 + op ∧ iv_fc (iv_gt p 1) y1 ∧ iv_fc (iv_gt p 2) y2 ∧ iv_fc (iv_gt p 3) y3 ∧ iv_fc (iv_gt p 4) y4 ∧ iv_fc (iv_gt p 5) y5
theorem iv_fc_of {v a b y : Nat} (hv : v = a + 4294967296 * b ∧ a < 4294967296 ∧ b < 4294967296) (hy : a ≤ y ∧ y ≤ b) : iv_fc v y := by
  unfold iv_fc
  omega
theorem iv_lf {op y1 y2 y3 y4 y5 p a1 b1 a2 b2 a3 b3 a4 b4 a5 b5 : Nat} (hp : iv_gt p 0 = 92233720368547758080 + op ∧ (iv_gt p 1 = a1 + 4294967296 * b1 ∧ a1 < 4294967296 ∧ b1 < 4294967296) ∧ (iv_gt p 2 = a2 + 4294967296 * b2 ∧ a2 < 4294967296 ∧ b2 < 4294967296) ∧ (iv_gt p 3 = a3 + 4294967296 * b3 ∧ a3 < 4294967296 ∧ b3 < 4294967296) ∧ (iv_gt p 4 = a4 + 4294967296 * b4 ∧ a4 < 4294967296 ∧ b4 < 4294967296) ∧ (iv_gt p 5 = a5 + 4294967296 * b5 ∧ a5 < 4294967296 ∧ b5 < 4294967296))
    (hy : (a1 ≤ y1 ∧ y1 ≤ b1) ∧ (a2 ≤ y2 ∧ y2 ≤ b2) ∧ (a3 ≤ y3 ∧ y3 ≤ b3) ∧ (a4 ≤ y4 ∧ y4 ≤ b4) ∧ (a5 ≤ y5 ∧ y5 ≤ b5)) : iv_f6 op y1 y2 y3 y4 y5 p :=
  ⟨hp.1, iv_fc_of hp.2.1 hy.1, iv_fc_of hp.2.2.1 hy.2.1, iv_fc_of hp.2.2.2.1 hy.2.2.1, iv_fc_of hp.2.2.2.2.1 hy.2.2.2.1, iv_fc_of hp.2.2.2.2.2 hy.2.2.2.2⟩
set_option maxRecDepth 100000 in
theorem ls_0 : lw_g (0, 0x1) = true := by decide +kernel
set_option maxRecDepth 100000 in
theorem ls_1 : lw_g (1, 0xffffffff00000000) = true := by decide +kernel
set_option maxRecDepth 100000 in
theorem ls_2 : lw_g (2, 0xffffffff0000000000ffffffff00000000) = true := by decide +kernel
set_option maxRecDepth 100000 in
theorem ls_3 : lw_g (3, 0xffffffff0000000000ffffffff0000000000ffffffff00000000) = true := by decide +kernel
set_option maxRecDepth 100000 in
theorem ls_4 : lw_g (4, 0xffffffff0000000000ffffffff0000000000ffffffff0000000000ffffffff00000000) = true := by decide +kernel
set_option maxRecDepth 100000 in
theorem ls_5 : lw_g (5, 0xffffffff0000000000ffffffff0000000000ffffffff0000000000ffffffff0000000000ffffffff00000000) = true := by decide +kernel
set_option maxRecDepth 100000 in
theorem lc_0_0 : lw_g (6, 0xffffffff0000000000ffffffff0000000000ffffffff0000000000ffffffff0000000000ffffffff00000000050000000000000000) = true := by decide +kernel
theorem cv_0 (y1 y2 y3 y4 y5 : Nat) (h1 : y1 < 4294967296) (h2 : y2 < 4294967296) (h3 : y3 < 4294967296) (h4 : y4 < 4294967296) (h5 : y5 < 4294967296) : ∃ p, lw_g (6, p) = true ∧ iv_f6 0 y1 y2 y3 y4 y5 p := by
  exact ⟨0xffffffff0000000000ffffffff0000000000ffffffff0000000000ffffffff0000000000ffffffff00000000050000000000000000, lc_0_0, iv_lf (a1 := 0) (b1 := 4294967295) (a2 := 0) (b2 := 4294967295) (a3 := 0) (b3 := 4294967295) (a4 := 0) (b4 := 4294967295) (a5 := 0) (b5 := 4294967295) (by decide +kernel) (by omega)⟩
set_option maxRecDepth 100000 in
theorem lc_1_0 : lw_g (6, 0xffffffff0000000000ffffffff0000000000ffffffff0000000000ffffffff00000000007fffffff00000000050000000000000001) = true := by decide +kernel
set_option maxRecDepth 100000 in
theorem lc_1_1 : lw_g (6, 0xffffffff0000000000ffffffff0000000000ffffffff0000000000ffffffff00000000008000000080000000050000000000000001) = true := by decide +kernel
set_option maxRecDepth 100000 in
theorem lc_1_2 : lw_g (6, 0xffffffff0000000000ffffffff0000000000ffffffff0000000000ffffffff0000000000ffffffff80000001050000000000000001) = true := by decide +kernel
theorem cv_1 (y1 y2 y3 y4 y5 : Nat) (h1 : y1 < 4294967296) (h2 : y2 < 4294967296) (h3 : y3 < 4294967296) (h4 : y4 < 4294967296) (h5 : y5 < 4294967296) : ∃ p, lw_g (6, p) = true ∧ iv_f6 1 y1 y2 y3 y4 y5 p := by
  rcases Nat.lt_or_ge y1 2147483648 with g | g
  · exact ⟨0xffffffff0000000000ffffffff0000000000ffffffff0000000000ffffffff00000000007fffffff00000000050000000000000001, lc_1_0, iv_lf (a1 := 0) (b1 := 2147483647) (a2 := 0) (b2 := 4294967295) (a3 := 0) (b3 := 4294967295) (a4 := 0) (b4 := 4294967295) (a5 := 0) (b5 := 4294967295) (by decide +kernel) (by omega)⟩
  · rcases Nat.lt_or_ge y1 2147483649 with g | g
    · exact ⟨0xffffffff0000000000ffffffff0000000000ffffffff0000000000ffffffff00000000008000000080000000050000000000000001, lc_1_1, iv_lf (a1 := 2147483648) (b1 := 2147483648) (a2 := 0) (b2 := 4294967295) (a3 := 0) (b3 := 4294967295) (a4 := 0) (b4 := 4294967295) (a5 := 0) (b5 := 4294967295) (by decide +kernel) (by omega)⟩
    · exact ⟨0xffffffff0000000000ffffffff0000000000ffffffff0000000000ffffffff0000000000ffffffff80000001050000000000000001, lc_1_2, iv_lf (a1 := 2147483649) (b1 := 4294967295) (a2 := 0) (b2 := 4294967295) (a3 := 0) (b3 := 4294967295) (a4 := 0) (b4 := 4294967295) (a5 := 0) (b5 := 4294967295) (by decide +kernel) (by omega)⟩
set_option maxRecDepth 100000 in
theorem lc_2_0 : lw_g (6, 0xffffffff0000000000ffffffff0000000000ffffffff0000000000ffffffff0000000000ffffffff00000000050000000000000002) = true := by decide +kernel
theorem cv_2 (y1 y2 y3 y4 y5 : Nat) (h1 : y1 < 4294967296) (h2 : y2 < 4294967296) (h3 : y3 < 4294967296) (h4 : y4 < 4294967296) (h5 : y5 < 4294967296) : ∃ p, lw_g (6, p) = true ∧ iv_f6 2 y1 y2 y3 y4 y5 p := by
  exact ⟨0xffffffff0000000000ffffffff0000000000ffffffff0000000000ffffffff0000000000ffffffff00000000050000000000000002, lc_2_0, iv_lf (a1 := 0) (b1 := 4294967295) (a2 := 0) (b2 := 4294967295) (a3 := 0) (b3 := 4294967295) (a4 := 0) (b4 := 4294967295) (a5 := 0) (b5 := 4294967295) (by decide +kernel) (by omega)⟩
set_option maxRecDepth 100000 in
theorem lc_3_0 : lw_g (6, 0xffffffff0000000000ffffffff0000000000ffffffff0000000000ffffffff0000000000ffffffff00000000050000000000000003) = true := by decide +kernel
theorem cv_3 (y1 y2 y3 y4 y5 : Nat) (h1 : y1 < 4294967296) (h2 : y2 < 4294967296) (h3 : y3 < 4294967296) (h4 : y4 < 4294967296) (h5 : y5 < 4294967296) : ∃ p, lw_g (6, p) = true ∧ iv_f6 3 y1 y2 y3 y4 y5 p := by
  exact ⟨0xffffffff0000000000ffffffff0000000000ffffffff0000000000ffffffff0000000000ffffffff00000000050000000000000003, lc_3_0, iv_lf (a1 := 0) (b1 := 4294967295) (a2 := 0) (b2 := 4294967295) (a3 := 0) (b3 := 4294967295) (a4 := 0) (b4 := 4294967295) (a5 := 0) (b5 := 4294967295) (by decide +kernel) (by omega)⟩
set_option maxRecDepth 100000 in
theorem lc_4_0 : lw_g (6, 0xffffffff0000000000ffffffff0000000000ffffffff0000000000ffffffff00000000008000000100000000050000000000000004) = true := by decide +kernel
set_option maxRecDepth 100000 in
theorem lc_4_1 : lw_g (6, 0xffffffff0000000000ffffffff0000000000ffffffff0000000000ffffffff00000000008000000280000002050000000000000004) = true := by decide +kernel
set_option maxRecDepth 100000 in
theorem lc_4_2 : lw_g (6, 0xffffffff0000000000ffffffff0000000000ffffffff0000000000ffffffff00000000008000000380000003050000000000000004) = true := by decide +kernel
set_option maxRecDepth 100000 in
theorem lc_4_3 : lw_g (6, 0xffffffff0000000000ffffffff0000000000ffffffff0000000000ffffffff00000000008000000480000004050000000000000004) = true := by decide +kernel
set_option maxRecDepth 100000 in
theorem lc_4_4 : lw_g (6, 0xffffffff0000000000ffffffff0000000000ffffffff0000000000ffffffff00000000008000000580000005050000000000000004) = true := by decide +kernel
set_option maxRecDepth 100000 in
theorem lc_4_5 : lw_g (6, 0xffffffff0000000000ffffffff0000000000ffffffff0000000000ffffffff00000000008000000680000006050000000000000004) = true := by decide +kernel
set_option maxRecDepth 100000 in
theorem lc_4_6 : lw_g (6, 0xffffffff0000000000ffffffff0000000000ffffffff0000000000ffffffff0000000000ffffffff80000007050000000000000004) = true := by decide +kernel
theorem cv_4 (y1 y2 y3 y4 y5 : Nat) (h1 : y1 < 4294967296) (h2 : y2 < 4294967296) (h3 : y3 < 4294967296) (h4 : y4 < 4294967296) (h5 : y5 < 4294967296) : ∃ p, lw_g (6, p) = true ∧ iv_f6 4 y1 y2 y3 y4 y5 p := by
  rcases Nat.lt_or_ge y1 2147483650 with g | g
  · exact ⟨0xffffffff0000000000ffffffff0000000000ffffffff0000000000ffffffff00000000008000000100000000050000000000000004, lc_4_0, iv_lf (a1 := 0) (b1 := 2147483649) (a2 := 0) (b2 := 4294967295) (a3 := 0) (b3 := 4294967295) (a4 := 0) (b4 := 4294967295) (a5 := 0) (b5 := 4294967295) (by decide +kernel) (by omega)⟩
  · rcases Nat.lt_or_ge y1 2147483655 with g | g
    · rcases Nat.lt_or_ge y1 2147483651 with g | g
      · exact ⟨0xffffffff0000000000ffffffff0000000000ffffffff0000000000ffffffff00000000008000000280000002050000000000000004, lc_4_1, iv_lf (a1 := 2147483650) (b1 := 2147483650) (a2 := 0) (b2 := 4294967295) (a3 := 0) (b3 := 4294967295) (a4 := 0) (b4 := 4294967295) (a5 := 0) (b5 := 4294967295) (by decide +kernel) (by omega)⟩
      · rcases Nat.lt_or_ge y1 2147483652 with g | g
        · exact ⟨0xffffffff0000000000ffffffff0000000000ffffffff0000000000ffffffff00000000008000000380000003050000000000000004, lc_4_2, iv_lf (a1 := 2147483651) (b1 := 2147483651) (a2 := 0) (b2 := 4294967295) (a3 := 0) (b3 := 4294967295) (a4 := 0) (b4 := 4294967295) (a5 := 0) (b5 := 4294967295) (by decide +kernel) (by omega)⟩
        · rcases Nat.lt_or_ge y1 2147483653 with g | g
          · exact ⟨0xffffffff0000000000ffffffff0000000000ffffffff0000000000ffffffff00000000008000000480000004050000000000000004, lc_4_3, iv_lf (a1 := 2147483652) (b1 := 2147483652) (a2 := 0) (b2 := 4294967295) (a3 := 0) (b3 := 4294967295) (a4 := 0) (b4 := 4294967295) (a5 := 0) (b5 := 4294967295) (by decide +kernel) (by omega)⟩
          · rcases Nat.lt_or_ge y1 2147483654 with g | g
            · exact ⟨0xffffffff0000000000ffffffff0000000000ffffffff0000000000ffffffff00000000008000000580000005050000000000000004, lc_4_4, iv_lf (a1 := 2147483653) (b1 := 2147483653) (a2 := 0) (b2 := 4294967295) (a3 := 0) (b3 := 4294967295) (a4 := 0) (b4 := 4294967295) (a5 := 0) (b5 := 4294967295) (by decide +kernel) (by omega)⟩
            · exact ⟨0xffffffff0000000000ffffffff0000000000ffffffff0000000000ffffffff00000000008000000680000006050000000000000004, lc_4_5, iv_lf (a1 := 2147483654) (b1 := 2147483654) (a2 := 0) (b2 := 4294967295) (a3 := 0) (b3 := 4294967295) (a4 := 0) (b4 := 4294967295) (a5 := 0) (b5 := 4294967295) (by decide +kernel) (by omega)⟩
    · exact ⟨0xffffffff0000000000ffffffff0000000000ffffffff0000000000ffffffff0000000000ffffffff80000007050000000000000004, lc_4_6, iv_lf (a1 := 2147483655) (b1 := 4294967295) (a2 := 0) (b2 := 4294967295) (a3 := 0) (b3 := 4294967295) (a4 := 0) (b4 := 4294967295) (a5 := 0) (b5 := 4294967295) (by decide +kernel) (by omega)⟩
set_option maxRecDepth 100000 in
theorem lc_5_0 : lw_g (6, 0xffffffff0000000000ffffffff0000000000ffffffff0000000000ffffffff00000000007fffffff00000000050000000000000005) = true := by decide +kernel
set_option maxRecDepth 100000 in
theorem lc_5_1 : lw_g (6, 0xffffffff0000000000ffffffff0000000000ffffffff00000000007fffffff00000000008000000380000000050000000000000005) = true := by decide +kernel
set_option maxRecDepth 100000 in
theorem lc_5_2 : lw_g (6, 0xffffffff0000000000ffffffff0000000000ffffffff00000000008000000b80000000008000000080000000050000000000000005) = true := by decide +kernel
set_option maxRecDepth 100000 in
theorem lc_5_3 : lw_g (6, 0xffffffff0000000000ffffffff0000000000ffffffff00000000008000000b80000000008000000180000001050000000000000005) = true := by decide +kernel
set_option maxRecDepth 100000 in
theorem lc_5_4 : lw_g (6, 0xffffffff0000000000ffffffff0000000000ffffffff00000000008000000b80000000008000000280000002050000000000000005) = true := by decide +kernel
set_option maxRecDepth 100000 in
theorem lc_5_5 : lw_g (6, 0xffffffff0000000000ffffffff0000000000ffffffff00000000008000000b80000000008000000380000003050000000000000005) = true := by decide +kernel
set_option maxRecDepth 100000 in
theorem lc_5_6 : lw_g (6, 0xffffffff0000000000ffffffff0000000000ffffffff0000000000ffffffff8000000c008000000380000000050000000000000005) = true := by decide +kernel
set_option maxRecDepth 100000 in
theorem lc_5_7 : lw_g (6, 0xffffffff0000000000ffffffff0000000000ffffffff0000000000ffffffff0000000000ffffffff80000004050000000000000005) = true := by decide +kernel
theorem cv_5 (y1 y2 y3 y4 y5 : Nat) (h1 : y1 < 4294967296) (h2 : y2 < 4294967296) (h3 : y3 < 4294967296) (h4 : y4 < 4294967296) (h5 : y5 < 4294967296) : ∃ p, lw_g (6, p) = true ∧ iv_f6 5 y1 y2 y3 y4 y5 p := by
  rcases Nat.lt_or_ge y1 2147483648 with g | g
  · exact ⟨0xffffffff0000000000ffffffff0000000000ffffffff0000000000ffffffff00000000007fffffff00000000050000000000000005, lc_5_0, iv_lf (a1 := 0) (b1 := 2147483647) (a2 := 0) (b2 := 4294967295) (a3 := 0) (b3 := 4294967295) (a4 := 0) (b4 := 4294967295) (a5 := 0) (b5 := 4294967295) (by decide +kernel) (by omega)⟩
  · rcases Nat.lt_or_ge y1 2147483652 with g | g
    · rcases Nat.lt_or_ge y2 2147483648 with g | g
      · exact ⟨0xffffffff0000000000ffffffff0000000000ffffffff00000000007fffffff00000000008000000380000000050000000000000005, lc_5_1, iv_lf (a1 := 2147483648) (b1 := 2147483651) (a2 := 0) (b2 := 2147483647) (a3 := 0) (b3 := 4294967295) (a4 := 0) (b4 := 4294967295) (a5 := 0) (b5 := 4294967295) (by decide +kernel) (by omega)⟩
      · rcases Nat.lt_or_ge y2 2147483660 with g | g
        · rcases Nat.lt_or_ge y1 2147483649 with g | g
          · exact ⟨0xffffffff0000000000ffffffff0000000000ffffffff00000000008000000b80000000008000000080000000050000000000000005, lc_5_2, iv_lf (a1 := 2147483648) (b1 := 2147483648) (a2 := 2147483648) (b2 := 2147483659) (a3 := 0) (b3 := 4294967295) (a4 := 0) (b4 := 4294967295) (a5 := 0) (b5 := 4294967295) (by decide +kernel) (by omega)⟩
          · rcases Nat.lt_or_ge y1 2147483650 with g | g
            · exact ⟨0xffffffff0000000000ffffffff0000000000ffffffff00000000008000000b80000000008000000180000001050000000000000005, lc_5_3, iv_lf (a1 := 2147483649) (b1 := 2147483649) (a2 := 2147483648) (b2 := 2147483659) (a3 := 0) (b3 := 4294967295) (a4 := 0) (b4 := 4294967295) (a5 := 0) (b5 := 4294967295) (by decide +kernel) (by omega)⟩
            · rcases Nat.lt_or_ge y1 2147483651 with g | g
              · exact ⟨0xffffffff0000000000ffffffff0000000000ffffffff00000000008000000b80000000008000000280000002050000000000000005, lc_5_4, iv_lf (a1 := 2147483650) (b1 := 2147483650) (a2 := 2147483648) (b2 := 2147483659) (a3 := 0) (b3 := 4294967295) (a4 := 0) (b4 := 4294967295) (a5 := 0) (b5 := 4294967295) (by decide +kernel) (by omega)⟩
              · exact ⟨0xffffffff0000000000ffffffff0000000000ffffffff00000000008000000b80000000008000000380000003050000000000000005, lc_5_5, iv_lf (a1 := 2147483651) (b1 := 2147483651) (a2 := 2147483648) (b2 := 2147483659) (a3 := 0) (b3 := 4294967295) (a4 := 0) (b4 := 4294967295) (a5 := 0) (b5 := 4294967295) (by decide +kernel) (by omega)⟩
        · exact ⟨0xffffffff0000000000ffffffff0000000000ffffffff0000000000ffffffff8000000c008000000380000000050000000000000005, lc_5_6, iv_lf (a1 := 2147483648) (b1 := 2147483651) (a2 := 2147483660) (b2 := 4294967295) (a3 := 0) (b3 := 4294967295) (a4 := 0) (b4 := 4294967295) (a5 := 0) (b5 := 4294967295) (by decide +kernel) (by omega)⟩
    · exact ⟨0xffffffff0000000000ffffffff0000000000ffffffff0000000000ffffffff0000000000ffffffff80000004050000000000000005, lc_5_7, iv_lf (a1 := 2147483652) (b1 := 4294967295) (a2 := 0) (b2 := 4294967295) (a3 := 0) (b3 := 4294967295) (a4 := 0) (b4 := 4294967295) (a5 := 0) (b5 := 4294967295) (by decide +kernel) (by omega)⟩
set_option maxRecDepth 100000 in
theorem lc_6_0 : lw_g (6, 0xffffffff0000000000ffffffff0000000000ffffffff0000000000ffffffff00000000007fffffff00000000050000000000000006) = true := by decide +kernel
set_option maxRecDepth 100000 in
theorem lc_6_1 : lw_g (6, 0xffffffff0000000000ffffffff0000000000ffffffff00000000007fffffff00000000008000000380000000050000000000000006) = true := by decide +kernel
set_option maxRecDepth 100000 in
theorem lc_6_2 : lw_g (6, 0xffffffff0000000000ffffffff0000000000ffffffff00000000008000000b80000000008000000080000000050000000000000006) = true := by decide +kernel
set_option maxRecDepth 100000 in
theorem lc_6_3 : lw_g (6, 0xffffffff0000000000ffffffff0000000000ffffffff00000000008000000b80000000008000000180000001050000000000000006) = true := by decide +kernel
set_option maxRecDepth 100000 in
theorem lc_6_4 : lw_g (6, 0xffffffff0000000000ffffffff0000000000ffffffff00000000008000000b80000000008000000280000002050000000000000006) = true := by decide +kernel
set_option maxRecDepth 100000 in
theorem lc_6_5 : lw_g (6, 0xffffffff0000000000ffffffff0000000000ffffffff00000000008000000b80000000008000000380000003050000000000000006) = true := by decide +kernel
set_option maxRecDepth 100000 in
theorem lc_6_6 : lw_g (6, 0xffffffff0000000000ffffffff0000000000ffffffff0000000000ffffffff8000000c008000000380000000050000000000000006) = true := by decide +kernel
set_option maxRecDepth 100000 in
theorem lc_6_7 : lw_g (6, 0xffffffff0000000000ffffffff0000000000ffffffff0000000000ffffffff0000000000ffffffff80000004050000000000000006) = true := by decide +kernel
theorem cv_6 (y1 y2 y3 y4 y5 : Nat) (h1 : y1 < 4294967296) (h2 : y2 < 4294967296) (h3 : y3 < 4294967296) (h4 : y4 < 4294967296) (h5 : y5 < 4294967296) : ∃ p, lw_g (6, p) = true ∧ iv_f6 6 y1 y2 y3 y4 y5 p := by
  rcases Nat.lt_or_ge y1 2147483648 with g | g
  · exact ⟨0xffffffff0000000000ffffffff0000000000ffffffff0000000000ffffffff00000000007fffffff00000000050000000000000006, lc_6_0, iv_lf (a1 := 0) (b1 := 2147483647) (a2 := 0) (b2 := 4294967295) (a3 := 0) (b3 := 4294967295) (a4 := 0) (b4 := 4294967295) (a5 := 0) (b5 := 4294967295) (by decide +kernel) (by omega)⟩
  · rcases Nat.lt_or_ge y1 2147483652 with g | g
    · rcases Nat.lt_or_ge y2 2147483648 with g | g
      · exact ⟨0xffffffff0000000000ffffffff0000000000ffffffff00000000007fffffff00000000008000000380000000050000000000000006, lc_6_1, iv_lf (a1 := 2147483648) (b1 := 2147483651) (a2 := 0) (b2 := 2147483647) (a3 := 0) (b3 := 4294967295) (a4 := 0) (b4 := 4294967295) (a5 := 0) (b5 := 4294967295) (by decide +kernel) (by omega)⟩
      · rcases Nat.lt_or_ge y2 2147483660 with g | g
        · rcases Nat.lt_or_ge y1 2147483649 with g | g
          · exact ⟨0xffffffff0000000000ffffffff0000000000ffffffff00000000008000000b80000000008000000080000000050000000000000006, lc_6_2, iv_lf (a1 := 2147483648) (b1 := 2147483648) (a2 := 2147483648) (b2 := 2147483659) (a3 := 0) (b3 := 4294967295) (a4 := 0) (b4 := 4294967295) (a5 := 0) (b5 := 4294967295) (by decide +kernel) (by omega)⟩
          · rcases Nat.lt_or_ge y1 2147483650 with g | g
            · exact ⟨0xffffffff0000000000ffffffff0000000000ffffffff00000000008000000b80000000008000000180000001050000000000000006, lc_6_3, iv_lf (a1 := 2147483649) (b1 := 2147483649) (a2 := 2147483648) (b2 := 2147483659) (a3 := 0) (b3 := 4294967295) (a4 := 0) (b4 := 4294967295) (a5 := 0) (b5 := 4294967295) (by decide +kernel) (by omega)⟩
            · rcases Nat.lt_or_ge y1 2147483651 with g | g
              · exact ⟨0xffffffff0000000000ffffffff0000000000ffffffff00000000008000000b80000000008000000280000002050000000000000006, lc_6_4, iv_lf (a1 := 2147483650) (b1 := 2147483650) (a2 := 2147483648) (b2 := 2147483659) (a3 := 0) (b3 := 4294967295) (a4 := 0) (b4 := 4294967295) (a5 := 0) (b5 := 4294967295) (by decide +kernel) (by omega)⟩
              · exact ⟨0xffffffff0000000000ffffffff0000000000ffffffff00000000008000000b80000000008000000380000003050000000000000006, lc_6_5, iv_lf (a1 := 2147483651) (b1 := 2147483651) (a2 := 2147483648) (b2 := 2147483659) (a3 := 0) (b3 := 4294967295) (a4 := 0) (b4 := 4294967295) (a5 := 0) (b5 := 4294967295) (by decide +kernel) (by omega)⟩
        · exact ⟨0xffffffff0000000000ffffffff0000000000ffffffff0000000000ffffffff8000000c008000000380000000050000000000000006, lc_6_6, iv_lf (a1 := 2147483648) (b1 := 2147483651) (a2 := 2147483660) (b2 := 4294967295) (a3 := 0) (b3 := 4294967295) (a4 := 0) (b4 := 4294967295) (a5 := 0) (b5 := 4294967295) (by decide +kernel) (by omega)⟩
    · exact ⟨0xffffffff0000000000ffffffff0000000000ffffffff0000000000ffffffff0000000000ffffffff80000004050000000000000006, lc_6_7, iv_lf (a1 := 2147483652) (b1 := 4294967295) (a2 := 0) (b2 := 4294967295) (a3 := 0) (b3 := 4294967295) (a4 := 0) (b4 := 4294967295) (a5 := 0) (b5 := 4294967295) (by decide +kernel) (by omega)⟩
set_option maxRecDepth 100000 in
theorem lc_7_0 : lw_g (6, 0xffffffff0000000000ffffffff0000000000ffffffff0000000000ffffffff00000000007fffffff00000000050000000000000007) = true := by decide +kernel
set_option maxRecDepth 100000 in
theorem lc_7_1 : lw_g (6, 0xffffffff0000000000ffffffff0000000000ffffffff00000000007fffffff00000000008000000380000000050000000000000007) = true := by decide +kernel
set_option maxRecDepth 100000 in
theorem lc_7_2 : lw_g (6, 0xffffffff0000000000ffffffff0000000000ffffffff00000000008000000b80000000008000000380000000050000000000000007) = true := by decide +kernel
set_option maxRecDepth 100000 in
theorem lc_7_3 : lw_g (6, 0xffffffff0000000000ffffffff0000000000ffffffff0000000000ffffffff8000000c008000000380000000050000000000000007) = true := by decide +kernel
set_option maxRecDepth 100000 in
theorem lc_7_4 : lw_g (6, 0xffffffff0000000000ffffffff0000000000ffffffff0000000000ffffffff0000000000ffffffff80000004050000000000000007) = true := by decide +kernel
theorem cv_7 (y1 y2 y3 y4 y5 : Nat) (h1 : y1 < 4294967296) (h2 : y2 < 4294967296) (h3 : y3 < 4294967296) (h4 : y4 < 4294967296) (h5 : y5 < 4294967296) : ∃ p, lw_g (6, p) = true ∧ iv_f6 7 y1 y2 y3 y4 y5 p := by
  rcases Nat.lt_or_ge y1 2147483648 with g | g
  · exact ⟨0xffffffff0000000000ffffffff0000000000ffffffff0000000000ffffffff00000000007fffffff00000000050000000000000007, lc_7_0, iv_lf (a1 := 0) (b1 := 2147483647) (a2 := 0) (b2 := 4294967295) (a3 := 0) (b3 := 4294967295) (a4 := 0) (b4 := 4294967295) (a5 := 0) (b5 := 4294967295) (by decide +kernel) (by omega)⟩
  · rcases Nat.lt_or_ge y1 2147483652 with g | g
    · rcases Nat.lt_or_ge y2 2147483648 with g | g
      · exact ⟨0xffffffff0000000000ffffffff0000000000ffffffff00000000007fffffff00000000008000000380000000050000000000000007, lc_7_1, iv_lf (a1 := 2147483648) (b1 := 2147483651) (a2 := 0) (b2 := 2147483647) (a3 := 0) (b3 := 4294967295) (a4 := 0) (b4 := 4294967295) (a5 := 0) (b5 := 4294967295) (by decide +kernel) (by omega)⟩
      · rcases Nat.lt_or_ge y2 2147483660 with g | g
        · exact ⟨0xffffffff0000000000ffffffff0000000000ffffffff00000000008000000b80000000008000000380000000050000000000000007, lc_7_2, iv_lf (a1 := 2147483648) (b1 := 2147483651) (a2 := 2147483648) (b2 := 2147483659) (a3 := 0) (b3 := 4294967295) (a4 := 0) (b4 := 4294967295) (a5 := 0) (b5 := 4294967295) (by decide +kernel) (by omega)⟩
        · exact ⟨0xffffffff0000000000ffffffff0000000000ffffffff0000000000ffffffff8000000c008000000380000000050000000000000007, lc_7_3, iv_lf (a1 := 2147483648) (b1 := 2147483651) (a2 := 2147483660) (b2 := 4294967295) (a3 := 0) (b3 := 4294967295) (a4 := 0) (b4 := 4294967295) (a5 := 0) (b5 := 4294967295) (by decide +kernel) (by omega)⟩
    · exact ⟨0xffffffff0000000000ffffffff0000000000ffffffff0000000000ffffffff0000000000ffffffff80000004050000000000000007, lc_7_4, iv_lf (a1 := 2147483652) (b1 := 4294967295) (a2 := 0) (b2 := 4294967295) (a3 := 0) (b3 := 4294967295) (a4 := 0) (b4 := 4294967295) (a5 := 0) (b5 := 4294967295) (by decide +kernel) (by omega)⟩
