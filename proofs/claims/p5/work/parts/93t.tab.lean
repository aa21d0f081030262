/-! ===== tables of regions ===== -/
theorem rg_0_0_0_1 : rgn 0 0 0 1 1 1 0 := by
  unfold rgn j_nt
  decide +kernel
theorem rg_1_1_0_1 : rgn 1 1 0 1 2147483648 2147484048 4 := by
  unfold rgn j_nt
  decide +kernel
theorem rg_1_0_0_1 : rgn 1 0 0 1 2 2 0 := by
  unfold rgn j_nt
  decide +kernel
theorem rg_2_0_1_400 : rgn 2 0 1 400 0 4294967295 6 := by
  unfold rgn j_nt
  decide +kernel
theorem rg_0_11_0_1 : rgn 0 11 0 1 0 4294967295 3 := by
  unfold rgn j_nt
  decide +kernel
theorem rg_T0_7_0_1 {r : Nat} (t : tw r) : rgn r 7 0 1 2147483650 2147483654 48 := by
  rcases t with rfl | rfl <;> (unfold rgn j_nt; decide +kernel)
theorem rg_0_1_0_1 : rgn 0 1 0 1 45 45 0 := by
  unfold rgn j_nt
  decide +kernel
theorem rg_45_6_0_1 : rgn 45 6 0 1 51 51 0 := by
  unfold rgn j_nt
  decide +kernel
theorem rg_51_0_1_72 : rgn 51 0 1 72 2147483647 2147483653 10 := by
  unfold rgn j_nt
  decide +kernel
theorem rg_T3_2_0_1 {r : Nat} (t : tw r) : rgn (r + 3) 2 0 1 2147483648 2147483658 48 := by
  rcases t with rfl | rfl <;> (unfold rgn j_nt; decide +kernel)
theorem rg_T3_0_0_1 {r : Nat} (t : tw r) : rgn (r + 3) 0 0 1 2147483652 2147483652 7 := by
  rcases t with rfl | rfl <;> (unfold rgn j_nt; decide +kernel)
theorem rg_T4_3_4_1 {r : Nat} (t : tw r) : rgn (r + 4) 3 4 1 2147483647 2147483653 7 := by
  rcases t with rfl | rfl <;> (unfold rgn j_nt; decide +kernel)
theorem rg_T4_0_4_1 {r : Nat} (t : tw r) : rgn (r + 4) 0 4 1 2147483648 2147483653 7 := by
  rcases t with rfl | rfl <;> (unfold rgn j_nt; decide +kernel)
theorem rg_T4_2_4_1 {r : Nat} (t : tw r) : rgn (r + 4) 2 4 1 0 4294967295 7 := by
  rcases t with rfl | rfl <;> (unfold rgn j_nt; decide +kernel)
theorem rg_T4_3_4_2 {r : Nat} (t : tw r) : rgn (r + 4) 3 4 2 2147483647 2147483653 7 := by
  rcases t with rfl | rfl <;> (unfold rgn j_nt; decide +kernel)
theorem rg_T4_0_4_2 {r : Nat} (t : tw r) : rgn (r + 4) 0 4 2 2147483648 2147483653 7 := by
  rcases t with rfl | rfl <;> (unfold rgn j_nt; decide +kernel)
theorem rg_T4_2_4_2 {r : Nat} (t : tw r) : rgn (r + 4) 2 4 2 0 4294967295 7 := by
  rcases t with rfl | rfl <;> (unfold rgn j_nt; decide +kernel)
theorem rg_T4_3_4_3 {r : Nat} (t : tw r) : rgn (r + 4) 3 4 3 2147483647 2147483653 7 := by
  rcases t with rfl | rfl <;> (unfold rgn j_nt; decide +kernel)
theorem rg_T4_0_4_3 {r : Nat} (t : tw r) : rgn (r + 4) 0 4 3 2147483648 2147483653 7 := by
  rcases t with rfl | rfl <;> (unfold rgn j_nt; decide +kernel)
theorem rg_T4_2_4_3 {r : Nat} (t : tw r) : rgn (r + 4) 2 4 3 0 4294967295 7 := by
  rcases t with rfl | rfl <;> (unfold rgn j_nt; decide +kernel)
theorem rg_T4_3_4_5 {r : Nat} (t : tw r) : rgn (r + 4) 3 4 5 2147483647 2147483653 7 := by
  rcases t with rfl | rfl <;> (unfold rgn j_nt; decide +kernel)
theorem rg_T4_0_4_5 {r : Nat} (t : tw r) : rgn (r + 4) 0 4 5 2147483648 2147483653 7 := by
  rcases t with rfl | rfl <;> (unfold rgn j_nt; decide +kernel)
theorem rg_T4_2_4_5 {r : Nat} (t : tw r) : rgn (r + 4) 2 4 5 0 4294967295 7 := by
  rcases t with rfl | rfl <;> (unfold rgn j_nt; decide +kernel)
theorem rg_T4_3_4_6 {r : Nat} (t : tw r) : rgn (r + 4) 3 4 6 2147483647 2147483653 7 := by
  rcases t with rfl | rfl <;> (unfold rgn j_nt; decide +kernel)
theorem rg_T4_0_4_6 {r : Nat} (t : tw r) : rgn (r + 4) 0 4 6 2147483648 2147483653 7 := by
  rcases t with rfl | rfl <;> (unfold rgn j_nt; decide +kernel)
theorem rg_T4_2_4_6 {r : Nat} (t : tw r) : rgn (r + 4) 2 4 6 0 4294967295 7 := by
  rcases t with rfl | rfl <;> (unfold rgn j_nt; decide +kernel)
theorem rg_T4_3_4_7 {r : Nat} (t : tw r) : rgn (r + 4) 3 4 7 2147483647 2147483653 7 := by
  rcases t with rfl | rfl <;> (unfold rgn j_nt; decide +kernel)
theorem rg_T4_0_4_7 {r : Nat} (t : tw r) : rgn (r + 4) 0 4 7 2147483648 2147483653 7 := by
  rcases t with rfl | rfl <;> (unfold rgn j_nt; decide +kernel)
theorem rg_T4_2_4_7 {r : Nat} (t : tw r) : rgn (r + 4) 2 4 7 0 4294967295 7 := by
  rcases t with rfl | rfl <;> (unfold rgn j_nt; decide +kernel)
theorem rg_T4_3_4_8 {r : Nat} (t : tw r) : rgn (r + 4) 3 4 8 2147483647 2147483653 7 := by
  rcases t with rfl | rfl <;> (unfold rgn j_nt; decide +kernel)
theorem rg_T4_0_4_8 {r : Nat} (t : tw r) : rgn (r + 4) 0 4 8 2147483648 2147483653 7 := by
  rcases t with rfl | rfl <;> (unfold rgn j_nt; decide +kernel)
theorem rg_T4_2_4_8 {r : Nat} (t : tw r) : rgn (r + 4) 2 4 8 0 4294967295 7 := by
  rcases t with rfl | rfl <;> (unfold rgn j_nt; decide +kernel)
theorem rg_T4_3_4_10 {r : Nat} (t : tw r) : rgn (r + 4) 3 4 10 2147483647 2147483653 7 := by
  rcases t with rfl | rfl <;> (unfold rgn j_nt; decide +kernel)
theorem rg_T4_0_4_10 {r : Nat} (t : tw r) : rgn (r + 4) 0 4 10 2147483648 2147483653 7 := by
  rcases t with rfl | rfl <;> (unfold rgn j_nt; decide +kernel)
theorem rg_T4_2_4_10 {r : Nat} (t : tw r) : rgn (r + 4) 2 4 10 0 4294967295 7 := by
  rcases t with rfl | rfl <;> (unfold rgn j_nt; decide +kernel)
theorem rg_0_2_0_1 : rgn 0 2 0 1 59 59 0 := by
  unfold rgn j_nt
  decide +kernel
theorem rg_59_0_0_1 : rgn 59 0 0 1 60 60 0 := by
  unfold rgn j_nt
  decide +kernel
theorem rg_59_1_0_1 : rgn 59 1 0 1 0 4294967295 13 := by
  unfold rgn j_nt
  decide +kernel
theorem rg_T5_2_0_1 {r : Nat} (t : tw r) : rgn (r + 5) 2 0 1 2147483648 2147483658 48 := by
  rcases t with rfl | rfl <;> (unfold rgn j_nt; decide +kernel)
theorem rg_T5_0_0_1 {r : Nat} (t : tw r) : rgn (r + 5) 0 0 1 2147483652 2147483652 7 := by
  rcases t with rfl | rfl <;> (unfold rgn j_nt; decide +kernel)
theorem rg_T6_0_1_40 {r : Nat} (t : tw r) : rgn (r + 6) 0 1 40 0 4294967295 7 := by
  rcases t with rfl | rfl <;> (unfold rgn j_nt; decide +kernel)
theorem rg_45_0_0_1 : rgn 45 0 0 1 46 46 0 := by
  unfold rgn j_nt
  decide +kernel
theorem rg_46_0_1_6 : rgn 46 0 1 6 0 4294967295 10 := by
  unfold rgn j_nt
  decide +kernel
theorem rg_60_0_1_6 : rgn 60 0 1 6 0 4294967295 13 := by
  unfold rgn j_nt
  decide +kernel
theorem rg_T7_2_0_1 {r : Nat} (t : tw r) : rgn (r + 7) 2 0 1 2147483648 2147483658 48 := by
  rcases t with rfl | rfl <;> (unfold rgn j_nt; decide +kernel)
theorem rg_T7_0_0_1 {r : Nat} (t : tw r) : rgn (r + 7) 0 0 1 2147483652 2147483652 7 := by
  rcases t with rfl | rfl <;> (unfold rgn j_nt; decide +kernel)
theorem rg_T8_0_4_10 {r : Nat} (t : tw r) : rgn (r + 8) 0 4 10 2147483648 2147483653 7 := by
  rcases t with rfl | rfl <;> (unfold rgn j_nt; decide +kernel)
theorem rg_T8_1_4_10 {r : Nat} (t : tw r) : rgn (r + 8) 1 4 10 0 4294967295 7 := by
  rcases t with rfl | rfl <;> (unfold rgn j_nt; decide +kernel)
theorem rg_T8_2_4_10 {r : Nat} (t : tw r) : rgn (r + 8) 2 4 10 0 4294967295 7 := by
  rcases t with rfl | rfl <;> (unfold rgn j_nt; decide +kernel)
theorem rg_0_7_0_1 : rgn 0 7 0 1 3 3 0 := by
  unfold rgn j_nt
  decide +kernel
theorem rg_3_0_0_1 : rgn 3 0 0 1 4 4 0 := by
  unfold rgn j_nt
  decide +kernel
theorem rg_T1_2_0_1 {r : Nat} (t : tw r) : rgn (r + 1) 2 0 1 2147483648 2147483668 48 := by
  rcases t with rfl | rfl <;> (unfold rgn j_nt; decide +kernel)
theorem rg_4_2_0_1 : rgn 4 2 0 1 2147483648 2147483668 52 := by
  unfold rgn j_nt
  decide +kernel
theorem rg_4_1_0_1 : rgn 4 1 0 1 5 5 0 := by
  unfold rgn j_nt
  decide +kernel
theorem rg_3_1_0_1 : rgn 3 1 0 1 6 6 0 := by
  unfold rgn j_nt
  decide +kernel
theorem rg_6_2_0_1 : rgn 6 2 0 1 2147483648 2147483658 52 := by
  unfold rgn j_nt
  decide +kernel
theorem rg_6_1_0_1 : rgn 6 1 0 1 7 7 0 := by
  unfold rgn j_nt
  decide +kernel
theorem rg_3_2_0_1 : rgn 3 2 0 1 8 8 0 := by
  unfold rgn j_nt
  decide +kernel
theorem rg_8_2_0_1 : rgn 8 2 0 1 2147483648 2147483658 52 := by
  unfold rgn j_nt
  decide +kernel
theorem rg_8_1_0_1 : rgn 8 1 0 1 9 9 0 := by
  unfold rgn j_nt
  decide +kernel
theorem rg_3_3_0_1 : rgn 3 3 0 1 10 10 0 := by
  unfold rgn j_nt
  decide +kernel
theorem rg_10_2_0_1 : rgn 10 2 0 1 2147483648 2147483658 52 := by
  unfold rgn j_nt
  decide +kernel
theorem rg_10_1_0_1 : rgn 10 1 0 1 11 11 0 := by
  unfold rgn j_nt
  decide +kernel
theorem rg_3_4_0_1 : rgn 3 4 0 1 12 12 0 := by
  unfold rgn j_nt
  decide +kernel
theorem rg_3_5_0_1 : rgn 3 5 0 1 13 13 0 := by
  unfold rgn j_nt
  decide +kernel
theorem rg_3_6_0_1 : rgn 3 6 0 1 14 14 0 := by
  unfold rgn j_nt
  decide +kernel
theorem rg_T11_2_0_1 {r : Nat} (t : tw r) : rgn (r + 11) 2 0 1 2147483648 2147484048 7 := by
  rcases t with rfl | rfl <;> (unfold rgn j_nt; decide +kernel)
theorem rg_14_2_0_1 : rgn 14 2 0 1 2147483648 2147484048 8 := by
  unfold rgn j_nt
  decide +kernel
theorem rg_T11_3_0_1 {r : Nat} (t : tw r) : rgn (r + 11) 3 0 1 0 4294967295 7 := by
  rcases t with rfl | rfl <;> (unfold rgn j_nt; decide +kernel)
theorem rg_14_3_0_1 : rgn 14 3 0 1 0 4294967295 8 := by
  unfold rgn j_nt
  decide +kernel
theorem rg_14_0_0_1 : rgn 14 0 0 1 15 15 0 := by
  unfold rgn j_nt
  decide +kernel
theorem rg_3_7_0_1 : rgn 3 7 0 1 2147483650 2147483654 52 := by
  unfold rgn j_nt
  decide +kernel
theorem rg_T0_8_0_1 {r : Nat} (t : tw r) : rgn r 8 0 1 0 4294967295 48 := by
  rcases t with rfl | rfl <;> (unfold rgn j_nt; decide +kernel)
theorem rg_3_8_0_1 : rgn 3 8 0 1 0 4294967295 52 := by
  unfold rgn j_nt
  decide +kernel
theorem rg_T0_9_0_1 {r : Nat} (t : tw r) : rgn r 9 0 1 0 4294967295 7 := by
  rcases t with rfl | rfl <;> (unfold rgn j_nt; decide +kernel)
theorem rg_3_9_0_1 : rgn 3 9 0 1 0 4294967295 8 := by
  unfold rgn j_nt
  decide +kernel
theorem rg_0_10_0_1 : rgn 0 10 0 1 2147483648 2147483649 2 := by
  unfold rgn j_nt
  decide +kernel
theorem rg_45_2_0_1 : rgn 45 2 0 1 48 48 0 := by
  unfold rgn j_nt
  decide +kernel
theorem rg_48_0_1_20 : rgn 48 0 1 20 0 4294967295 10 := by
  unfold rgn j_nt
  decide +kernel
theorem rg_45_3_0_1 : rgn 45 3 0 1 49 49 0 := by
  unfold rgn j_nt
  decide +kernel
theorem rg_49_0_1_20 : rgn 49 0 1 20 0 4294967295 10 := by
  unfold rgn j_nt
  decide +kernel
theorem rg_45_4_0_1 : rgn 45 4 0 1 50 50 0 := by
  unfold rgn j_nt
  decide +kernel
theorem rg_50_0_1_20 : rgn 50 0 1 20 0 4294967295 10 := by
  unfold rgn j_nt
  decide +kernel
theorem rg_45_9_0_1 : rgn 45 9 0 1 54 54 0 := by
  unfold rgn j_nt
  decide +kernel
theorem rg_T1_0_0_1 {r : Nat} (t : tw r) : rgn (r + 1) 0 0 1 2147483655 2147483655 7 := by
  rcases t with rfl | rfl <;> (unfold rgn j_nt; decide +kernel)
theorem rg_T2_2_7_20 {r : Nat} (t : tw r) : rgn (r + 2) 2 7 20 0 4294967295 7 := by
  rcases t with rfl | rfl <;> (unfold rgn j_nt; decide +kernel)
theorem rg_T2_3_7_20 {r : Nat} (t : tw r) : rgn (r + 2) 3 7 20 0 4294967295 7 := by
  rcases t with rfl | rfl <;> (unfold rgn j_nt; decide +kernel)
theorem rg_54_0_1_20 : rgn 54 0 1 20 0 4294967295 10 := by
  unfold rgn j_nt
  decide +kernel
theorem rg_45_10_0_1 : rgn 45 10 0 1 55 55 0 := by
  unfold rgn j_nt
  decide +kernel
theorem rg_T2_6_7_20 {r : Nat} (t : tw r) : rgn (r + 2) 6 7 20 0 4294967295 7 := by
  rcases t with rfl | rfl <;> (unfold rgn j_nt; decide +kernel)
theorem rg_55_0_1_20 : rgn 55 0 1 20 0 4294967295 10 := by
  unfold rgn j_nt
  decide +kernel
theorem rg_T9_0_1_6 {r : Nat} (t : tw r) : rgn (r + 9) 0 1 6 0 4294967295 7 := by
  rcases t with rfl | rfl <;> (unfold rgn j_nt; decide +kernel)
theorem rg_45_12_0_1 : rgn 45 12 0 1 57 57 0 := by
  unfold rgn j_nt
  decide +kernel
theorem rg_57_0_1_6 : rgn 57 0 1 6 2147483648 2147483668 12 := by
  unfold rgn j_nt
  decide +kernel
theorem rg_45_1_0_1 : rgn 45 1 0 1 47 47 0 := by
  unfold rgn j_nt
  decide +kernel
theorem rg_47_0_1_36 : rgn 47 0 1 36 0 4294967295 10 := by
  unfold rgn j_nt
  decide +kernel
theorem rg_45_11_0_1 : rgn 45 11 0 1 56 56 0 := by
  unfold rgn j_nt
  decide +kernel
theorem rg_56_0_1_120 : rgn 56 0 1 120 2147483648 2147483667 11 := by
  unfold rgn j_nt
  decide +kernel
theorem rg_T2_5_7_20 {r : Nat} (t : tw r) : rgn (r + 2) 5 7 20 0 4294967295 7 := by
  rcases t with rfl | rfl <;> (unfold rgn j_nt; decide +kernel)
theorem rg_T2_0_7_1 {r : Nat} (t : tw r) : rgn (r + 2) 0 7 1 2147483648 2147483653 7 := by
  rcases t with rfl | rfl <;> (unfold rgn j_nt; decide +kernel)
theorem rg_T2_2_7_1 {r : Nat} (t : tw r) : rgn (r + 2) 2 7 1 0 4294967295 7 := by
  rcases t with rfl | rfl <;> (unfold rgn j_nt; decide +kernel)
theorem rg_T2_1_7_20 {r : Nat} (t : tw r) : rgn (r + 2) 1 7 20 0 4294967295 7 := by
  rcases t with rfl | rfl <;> (unfold rgn j_nt; decide +kernel)
theorem rg_T2_1_7_1 {r : Nat} (t : tw r) : rgn (r + 2) 1 7 1 0 4294967295 7 := by
  rcases t with rfl | rfl <;> (unfold rgn j_nt; decide +kernel)
theorem rg_45_13_0_1 : rgn 45 13 0 1 58 58 0 := by
  unfold rgn j_nt
  decide +kernel
theorem rg_58_0_1_8 : rgn 58 0 1 8 0 4294967295 10 := by
  unfold rgn j_nt
  decide +kernel
theorem rg_T11_4_0_1 {r : Nat} (t : tw r) : rgn (r + 11) 4 0 1 2147483648 2147483680 47 := by
  rcases t with rfl | rfl <;> (unfold rgn j_nt; decide +kernel)
theorem rg_T12_0_1_400 {r : Nat} (t : tw r) : rgn (r + 12) 0 1 400 0 4294967295 7 := by
  rcases t with rfl | rfl <;> (unfold rgn j_nt; decide +kernel)
theorem rg_T13_0_1_32 {r : Nat} (t : tw r) : rgn (r + 13) 0 1 32 0 4294967295 47 := by
  rcases t with rfl | rfl <;> (unfold rgn j_nt; decide +kernel)
theorem rg_T2_4_7_20 {r : Nat} (t : tw r) : rgn (r + 2) 4 7 20 0 4294967295 7 := by
  rcases t with rfl | rfl <;> (unfold rgn j_nt; decide +kernel)
theorem rg_T2_0_7_2 {r : Nat} (t : tw r) : rgn (r + 2) 0 7 2 2147483648 2147483653 7 := by
  rcases t with rfl | rfl <;> (unfold rgn j_nt; decide +kernel)
theorem rg_T2_2_7_2 {r : Nat} (t : tw r) : rgn (r + 2) 2 7 2 0 4294967295 7 := by
  rcases t with rfl | rfl <;> (unfold rgn j_nt; decide +kernel)
theorem rg_T2_1_7_2 {r : Nat} (t : tw r) : rgn (r + 2) 1 7 2 0 4294967295 7 := by
  rcases t with rfl | rfl <;> (unfold rgn j_nt; decide +kernel)
theorem rg_T2_0_7_3 {r : Nat} (t : tw r) : rgn (r + 2) 0 7 3 2147483648 2147483653 7 := by
  rcases t with rfl | rfl <;> (unfold rgn j_nt; decide +kernel)
theorem rg_T2_2_7_3 {r : Nat} (t : tw r) : rgn (r + 2) 2 7 3 0 4294967295 7 := by
  rcases t with rfl | rfl <;> (unfold rgn j_nt; decide +kernel)
theorem rg_T2_1_7_3 {r : Nat} (t : tw r) : rgn (r + 2) 1 7 3 0 4294967295 7 := by
  rcases t with rfl | rfl <;> (unfold rgn j_nt; decide +kernel)
theorem rg_T2_0_7_5 {r : Nat} (t : tw r) : rgn (r + 2) 0 7 5 2147483648 2147483653 7 := by
  rcases t with rfl | rfl <;> (unfold rgn j_nt; decide +kernel)
theorem rg_T2_2_7_5 {r : Nat} (t : tw r) : rgn (r + 2) 2 7 5 0 4294967295 7 := by
  rcases t with rfl | rfl <;> (unfold rgn j_nt; decide +kernel)
theorem rg_T2_1_7_5 {r : Nat} (t : tw r) : rgn (r + 2) 1 7 5 0 4294967295 7 := by
  rcases t with rfl | rfl <;> (unfold rgn j_nt; decide +kernel)
theorem rg_T2_0_7_6 {r : Nat} (t : tw r) : rgn (r + 2) 0 7 6 2147483648 2147483653 7 := by
  rcases t with rfl | rfl <;> (unfold rgn j_nt; decide +kernel)
theorem rg_T2_2_7_6 {r : Nat} (t : tw r) : rgn (r + 2) 2 7 6 0 4294967295 7 := by
  rcases t with rfl | rfl <;> (unfold rgn j_nt; decide +kernel)
theorem rg_T2_1_7_6 {r : Nat} (t : tw r) : rgn (r + 2) 1 7 6 0 4294967295 7 := by
  rcases t with rfl | rfl <;> (unfold rgn j_nt; decide +kernel)
theorem rg_T2_0_7_7 {r : Nat} (t : tw r) : rgn (r + 2) 0 7 7 2147483648 2147483653 7 := by
  rcases t with rfl | rfl <;> (unfold rgn j_nt; decide +kernel)
theorem rg_T2_2_7_7 {r : Nat} (t : tw r) : rgn (r + 2) 2 7 7 0 4294967295 7 := by
  rcases t with rfl | rfl <;> (unfold rgn j_nt; decide +kernel)
theorem rg_T2_1_7_7 {r : Nat} (t : tw r) : rgn (r + 2) 1 7 7 0 4294967295 7 := by
  rcases t with rfl | rfl <;> (unfold rgn j_nt; decide +kernel)
theorem rg_T2_0_7_8 {r : Nat} (t : tw r) : rgn (r + 2) 0 7 8 2147483648 2147483653 7 := by
  rcases t with rfl | rfl <;> (unfold rgn j_nt; decide +kernel)
theorem rg_T2_2_7_8 {r : Nat} (t : tw r) : rgn (r + 2) 2 7 8 0 4294967295 7 := by
  rcases t with rfl | rfl <;> (unfold rgn j_nt; decide +kernel)
theorem rg_T2_1_7_8 {r : Nat} (t : tw r) : rgn (r + 2) 1 7 8 0 4294967295 7 := by
  rcases t with rfl | rfl <;> (unfold rgn j_nt; decide +kernel)
theorem rg_T2_0_7_10 {r : Nat} (t : tw r) : rgn (r + 2) 0 7 10 2147483648 2147483653 7 := by
  rcases t with rfl | rfl <;> (unfold rgn j_nt; decide +kernel)
theorem rg_T2_2_7_10 {r : Nat} (t : tw r) : rgn (r + 2) 2 7 10 0 4294967295 7 := by
  rcases t with rfl | rfl <;> (unfold rgn j_nt; decide +kernel)
theorem rg_T2_1_7_10 {r : Nat} (t : tw r) : rgn (r + 2) 1 7 10 0 4294967295 7 := by
  rcases t with rfl | rfl <;> (unfold rgn j_nt; decide +kernel)
theorem rg_T2_0_7_11 {r : Nat} (t : tw r) : rgn (r + 2) 0 7 11 2147483648 2147483653 7 := by
  rcases t with rfl | rfl <;> (unfold rgn j_nt; decide +kernel)
theorem rg_T2_2_7_11 {r : Nat} (t : tw r) : rgn (r + 2) 2 7 11 0 4294967295 7 := by
  rcases t with rfl | rfl <;> (unfold rgn j_nt; decide +kernel)
theorem rg_T2_1_7_11 {r : Nat} (t : tw r) : rgn (r + 2) 1 7 11 0 4294967295 7 := by
  rcases t with rfl | rfl <;> (unfold rgn j_nt; decide +kernel)
theorem rg_T2_0_7_12 {r : Nat} (t : tw r) : rgn (r + 2) 0 7 12 2147483648 2147483653 7 := by
  rcases t with rfl | rfl <;> (unfold rgn j_nt; decide +kernel)
theorem rg_T2_2_7_12 {r : Nat} (t : tw r) : rgn (r + 2) 2 7 12 0 4294967295 7 := by
  rcases t with rfl | rfl <;> (unfold rgn j_nt; decide +kernel)
theorem rg_T2_1_7_12 {r : Nat} (t : tw r) : rgn (r + 2) 1 7 12 0 4294967295 7 := by
  rcases t with rfl | rfl <;> (unfold rgn j_nt; decide +kernel)
theorem rg_T2_0_7_13 {r : Nat} (t : tw r) : rgn (r + 2) 0 7 13 2147483648 2147483653 7 := by
  rcases t with rfl | rfl <;> (unfold rgn j_nt; decide +kernel)
theorem rg_T2_2_7_13 {r : Nat} (t : tw r) : rgn (r + 2) 2 7 13 0 4294967295 7 := by
  rcases t with rfl | rfl <;> (unfold rgn j_nt; decide +kernel)
theorem rg_T2_1_7_13 {r : Nat} (t : tw r) : rgn (r + 2) 1 7 13 0 4294967295 7 := by
  rcases t with rfl | rfl <;> (unfold rgn j_nt; decide +kernel)
theorem rg_T2_0_7_14 {r : Nat} (t : tw r) : rgn (r + 2) 0 7 14 2147483648 2147483653 7 := by
  rcases t with rfl | rfl <;> (unfold rgn j_nt; decide +kernel)
theorem rg_T2_2_7_14 {r : Nat} (t : tw r) : rgn (r + 2) 2 7 14 0 4294967295 7 := by
  rcases t with rfl | rfl <;> (unfold rgn j_nt; decide +kernel)
theorem rg_T2_1_7_14 {r : Nat} (t : tw r) : rgn (r + 2) 1 7 14 0 4294967295 7 := by
  rcases t with rfl | rfl <;> (unfold rgn j_nt; decide +kernel)
theorem rg_T2_0_7_15 {r : Nat} (t : tw r) : rgn (r + 2) 0 7 15 2147483648 2147483653 7 := by
  rcases t with rfl | rfl <;> (unfold rgn j_nt; decide +kernel)
theorem rg_T2_2_7_15 {r : Nat} (t : tw r) : rgn (r + 2) 2 7 15 0 4294967295 7 := by
  rcases t with rfl | rfl <;> (unfold rgn j_nt; decide +kernel)
theorem rg_T2_1_7_15 {r : Nat} (t : tw r) : rgn (r + 2) 1 7 15 0 4294967295 7 := by
  rcases t with rfl | rfl <;> (unfold rgn j_nt; decide +kernel)
theorem rg_T2_0_7_20 {r : Nat} (t : tw r) : rgn (r + 2) 0 7 20 2147483648 2147483653 7 := by
  rcases t with rfl | rfl <;> (unfold rgn j_nt; decide +kernel)
theorem rg_45_7_0_1 : rgn 45 7 0 1 52 52 0 := by
  unfold rgn j_nt
  decide +kernel
theorem rg_52_0_1_72 : rgn 52 0 1 72 0 4294967295 10 := by
  unfold rgn j_nt
  decide +kernel
theorem rg_45_8_0_1 : rgn 45 8 0 1 53 53 0 := by
  unfold rgn j_nt
  decide +kernel
theorem rg_53_0_1_1512 : rgn 53 0 1 1512 0 4294967295 10 := by
  unfold rgn j_nt
  decide +kernel
theorem rg_0_5_0_1 : rgn 0 5 0 1 63 63 0 := by
  unfold rgn j_nt
  decide +kernel
theorem rg_63_14_0_1 : rgn 63 14 0 1 2147483648 2147483649 15 := by
  unfold rgn j_nt
  decide +kernel
theorem rg_0_6_0_1 : rgn 0 6 0 1 69 69 0 := by
  unfold rgn j_nt
  decide +kernel
theorem rg_69_14_0_1 : rgn 69 14 0 1 2147483648 2147483649 16 := by
  unfold rgn j_nt
  decide +kernel
theorem rg_T10_0_1_6 {r : Nat} (t : tw r) : rgn (r + 10) 0 1 6 0 4294967295 50 := by
  rcases t with rfl | rfl <;> (unfold rgn j_nt; decide +kernel)
theorem rg_75_0_0_1 : rgn 75 0 0 1 0 4294967295 17 := by
  unfold rgn j_nt
  decide +kernel
theorem rg_75_2_0_1 : rgn 75 2 0 1 77 77 0 := by
  unfold rgn j_nt
  decide +kernel
theorem rg_75_1_0_1 : rgn 75 1 0 1 76 76 0 := by
  unfold rgn j_nt
  decide +kernel
theorem rg_76_0_1_1 : rgn 76 0 1 1 2147483650 2147483654 49 := by
  unfold rgn j_nt
  decide +kernel
theorem rg_77_0_1_1 : rgn 77 0 1 1 2147483648 2147483654 27 := by
  unfold rgn j_nt
  decide +kernel
theorem rg_75_4_0_1 : rgn 75 4 0 1 2147483648 2147483649 18 := by
  unfold rgn j_nt
  decide +kernel
theorem rg_77_0_0_1 : rgn 77 0 0 1 2147483648 2147483654 27 := by
  unfold rgn j_nt
  decide +kernel
theorem rg_75_6_0_1 : rgn 75 6 0 1 2147483648 2147484048 19 := by
  unfold rgn j_nt
  decide +kernel
theorem rg_75_12_0_1 : rgn 75 12 0 1 80 80 0 := by
  unfold rgn j_nt
  decide +kernel
theorem rg_80_0_1_5 : rgn 80 0 1 5 0 4294967295 30 := by
  unfold rgn j_nt
  decide +kernel
theorem rg_75_5_0_1 : rgn 75 5 0 1 79 79 0 := by
  unfold rgn j_nt
  decide +kernel
theorem rg_79_0_1_400 : rgn 79 0 1 400 2147483520 2147483775 29 := by
  unfold rgn j_nt
  decide +kernel
theorem rg_75_11_0_1 : rgn 75 11 0 1 0 4294967295 53 := by
  unfold rgn j_nt
  decide +kernel
theorem rg_76_1_0_1 : rgn 76 1 0 1 0 4294967295 49 := by
  unfold rgn j_nt
  decide +kernel
theorem rg_75_3_0_1 : rgn 75 3 0 1 78 78 0 := by
  unfold rgn j_nt
  decide +kernel
theorem rg_78_0_1_1 : rgn 78 0 1 1 2147483648 2147483654 28 := by
  unfold rgn j_nt
  decide +kernel
theorem rg_75_8_0_1 : rgn 75 8 0 1 2147483648 2147484048 21 := by
  unfold rgn j_nt
  decide +kernel
theorem rg_75_7_0_1 : rgn 75 7 0 1 2147483648 2147484048 20 := by
  unfold rgn j_nt
  decide +kernel
theorem rg_75_13_0_1 : rgn 75 13 0 1 2147483648 2147484048 24 := by
  unfold rgn j_nt
  decide +kernel
theorem rg_75_9_0_1 : rgn 75 9 0 1 2147483648 2147484048 22 := by
  unfold rgn j_nt
  decide +kernel
theorem rg_78_2_0_1 : rgn 78 2 0 1 2147483648 2147483668 28 := by
  unfold rgn j_nt
  decide +kernel
theorem rg_78_3_0_1 : rgn 78 3 0 1 2147483648 2147483658 28 := by
  unfold rgn j_nt
  decide +kernel
theorem rg_78_4_0_1 : rgn 78 4 0 1 2147483648 2147483658 28 := by
  unfold rgn j_nt
  decide +kernel
theorem rg_78_5_0_1 : rgn 78 5 0 1 2147483648 2147483658 28 := by
  unfold rgn j_nt
  decide +kernel
theorem rg_76_0_0_1 : rgn 76 0 0 1 2147483650 2147483654 49 := by
  unfold rgn j_nt
  decide +kernel
theorem rg_78_250_4_10 : rgn 78 250 4 10 2147483647 2147483653 28 := by
  unfold rgn j_nt
  decide +kernel
theorem rg_78_251_4_10 : rgn 78 251 4 10 2147483647 2147483659 28 := by
  unfold rgn j_nt
  decide +kernel
theorem rg_78_252_4_10 : rgn 78 252 4 10 0 4294967295 28 := by
  unfold rgn j_nt
  decide +kernel
theorem rg_78_253_4_10 : rgn 78 253 4 10 0 4294967295 28 := by
  unfold rgn j_nt
  decide +kernel
theorem rg_78_0_0_1 : rgn 78 0 0 1 2147483648 2147483654 28 := by
  unfold rgn j_nt
  decide +kernel
theorem rg_78_1_0_1 : rgn 78 1 0 1 0 4294967295 28 := by
  unfold rgn j_nt
  decide +kernel
theorem rg_76_252_4_10 : rgn 76 252 4 10 0 4294967295 25 := by
  unfold rgn j_nt
  decide +kernel
theorem rg_76_250_4_10 : rgn 76 250 4 10 2147483648 2147483653 25 := by
  unfold rgn j_nt
  decide +kernel
theorem rg_76_251_4_10 : rgn 76 251 4 10 2147483648 2147483659 25 := by
  unfold rgn j_nt
  decide +kernel
theorem rg_76_253_4_10 : rgn 76 253 4 10 0 4294967295 25 := by
  unfold rgn j_nt
  decide +kernel
theorem rg_76_5_0_1 : rgn 76 5 0 1 2147483648 2147483658 49 := by
  unfold rgn j_nt
  decide +kernel
theorem rg_78_200_5_10 : rgn 78 200 5 10 0 4294967295 28 := by
  unfold rgn j_nt
  decide +kernel
theorem rg_78_201_5_10 : rgn 78 201 5 10 2147483647 2147483653 28 := by
  unfold rgn j_nt
  decide +kernel
theorem rg_78_202_5_10 : rgn 78 202 5 10 0 4294967295 28 := by
  unfold rgn j_nt
  decide +kernel
theorem rg_78_203_5_10 : rgn 78 203 5 10 2147483647 2147483659 28 := by
  unfold rgn j_nt
  decide +kernel
theorem rg_78_204_5_10 : rgn 78 204 5 10 0 4294967295 28 := by
  unfold rgn j_nt
  decide +kernel
theorem rg_76_200_5_10 : rgn 76 200 5 10 0 4294967295 25 := by
  unfold rgn j_nt
  decide +kernel
theorem rg_76_201_5_10 : rgn 76 201 5 10 2147483648 2147483653 25 := by
  unfold rgn j_nt
  decide +kernel
theorem rg_76_202_5_10 : rgn 76 202 5 10 0 4294967295 25 := by
  unfold rgn j_nt
  decide +kernel
theorem rg_76_203_5_10 : rgn 76 203 5 10 2147483648 2147483659 25 := by
  unfold rgn j_nt
  decide +kernel
theorem rg_76_204_5_10 : rgn 76 204 5 10 0 4294967295 25 := by
  unfold rgn j_nt
  decide +kernel
theorem rg_76_4_0_1 : rgn 76 4 0 1 2147483648 2147483658 49 := by
  unfold rgn j_nt
  decide +kernel
theorem rg_78_160_4_10 : rgn 78 160 4 10 2147483647 2147483653 28 := by
  unfold rgn j_nt
  decide +kernel
theorem rg_78_161_4_10 : rgn 78 161 4 10 2147483647 2147483659 28 := by
  unfold rgn j_nt
  decide +kernel
theorem rg_78_162_4_10 : rgn 78 162 4 10 2147483647 2147483659 28 := by
  unfold rgn j_nt
  decide +kernel
theorem rg_78_163_4_10 : rgn 78 163 4 10 0 4294967295 28 := by
  unfold rgn j_nt
  decide +kernel
theorem rg_76_160_4_10 : rgn 76 160 4 10 2147483648 2147483653 25 := by
  unfold rgn j_nt
  decide +kernel
theorem rg_76_161_4_10 : rgn 76 161 4 10 2147483648 2147483659 25 := by
  unfold rgn j_nt
  decide +kernel
theorem rg_76_162_4_10 : rgn 76 162 4 10 2147483648 2147483659 25 := by
  unfold rgn j_nt
  decide +kernel
theorem rg_76_163_4_10 : rgn 76 163 4 10 0 4294967295 25 := by
  unfold rgn j_nt
  decide +kernel
theorem rg_76_3_0_1 : rgn 76 3 0 1 2147483648 2147483658 49 := by
  unfold rgn j_nt
  decide +kernel
theorem rg_78_7_0_1 : rgn 78 7 0 1 0 4294967295 28 := by
  unfold rgn j_nt
  decide +kernel
theorem rg_76_7_0_1 : rgn 76 7 0 1 0 4294967295 25 := by
  unfold rgn j_nt
  decide +kernel
theorem rg_78_8_1_6 : rgn 78 8 1 6 0 4294967295 28 := by
  unfold rgn j_nt
  decide +kernel
theorem rg_76_8_1_6 : rgn 76 8 1 6 0 4294967295 25 := by
  unfold rgn j_nt
  decide +kernel
theorem rg_78_26_7_20 : rgn 78 26 7 20 0 4294967295 28 := by
  unfold rgn j_nt
  decide +kernel
theorem rg_76_26_7_20 : rgn 76 26 7 20 0 4294967295 25 := by
  unfold rgn j_nt
  decide +kernel
theorem rg_78_20_7_20 : rgn 78 20 7 20 2147483647 2147483653 28 := by
  unfold rgn j_nt
  decide +kernel
theorem rg_78_21_7_20 : rgn 78 21 7 20 2147483647 2147483653 28 := by
  unfold rgn j_nt
  decide +kernel
theorem rg_78_22_7_20 : rgn 78 22 7 20 0 4294967295 28 := by
  unfold rgn j_nt
  decide +kernel
theorem rg_78_23_7_20 : rgn 78 23 7 20 0 4294967295 28 := by
  unfold rgn j_nt
  decide +kernel
theorem rg_78_24_7_20 : rgn 78 24 7 20 0 4294967295 28 := by
  unfold rgn j_nt
  decide +kernel
theorem rg_78_25_7_20 : rgn 78 25 7 20 0 4294967295 28 := by
  unfold rgn j_nt
  decide +kernel
theorem rg_76_20_7_20 : rgn 76 20 7 20 2147483648 2147483653 25 := by
  unfold rgn j_nt
  decide +kernel
theorem rg_76_21_7_20 : rgn 76 21 7 20 2147483648 2147483653 25 := by
  unfold rgn j_nt
  decide +kernel
theorem rg_76_22_7_20 : rgn 76 22 7 20 0 4294967295 25 := by
  unfold rgn j_nt
  decide +kernel
theorem rg_76_23_7_20 : rgn 76 23 7 20 0 4294967295 25 := by
  unfold rgn j_nt
  decide +kernel
theorem rg_76_24_7_20 : rgn 76 24 7 20 0 4294967295 25 := by
  unfold rgn j_nt
  decide +kernel
theorem rg_76_25_7_20 : rgn 76 25 7 20 0 4294967295 25 := by
  unfold rgn j_nt
  decide +kernel
theorem rg_76_2_0_1 : rgn 76 2 0 1 2147483648 2147483668 49 := by
  unfold rgn j_nt
  decide +kernel
theorem rg_76_1122_3_10 : rgn 76 1122 3 10 0 4294967295 26 := by
  unfold rgn j_nt
  decide +kernel
theorem rg_76_1123_3_10 : rgn 76 1123 3 10 2147483648 2147484048 26 := by
  unfold rgn j_nt
  decide +kernel
theorem rg_75_10_0_1 : rgn 75 10 0 1 2147483648 2147483654 23 := by
  unfold rgn j_nt
  decide +kernel
theorem rg_76_1124_3_10 : rgn 76 1124 3 10 2147483648 2147484048 26 := by
  unfold rgn j_nt
  decide +kernel
theorem rg_76_1152_2_394 : rgn 76 1152 2 394 2147483647 2147483662 26 := by
  unfold rgn j_nt
  decide +kernel
theorem rg_76_1153_2_394 : rgn 76 1153 2 394 0 4294967295 26 := by
  unfold rgn j_nt
  decide +kernel
theorem rg_76_1152_2_395 : rgn 76 1152 2 395 2147483647 2147483662 26 := by
  unfold rgn j_nt
  decide +kernel
theorem rg_76_1153_2_395 : rgn 76 1153 2 395 0 4294967295 26 := by
  unfold rgn j_nt
  decide +kernel
theorem rg_76_1152_2_391 : rgn 76 1152 2 391 2147483647 2147483662 26 := by
  unfold rgn j_nt
  decide +kernel
theorem rg_76_1153_2_391 : rgn 76 1153 2 391 0 4294967295 26 := by
  unfold rgn j_nt
  decide +kernel
theorem rg_76_1152_2_392 : rgn 76 1152 2 392 2147483647 2147483662 26 := by
  unfold rgn j_nt
  decide +kernel
theorem rg_76_1153_2_392 : rgn 76 1153 2 392 0 4294967295 26 := by
  unfold rgn j_nt
  decide +kernel
theorem rg_76_1152_2_390 : rgn 76 1152 2 390 2147483647 2147483662 26 := by
  unfold rgn j_nt
  decide +kernel
theorem rg_76_1153_2_390 : rgn 76 1153 2 390 0 4294967295 26 := by
  unfold rgn j_nt
  decide +kernel
theorem rg_76_1152_2_393 : rgn 76 1152 2 393 2147483647 2147483662 26 := by
  unfold rgn j_nt
  decide +kernel
theorem rg_76_1153_2_393 : rgn 76 1153 2 393 0 4294967295 26 := by
  unfold rgn j_nt
  decide +kernel
theorem rg_76_1152_2_396 : rgn 76 1152 2 396 2147483647 2147483662 26 := by
  unfold rgn j_nt
  decide +kernel
theorem rg_76_1153_2_396 : rgn 76 1153 2 396 0 4294967295 26 := by
  unfold rgn j_nt
  decide +kernel
theorem rg_76_1121_0_1 : rgn 76 1121 0 1 2147483648 2147483658 26 := by
  unfold rgn j_nt
  decide +kernel
theorem rg_76_1121_1_1 : rgn 76 1121 1 1 2147483648 2147483658 26 := by
  unfold rgn j_nt
  decide +kernel
theorem rg_76_290_1_1 : rgn 76 290 1 1 2147483648 2147483658 25 := by
  unfold rgn j_nt
  decide +kernel
theorem rg_76_6_0_1 : rgn 76 6 0 1 0 4294967295 25 := by
  unfold rgn j_nt
  decide +kernel
theorem rg_75_16_0_1 : rgn 75 16 0 1 83 83 0 := by
  unfold rgn j_nt
  decide +kernel
theorem rg_83_0_1_6 : rgn 83 0 1 6 2147483648 2147483668 33 := by
  unfold rgn j_nt
  decide +kernel
theorem rg_75_21_0_1 : rgn 75 21 0 1 88 88 0 := by
  unfold rgn j_nt
  decide +kernel
theorem rg_88_0_1_20 : rgn 88 0 1 20 0 4294967295 35 := by
  unfold rgn j_nt
  decide +kernel
theorem rg_75_22_0_1 : rgn 75 22 0 1 89 89 0 := by
  unfold rgn j_nt
  decide +kernel
theorem rg_89_0_1_20 : rgn 89 0 1 20 0 4294967295 35 := by
  unfold rgn j_nt
  decide +kernel
theorem rg_75_23_0_1 : rgn 75 23 0 1 90 90 0 := by
  unfold rgn j_nt
  decide +kernel
theorem rg_90_0_1_20 : rgn 90 0 1 20 0 4294967295 35 := by
  unfold rgn j_nt
  decide +kernel
theorem rg_75_17_0_1 : rgn 75 17 0 1 84 84 0 := by
  unfold rgn j_nt
  decide +kernel
theorem rg_84_0_1_120 : rgn 84 0 1 120 2147483648 2147483667 34 := by
  unfold rgn j_nt
  decide +kernel
theorem rg_76_22_7_1 : rgn 76 22 7 1 0 4294967295 25 := by
  unfold rgn j_nt
  decide +kernel
theorem rg_75_14_0_1 : rgn 75 14 0 1 81 81 0 := by
  unfold rgn j_nt
  decide +kernel
theorem rg_81_0_1_8 : rgn 81 0 1 8 0 4294967295 31 := by
  unfold rgn j_nt
  decide +kernel
theorem rg_76_290_0_1 : rgn 76 290 0 1 2147483648 2147483658 25 := by
  unfold rgn j_nt
  decide +kernel
theorem rg_76_292_3_10 : rgn 76 292 3 10 2147483648 2147484048 25 := by
  unfold rgn j_nt
  decide +kernel
theorem rg_76_293_3_10 : rgn 76 293 3 10 2147483648 2147484048 25 := by
  unfold rgn j_nt
  decide +kernel
theorem rg_76_321_2_400 : rgn 76 321 2 400 2147483647 2147483662 25 := by
  unfold rgn j_nt
  decide +kernel
theorem rg_75_15_0_1 : rgn 75 15 0 1 82 82 0 := by
  unfold rgn j_nt
  decide +kernel
theorem rg_82_0_1_400 : rgn 82 0 1 400 0 4294967295 32 := by
  unfold rgn j_nt
  decide +kernel
theorem rg_76_322_2_400 : rgn 76 322 2 400 0 4294967295 25 := by
  unfold rgn j_nt
  decide +kernel
theorem rg_76_291_3_1 : rgn 76 291 3 1 0 4294967295 25 := by
  unfold rgn j_nt
  decide +kernel
theorem rg_76_291_3_2 : rgn 76 291 3 2 0 4294967295 25 := by
  unfold rgn j_nt
  decide +kernel
theorem rg_76_291_3_3 : rgn 76 291 3 3 0 4294967295 25 := by
  unfold rgn j_nt
  decide +kernel
theorem rg_76_291_3_5 : rgn 76 291 3 5 0 4294967295 25 := by
  unfold rgn j_nt
  decide +kernel
theorem rg_76_291_3_6 : rgn 76 291 3 6 0 4294967295 25 := by
  unfold rgn j_nt
  decide +kernel
theorem rg_76_291_3_7 : rgn 76 291 3 7 0 4294967295 25 := by
  unfold rgn j_nt
  decide +kernel
theorem rg_76_291_3_8 : rgn 76 291 3 8 0 4294967295 25 := by
  unfold rgn j_nt
  decide +kernel
theorem rg_76_291_3_10 : rgn 76 291 3 10 0 4294967295 25 := by
  unfold rgn j_nt
  decide +kernel
theorem rg_76_22_7_2 : rgn 76 22 7 2 0 4294967295 25 := by
  unfold rgn j_nt
  decide +kernel
theorem rg_76_22_7_3 : rgn 76 22 7 3 0 4294967295 25 := by
  unfold rgn j_nt
  decide +kernel
theorem rg_76_22_7_5 : rgn 76 22 7 5 0 4294967295 25 := by
  unfold rgn j_nt
  decide +kernel
theorem rg_76_22_7_6 : rgn 76 22 7 6 0 4294967295 25 := by
  unfold rgn j_nt
  decide +kernel
theorem rg_76_22_7_7 : rgn 76 22 7 7 0 4294967295 25 := by
  unfold rgn j_nt
  decide +kernel
theorem rg_76_22_7_8 : rgn 76 22 7 8 0 4294967295 25 := by
  unfold rgn j_nt
  decide +kernel
theorem rg_76_22_7_10 : rgn 76 22 7 10 0 4294967295 25 := by
  unfold rgn j_nt
  decide +kernel
theorem rg_76_22_7_11 : rgn 76 22 7 11 0 4294967295 25 := by
  unfold rgn j_nt
  decide +kernel
theorem rg_76_22_7_12 : rgn 76 22 7 12 0 4294967295 25 := by
  unfold rgn j_nt
  decide +kernel
theorem rg_76_22_7_13 : rgn 76 22 7 13 0 4294967295 25 := by
  unfold rgn j_nt
  decide +kernel
theorem rg_76_22_7_14 : rgn 76 22 7 14 0 4294967295 25 := by
  unfold rgn j_nt
  decide +kernel
theorem rg_76_22_7_15 : rgn 76 22 7 15 0 4294967295 25 := by
  unfold rgn j_nt
  decide +kernel
theorem rg_75_18_0_1 : rgn 75 18 0 1 85 85 0 := by
  unfold rgn j_nt
  decide +kernel
theorem rg_85_0_1_72 : rgn 85 0 1 72 2147483648 2147483668 35 := by
  unfold rgn j_nt
  decide +kernel
theorem rg_75_19_0_1 : rgn 75 19 0 1 86 86 0 := by
  unfold rgn j_nt
  decide +kernel
theorem rg_86_0_1_1440 : rgn 86 0 1 1440 2147483648 2147483667 35 := by
  unfold rgn j_nt
  decide +kernel
theorem rg_75_20_0_1 : rgn 75 20 0 1 87 87 0 := by
  unfold rgn j_nt
  decide +kernel
theorem rg_87_0_1_72 : rgn 87 0 1 72 2147483647 2147483653 35 := by
  unfold rgn j_nt
  decide +kernel
theorem rg_75_24_0_1 : rgn 75 24 0 1 91 91 0 := by
  unfold rgn j_nt
  decide +kernel
theorem rg_91_0_1_72 : rgn 91 0 1 72 2147483647 2147483653 36 := by
  unfold rgn j_nt
  decide +kernel
theorem rg_76_21_7_1 : rgn 76 21 7 1 2147483648 2147483653 25 := by
  unfold rgn j_nt
  decide +kernel
theorem rg_76_21_7_2 : rgn 76 21 7 2 2147483648 2147483653 25 := by
  unfold rgn j_nt
  decide +kernel
theorem rg_76_21_7_3 : rgn 76 21 7 3 2147483648 2147483653 25 := by
  unfold rgn j_nt
  decide +kernel
theorem rg_76_21_7_5 : rgn 76 21 7 5 2147483648 2147483653 25 := by
  unfold rgn j_nt
  decide +kernel
theorem rg_76_21_7_6 : rgn 76 21 7 6 2147483648 2147483653 25 := by
  unfold rgn j_nt
  decide +kernel
theorem rg_76_21_7_7 : rgn 76 21 7 7 2147483648 2147483653 25 := by
  unfold rgn j_nt
  decide +kernel
theorem rg_76_21_7_8 : rgn 76 21 7 8 2147483648 2147483653 25 := by
  unfold rgn j_nt
  decide +kernel
theorem rg_76_21_7_10 : rgn 76 21 7 10 2147483648 2147483653 25 := by
  unfold rgn j_nt
  decide +kernel
theorem rg_76_21_7_11 : rgn 76 21 7 11 2147483648 2147483653 25 := by
  unfold rgn j_nt
  decide +kernel
theorem rg_76_21_7_12 : rgn 76 21 7 12 2147483648 2147483653 25 := by
  unfold rgn j_nt
  decide +kernel
theorem rg_76_21_7_13 : rgn 76 21 7 13 2147483648 2147483653 25 := by
  unfold rgn j_nt
  decide +kernel
theorem rg_76_21_7_14 : rgn 76 21 7 14 2147483648 2147483653 25 := by
  unfold rgn j_nt
  decide +kernel
theorem rg_76_21_7_15 : rgn 76 21 7 15 2147483648 2147483653 25 := by
  unfold rgn j_nt
  decide +kernel
theorem rg_76_201_5_1 : rgn 76 201 5 1 2147483648 2147483653 25 := by
  unfold rgn j_nt
  decide +kernel
theorem rg_76_203_5_1 : rgn 76 203 5 1 2147483648 2147483659 25 := by
  unfold rgn j_nt
  decide +kernel
theorem rg_76_200_5_1 : rgn 76 200 5 1 0 4294967295 25 := by
  unfold rgn j_nt
  decide +kernel
theorem rg_76_204_5_1 : rgn 76 204 5 1 0 4294967295 25 := by
  unfold rgn j_nt
  decide +kernel
theorem rg_76_201_5_2 : rgn 76 201 5 2 2147483648 2147483653 25 := by
  unfold rgn j_nt
  decide +kernel
theorem rg_76_203_5_2 : rgn 76 203 5 2 2147483648 2147483659 25 := by
  unfold rgn j_nt
  decide +kernel
theorem rg_76_200_5_2 : rgn 76 200 5 2 0 4294967295 25 := by
  unfold rgn j_nt
  decide +kernel
theorem rg_76_204_5_2 : rgn 76 204 5 2 0 4294967295 25 := by
  unfold rgn j_nt
  decide +kernel
theorem rg_76_201_5_3 : rgn 76 201 5 3 2147483648 2147483653 25 := by
  unfold rgn j_nt
  decide +kernel
theorem rg_76_203_5_3 : rgn 76 203 5 3 2147483648 2147483659 25 := by
  unfold rgn j_nt
  decide +kernel
theorem rg_76_200_5_3 : rgn 76 200 5 3 0 4294967295 25 := by
  unfold rgn j_nt
  decide +kernel
theorem rg_76_204_5_3 : rgn 76 204 5 3 0 4294967295 25 := by
  unfold rgn j_nt
  decide +kernel
theorem rg_76_201_5_5 : rgn 76 201 5 5 2147483648 2147483653 25 := by
  unfold rgn j_nt
  decide +kernel
theorem rg_76_203_5_5 : rgn 76 203 5 5 2147483648 2147483659 25 := by
  unfold rgn j_nt
  decide +kernel
theorem rg_76_200_5_5 : rgn 76 200 5 5 0 4294967295 25 := by
  unfold rgn j_nt
  decide +kernel
theorem rg_76_204_5_5 : rgn 76 204 5 5 0 4294967295 25 := by
  unfold rgn j_nt
  decide +kernel
theorem rg_76_201_5_6 : rgn 76 201 5 6 2147483648 2147483653 25 := by
  unfold rgn j_nt
  decide +kernel
theorem rg_76_203_5_6 : rgn 76 203 5 6 2147483648 2147483659 25 := by
  unfold rgn j_nt
  decide +kernel
theorem rg_76_200_5_6 : rgn 76 200 5 6 0 4294967295 25 := by
  unfold rgn j_nt
  decide +kernel
theorem rg_76_204_5_6 : rgn 76 204 5 6 0 4294967295 25 := by
  unfold rgn j_nt
  decide +kernel
theorem rg_76_201_5_7 : rgn 76 201 5 7 2147483648 2147483653 25 := by
  unfold rgn j_nt
  decide +kernel
theorem rg_76_203_5_7 : rgn 76 203 5 7 2147483648 2147483659 25 := by
  unfold rgn j_nt
  decide +kernel
theorem rg_76_200_5_7 : rgn 76 200 5 7 0 4294967295 25 := by
  unfold rgn j_nt
  decide +kernel
theorem rg_76_204_5_7 : rgn 76 204 5 7 0 4294967295 25 := by
  unfold rgn j_nt
  decide +kernel
theorem rg_76_201_5_8 : rgn 76 201 5 8 2147483648 2147483653 25 := by
  unfold rgn j_nt
  decide +kernel
theorem rg_76_203_5_8 : rgn 76 203 5 8 2147483648 2147483659 25 := by
  unfold rgn j_nt
  decide +kernel
theorem rg_76_200_5_8 : rgn 76 200 5 8 0 4294967295 25 := by
  unfold rgn j_nt
  decide +kernel
theorem rg_76_204_5_8 : rgn 76 204 5 8 0 4294967295 25 := by
  unfold rgn j_nt
  decide +kernel
theorem rg_76_14_1_6 : rgn 76 14 1 6 0 4294967295 51 := by
  unfold rgn j_nt
  decide +kernel
theorem rg_75_26_0_1 : rgn 75 26 0 1 0 4294967295 17 := by
  unfold rgn j_nt
  decide +kernel
theorem rg_75_25_0_1 : rgn 75 25 0 1 92 92 0 := by
  unfold rgn j_nt
  decide +kernel
theorem rg_76_14_1_1 : rgn 76 14 1 1 0 4294967295 51 := by
  unfold rgn j_nt
  decide +kernel
theorem rg_92_0_1_6 : rgn 92 0 1 6 0 4294967295 37 := by
  unfold rgn j_nt
  decide +kernel
theorem rg_76_14_1_2 : rgn 76 14 1 2 0 4294967295 51 := by
  unfold rgn j_nt
  decide +kernel
theorem rg_76_14_1_3 : rgn 76 14 1 3 0 4294967295 51 := by
  unfold rgn j_nt
  decide +kernel
theorem rg_76_14_1_5 : rgn 76 14 1 5 0 4294967295 51 := by
  unfold rgn j_nt
  decide +kernel
theorem rg_76_163_4_1 : rgn 76 163 4 1 0 4294967295 25 := by
  unfold rgn j_nt
  decide +kernel
theorem rg_76_160_4_1 : rgn 76 160 4 1 2147483648 2147483653 25 := by
  unfold rgn j_nt
  decide +kernel
theorem rg_76_162_4_1 : rgn 76 162 4 1 2147483648 2147483659 25 := by
  unfold rgn j_nt
  decide +kernel
theorem rg_76_163_4_2 : rgn 76 163 4 2 0 4294967295 25 := by
  unfold rgn j_nt
  decide +kernel
theorem rg_76_160_4_2 : rgn 76 160 4 2 2147483648 2147483653 25 := by
  unfold rgn j_nt
  decide +kernel
theorem rg_76_162_4_2 : rgn 76 162 4 2 2147483648 2147483659 25 := by
  unfold rgn j_nt
  decide +kernel
theorem rg_76_163_4_3 : rgn 76 163 4 3 0 4294967295 25 := by
  unfold rgn j_nt
  decide +kernel
theorem rg_76_160_4_3 : rgn 76 160 4 3 2147483648 2147483653 25 := by
  unfold rgn j_nt
  decide +kernel
theorem rg_76_162_4_3 : rgn 76 162 4 3 2147483648 2147483659 25 := by
  unfold rgn j_nt
  decide +kernel
theorem rg_76_163_4_5 : rgn 76 163 4 5 0 4294967295 25 := by
  unfold rgn j_nt
  decide +kernel
theorem rg_76_160_4_5 : rgn 76 160 4 5 2147483648 2147483653 25 := by
  unfold rgn j_nt
  decide +kernel
theorem rg_76_162_4_5 : rgn 76 162 4 5 2147483648 2147483659 25 := by
  unfold rgn j_nt
  decide +kernel
theorem rg_76_163_4_6 : rgn 76 163 4 6 0 4294967295 25 := by
  unfold rgn j_nt
  decide +kernel
theorem rg_76_160_4_6 : rgn 76 160 4 6 2147483648 2147483653 25 := by
  unfold rgn j_nt
  decide +kernel
theorem rg_76_162_4_6 : rgn 76 162 4 6 2147483648 2147483659 25 := by
  unfold rgn j_nt
  decide +kernel
theorem rg_76_163_4_7 : rgn 76 163 4 7 0 4294967295 25 := by
  unfold rgn j_nt
  decide +kernel
theorem rg_76_160_4_7 : rgn 76 160 4 7 2147483648 2147483653 25 := by
  unfold rgn j_nt
  decide +kernel
theorem rg_76_162_4_7 : rgn 76 162 4 7 2147483648 2147483659 25 := by
  unfold rgn j_nt
  decide +kernel
theorem rg_76_163_4_8 : rgn 76 163 4 8 0 4294967295 25 := by
  unfold rgn j_nt
  decide +kernel
theorem rg_76_160_4_8 : rgn 76 160 4 8 2147483648 2147483653 25 := by
  unfold rgn j_nt
  decide +kernel
theorem rg_76_162_4_8 : rgn 76 162 4 8 2147483648 2147483659 25 := by
  unfold rgn j_nt
  decide +kernel
theorem rg_75_33_0_1 : rgn 75 33 0 1 2147483648 2147483649 44 := by
  unfold rgn j_nt
  decide +kernel
theorem rg_75_31_0_1 : rgn 75 31 0 1 2147483648 2147483660 42 := by
  unfold rgn j_nt
  decide +kernel
theorem rg_75_30_0_1 : rgn 75 30 0 1 2147483648 2147503649 41 := by
  unfold rgn j_nt
  decide +kernel
theorem rg_75_34_0_1 : rgn 75 34 0 1 0 4294967295 17 := by
  unfold rgn j_nt
  decide +kernel
theorem rg_75_27_0_1 : rgn 75 27 0 1 93 93 0 := by
  unfold rgn j_nt
  decide +kernel
theorem rg_93_0_1_6 : rgn 93 0 1 6 2147483647 2147488831 38 := by
  unfold rgn j_nt
  decide +kernel
theorem rg_75_28_0_1 : rgn 75 28 0 1 94 94 0 := by
  unfold rgn j_nt
  decide +kernel
theorem rg_94_0_1_6 : rgn 94 0 1 6 2147483647 2147483753 39 := by
  unfold rgn j_nt
  decide +kernel
theorem rg_75_29_0_1 : rgn 75 29 0 1 95 95 0 := by
  unfold rgn j_nt
  decide +kernel
theorem rg_95_0_1_6 : rgn 95 0 1 6 2147483647 2147483659 40 := by
  unfold rgn j_nt
  decide +kernel
theorem rg_76_253_4_1 : rgn 76 253 4 1 0 4294967295 25 := by
  unfold rgn j_nt
  decide +kernel
theorem rg_75_32_0_1 : rgn 75 32 0 1 0 4294967295 43 := by
  unfold rgn j_nt
  decide +kernel
theorem rg_76_250_4_1 : rgn 76 250 4 1 2147483648 2147483653 25 := by
  unfold rgn j_nt
  decide +kernel
theorem rg_76_251_4_1 : rgn 76 251 4 1 2147483648 2147483659 25 := by
  unfold rgn j_nt
  decide +kernel
theorem rg_76_252_4_1 : rgn 76 252 4 1 0 4294967295 25 := by
  unfold rgn j_nt
  decide +kernel
theorem rg_76_253_4_2 : rgn 76 253 4 2 0 4294967295 25 := by
  unfold rgn j_nt
  decide +kernel
theorem rg_76_250_4_2 : rgn 76 250 4 2 2147483648 2147483653 25 := by
  unfold rgn j_nt
  decide +kernel
theorem rg_76_251_4_2 : rgn 76 251 4 2 2147483648 2147483659 25 := by
  unfold rgn j_nt
  decide +kernel
theorem rg_76_252_4_2 : rgn 76 252 4 2 0 4294967295 25 := by
  unfold rgn j_nt
  decide +kernel
theorem rg_76_253_4_3 : rgn 76 253 4 3 0 4294967295 25 := by
  unfold rgn j_nt
  decide +kernel
theorem rg_76_250_4_3 : rgn 76 250 4 3 2147483648 2147483653 25 := by
  unfold rgn j_nt
  decide +kernel
theorem rg_76_251_4_3 : rgn 76 251 4 3 2147483648 2147483659 25 := by
  unfold rgn j_nt
  decide +kernel
theorem rg_76_252_4_3 : rgn 76 252 4 3 0 4294967295 25 := by
  unfold rgn j_nt
  decide +kernel
theorem rg_76_253_4_5 : rgn 76 253 4 5 0 4294967295 25 := by
  unfold rgn j_nt
  decide +kernel
theorem rg_76_250_4_5 : rgn 76 250 4 5 2147483648 2147483653 25 := by
  unfold rgn j_nt
  decide +kernel
theorem rg_76_251_4_5 : rgn 76 251 4 5 2147483648 2147483659 25 := by
  unfold rgn j_nt
  decide +kernel
theorem rg_76_252_4_5 : rgn 76 252 4 5 0 4294967295 25 := by
  unfold rgn j_nt
  decide +kernel
theorem rg_76_253_4_6 : rgn 76 253 4 6 0 4294967295 25 := by
  unfold rgn j_nt
  decide +kernel
theorem rg_76_250_4_6 : rgn 76 250 4 6 2147483648 2147483653 25 := by
  unfold rgn j_nt
  decide +kernel
theorem rg_76_251_4_6 : rgn 76 251 4 6 2147483648 2147483659 25 := by
  unfold rgn j_nt
  decide +kernel
theorem rg_76_252_4_6 : rgn 76 252 4 6 0 4294967295 25 := by
  unfold rgn j_nt
  decide +kernel
theorem rg_76_253_4_7 : rgn 76 253 4 7 0 4294967295 25 := by
  unfold rgn j_nt
  decide +kernel
theorem rg_76_250_4_7 : rgn 76 250 4 7 2147483648 2147483653 25 := by
  unfold rgn j_nt
  decide +kernel
theorem rg_76_251_4_7 : rgn 76 251 4 7 2147483648 2147483659 25 := by
  unfold rgn j_nt
  decide +kernel
theorem rg_76_252_4_7 : rgn 76 252 4 7 0 4294967295 25 := by
  unfold rgn j_nt
  decide +kernel
theorem rg_76_253_4_8 : rgn 76 253 4 8 0 4294967295 25 := by
  unfold rgn j_nt
  decide +kernel
theorem rg_76_250_4_8 : rgn 76 250 4 8 2147483648 2147483653 25 := by
  unfold rgn j_nt
  decide +kernel
theorem rg_76_251_4_8 : rgn 76 251 4 8 2147483648 2147483659 25 := by
  unfold rgn j_nt
  decide +kernel
theorem rg_76_252_4_8 : rgn 76 252 4 8 0 4294967295 25 := by
  unfold rgn j_nt
  decide +kernel
theorem rg_75_35_0_1 : rgn 75 35 0 1 96 96 0 := by
  unfold rgn j_nt
  decide +kernel
theorem rg_96_0_1_5 : rgn 96 0 1 5 2147483647 2147488831 45 := by
  unfold rgn j_nt
  decide +kernel
theorem rg_76_8_1_1 : rgn 76 8 1 1 0 4294967295 25 := by
  unfold rgn j_nt
  decide +kernel
theorem rg_76_8_1_2 : rgn 76 8 1 2 0 4294967295 25 := by
  unfold rgn j_nt
  decide +kernel
theorem rg_76_8_1_3 : rgn 76 8 1 3 0 4294967295 25 := by
  unfold rgn j_nt
  decide +kernel
theorem rg_76_8_1_5 : rgn 76 8 1 5 0 4294967295 25 := by
  unfold rgn j_nt
  decide +kernel
theorem rg_0_3_0_1 : rgn 0 3 0 1 61 61 0 := by
  unfold rgn j_nt
  decide +kernel
theorem rg_61_0_0_1 : rgn 61 0 0 1 1 1 0 := by
  unfold rgn j_nt
  decide +kernel
theorem rg_1_2_0_1 : rgn 1 2 0 1 2147483648 2147484048 5 := by
  unfold rgn j_nt
  decide +kernel
theorem rg_T8_3_4_10 {r : Nat} (t : tw r) : rgn (r + 8) 3 4 10 0 4294967295 7 := by
  rcases t with rfl | rfl <;> (unfold rgn j_nt; decide +kernel)
theorem rg_T4_1_4_10 {r : Nat} (t : tw r) : rgn (r + 4) 1 4 10 0 4294967295 7 := by
  rcases t with rfl | rfl <;> (unfold rgn j_nt; decide +kernel)
theorem rg_97_0_1_1 : rgn 97 0 1 1 0 4294967295 46 := by
  unfold rgn j_nt
  decide +kernel
theorem rg_0_4_0_1 : rgn 0 4 0 1 62 62 0 := by
  unfold rgn j_nt
  decide +kernel
theorem rg_62_0_0_1 : rgn 62 0 0 1 1 1 0 := by
  unfold rgn j_nt
  decide +kernel
theorem rg_63_5_0_1 : rgn 63 5 0 1 45 45 0 := by
  unfold rgn j_nt
  decide +kernel
theorem rg_63_7_0_1 : rgn 63 7 0 1 0 4294967295 15 := by
  unfold rgn j_nt
  decide +kernel
theorem rg_63_0_0_1 : rgn 63 0 0 1 64 64 0 := by
  unfold rgn j_nt
  decide +kernel
theorem rg_63_2_0_1 : rgn 63 2 0 1 66 66 0 := by
  unfold rgn j_nt
  decide +kernel
theorem rg_66_0_1_6 : rgn 66 0 1 6 0 4294967295 15 := by
  unfold rgn j_nt
  decide +kernel
theorem rg_63_8_0_1 : rgn 63 8 0 1 0 4294967295 15 := by
  unfold rgn j_nt
  decide +kernel
theorem rg_63_15_0_1 : rgn 63 15 0 1 2147483648 2147483653 15 := by
  unfold rgn j_nt
  decide +kernel
theorem rg_63_17_0_1 : rgn 63 17 0 1 0 4294967295 15 := by
  unfold rgn j_nt
  decide +kernel
theorem rg_63_9_0_1 : rgn 63 9 0 1 2147483648 2147483649 15 := by
  unfold rgn j_nt
  decide +kernel
theorem rg_63_1_0_1 : rgn 63 1 0 1 65 65 0 := by
  unfold rgn j_nt
  decide +kernel
theorem rg_65_0_1_6 : rgn 65 0 1 6 0 4294967295 15 := by
  unfold rgn j_nt
  decide +kernel
theorem rg_63_16_0_1 : rgn 63 16 0 1 0 4294967295 15 := by
  unfold rgn j_nt
  decide +kernel
theorem rg_64_0_1_36 : rgn 64 0 1 36 0 4294967295 15 := by
  unfold rgn j_nt
  decide +kernel
theorem rg_63_10_0_1 : rgn 63 10 0 1 0 4294967295 15 := by
  unfold rgn j_nt
  decide +kernel
theorem rg_63_11_0_1 : rgn 63 11 0 1 0 4294967295 15 := by
  unfold rgn j_nt
  decide +kernel
theorem rg_63_12_0_1 : rgn 63 12 0 1 0 4294967295 15 := by
  unfold rgn j_nt
  decide +kernel
theorem rg_63_13_0_1 : rgn 63 13 0 1 0 4294967295 15 := by
  unfold rgn j_nt
  decide +kernel
theorem rg_63_3_0_1 : rgn 63 3 0 1 67 67 0 := by
  unfold rgn j_nt
  decide +kernel
theorem rg_67_0_1_5 : rgn 67 0 1 5 0 4294967295 15 := by
  unfold rgn j_nt
  decide +kernel
theorem rg_63_4_0_1 : rgn 63 4 0 1 68 68 0 := by
  unfold rgn j_nt
  decide +kernel
theorem rg_68_0_1_5 : rgn 68 0 1 5 0 4294967295 15 := by
  unfold rgn j_nt
  decide +kernel
theorem rg_69_5_0_1 : rgn 69 5 0 1 45 45 0 := by
  unfold rgn j_nt
  decide +kernel
theorem rg_69_7_0_1 : rgn 69 7 0 1 0 4294967295 16 := by
  unfold rgn j_nt
  decide +kernel
theorem rg_69_0_0_1 : rgn 69 0 0 1 70 70 0 := by
  unfold rgn j_nt
  decide +kernel
theorem rg_69_2_0_1 : rgn 69 2 0 1 72 72 0 := by
  unfold rgn j_nt
  decide +kernel
theorem rg_72_0_1_6 : rgn 72 0 1 6 0 4294967295 16 := by
  unfold rgn j_nt
  decide +kernel
theorem rg_69_8_0_1 : rgn 69 8 0 1 0 4294967295 16 := by
  unfold rgn j_nt
  decide +kernel
theorem rg_69_15_0_1 : rgn 69 15 0 1 2147483648 2147483653 16 := by
  unfold rgn j_nt
  decide +kernel
theorem rg_69_17_0_1 : rgn 69 17 0 1 0 4294967295 16 := by
  unfold rgn j_nt
  decide +kernel
theorem rg_69_9_0_1 : rgn 69 9 0 1 2147483648 2147483649 16 := by
  unfold rgn j_nt
  decide +kernel
theorem rg_T8_3_4_1 {r : Nat} (t : tw r) : rgn (r + 8) 3 4 1 0 4294967295 7 := by
  rcases t with rfl | rfl <;> (unfold rgn j_nt; decide +kernel)
theorem rg_T8_3_4_2 {r : Nat} (t : tw r) : rgn (r + 8) 3 4 2 0 4294967295 7 := by
  rcases t with rfl | rfl <;> (unfold rgn j_nt; decide +kernel)
theorem rg_T8_3_4_3 {r : Nat} (t : tw r) : rgn (r + 8) 3 4 3 0 4294967295 7 := by
  rcases t with rfl | rfl <;> (unfold rgn j_nt; decide +kernel)
theorem rg_T8_3_4_5 {r : Nat} (t : tw r) : rgn (r + 8) 3 4 5 0 4294967295 7 := by
  rcases t with rfl | rfl <;> (unfold rgn j_nt; decide +kernel)
theorem rg_T8_3_4_6 {r : Nat} (t : tw r) : rgn (r + 8) 3 4 6 0 4294967295 7 := by
  rcases t with rfl | rfl <;> (unfold rgn j_nt; decide +kernel)
theorem rg_T8_3_4_7 {r : Nat} (t : tw r) : rgn (r + 8) 3 4 7 0 4294967295 7 := by
  rcases t with rfl | rfl <;> (unfold rgn j_nt; decide +kernel)
theorem rg_T8_3_4_8 {r : Nat} (t : tw r) : rgn (r + 8) 3 4 8 0 4294967295 7 := by
  rcases t with rfl | rfl <;> (unfold rgn j_nt; decide +kernel)
theorem rg_69_18_0_1 : rgn 69 18 0 1 0 4294967295 16 := by
  unfold rgn j_nt
  decide +kernel
theorem rg_69_1_0_1 : rgn 69 1 0 1 71 71 0 := by
  unfold rgn j_nt
  decide +kernel
theorem rg_71_0_1_6 : rgn 71 0 1 6 0 4294967295 16 := by
  unfold rgn j_nt
  decide +kernel
theorem rg_T8_0_4_1 {r : Nat} (t : tw r) : rgn (r + 8) 0 4 1 2147483648 2147483653 7 := by
  rcases t with rfl | rfl <;> (unfold rgn j_nt; decide +kernel)
theorem rg_T8_1_4_1 {r : Nat} (t : tw r) : rgn (r + 8) 1 4 1 0 4294967295 7 := by
  rcases t with rfl | rfl <;> (unfold rgn j_nt; decide +kernel)
theorem rg_T8_0_4_2 {r : Nat} (t : tw r) : rgn (r + 8) 0 4 2 2147483648 2147483653 7 := by
  rcases t with rfl | rfl <;> (unfold rgn j_nt; decide +kernel)
theorem rg_T8_1_4_2 {r : Nat} (t : tw r) : rgn (r + 8) 1 4 2 0 4294967295 7 := by
  rcases t with rfl | rfl <;> (unfold rgn j_nt; decide +kernel)
theorem rg_T8_0_4_3 {r : Nat} (t : tw r) : rgn (r + 8) 0 4 3 2147483648 2147483653 7 := by
  rcases t with rfl | rfl <;> (unfold rgn j_nt; decide +kernel)
theorem rg_T8_1_4_3 {r : Nat} (t : tw r) : rgn (r + 8) 1 4 3 0 4294967295 7 := by
  rcases t with rfl | rfl <;> (unfold rgn j_nt; decide +kernel)
theorem rg_T8_0_4_5 {r : Nat} (t : tw r) : rgn (r + 8) 0 4 5 2147483648 2147483653 7 := by
  rcases t with rfl | rfl <;> (unfold rgn j_nt; decide +kernel)
theorem rg_T8_1_4_5 {r : Nat} (t : tw r) : rgn (r + 8) 1 4 5 0 4294967295 7 := by
  rcases t with rfl | rfl <;> (unfold rgn j_nt; decide +kernel)
theorem rg_T8_0_4_6 {r : Nat} (t : tw r) : rgn (r + 8) 0 4 6 2147483648 2147483653 7 := by
  rcases t with rfl | rfl <;> (unfold rgn j_nt; decide +kernel)
theorem rg_T8_1_4_6 {r : Nat} (t : tw r) : rgn (r + 8) 1 4 6 0 4294967295 7 := by
  rcases t with rfl | rfl <;> (unfold rgn j_nt; decide +kernel)
theorem rg_T8_0_4_7 {r : Nat} (t : tw r) : rgn (r + 8) 0 4 7 2147483648 2147483653 7 := by
  rcases t with rfl | rfl <;> (unfold rgn j_nt; decide +kernel)
theorem rg_T8_1_4_7 {r : Nat} (t : tw r) : rgn (r + 8) 1 4 7 0 4294967295 7 := by
  rcases t with rfl | rfl <;> (unfold rgn j_nt; decide +kernel)
theorem rg_T8_0_4_8 {r : Nat} (t : tw r) : rgn (r + 8) 0 4 8 2147483648 2147483653 7 := by
  rcases t with rfl | rfl <;> (unfold rgn j_nt; decide +kernel)
theorem rg_T8_1_4_8 {r : Nat} (t : tw r) : rgn (r + 8) 1 4 8 0 4294967295 7 := by
  rcases t with rfl | rfl <;> (unfold rgn j_nt; decide +kernel)
theorem rg_69_16_0_1 : rgn 69 16 0 1 0 4294967295 16 := by
  unfold rgn j_nt
  decide +kernel
theorem rg_70_0_1_36 : rgn 70 0 1 36 0 4294967295 16 := by
  unfold rgn j_nt
  decide +kernel
theorem rg_T8_2_4_1 {r : Nat} (t : tw r) : rgn (r + 8) 2 4 1 0 4294967295 7 := by
  rcases t with rfl | rfl <;> (unfold rgn j_nt; decide +kernel)
theorem rg_69_10_0_1 : rgn 69 10 0 1 0 4294967295 16 := by
  unfold rgn j_nt
  decide +kernel
theorem rg_69_11_0_1 : rgn 69 11 0 1 0 4294967295 16 := by
  unfold rgn j_nt
  decide +kernel
theorem rg_69_12_0_1 : rgn 69 12 0 1 0 4294967295 16 := by
  unfold rgn j_nt
  decide +kernel
theorem rg_69_13_0_1 : rgn 69 13 0 1 0 4294967295 16 := by
  unfold rgn j_nt
  decide +kernel
theorem rg_T8_2_4_2 {r : Nat} (t : tw r) : rgn (r + 8) 2 4 2 0 4294967295 7 := by
  rcases t with rfl | rfl <;> (unfold rgn j_nt; decide +kernel)
theorem rg_T8_2_4_3 {r : Nat} (t : tw r) : rgn (r + 8) 2 4 3 0 4294967295 7 := by
  rcases t with rfl | rfl <;> (unfold rgn j_nt; decide +kernel)
theorem rg_T8_2_4_5 {r : Nat} (t : tw r) : rgn (r + 8) 2 4 5 0 4294967295 7 := by
  rcases t with rfl | rfl <;> (unfold rgn j_nt; decide +kernel)
theorem rg_T8_2_4_6 {r : Nat} (t : tw r) : rgn (r + 8) 2 4 6 0 4294967295 7 := by
  rcases t with rfl | rfl <;> (unfold rgn j_nt; decide +kernel)
theorem rg_T8_2_4_7 {r : Nat} (t : tw r) : rgn (r + 8) 2 4 7 0 4294967295 7 := by
  rcases t with rfl | rfl <;> (unfold rgn j_nt; decide +kernel)
theorem rg_T8_2_4_8 {r : Nat} (t : tw r) : rgn (r + 8) 2 4 8 0 4294967295 7 := by
  rcases t with rfl | rfl <;> (unfold rgn j_nt; decide +kernel)
theorem rg_69_3_0_1 : rgn 69 3 0 1 73 73 0 := by
  unfold rgn j_nt
  decide +kernel
theorem rg_73_0_1_5 : rgn 73 0 1 5 0 4294967295 16 := by
  unfold rgn j_nt
  decide +kernel
theorem rg_69_4_0_1 : rgn 69 4 0 1 74 74 0 := by
  unfold rgn j_nt
  decide +kernel
theorem rg_74_0_1_5 : rgn 74 0 1 5 0 4294967295 16 := by
  unfold rgn j_nt
  decide +kernel
theorem tg_0_519_7_0 {r : Nat} (t : tw r) : x_g r 519 7 0 = true := by
  rcases t with rfl | rfl <;> decide +kernel
theorem tg_0_513_1_1 {r : Nat} (t : tw r) : x_g r 513 1 1 = true := by
  rcases t with rfl | rfl <;> decide +kernel
theorem tf_0_1 {h : xh} {r : Nat} (hJ : J h) (t : tw r) : h r 1 = (r + 3) := by
  rcases t with rfl | rfl
  · have z := hJ.1 17 1 (by decide) (by decide)
    have e1 : j_lo 17 1 = 20 := by decide +kernel
    have e2 : j_hi 17 1 = 20 := by decide +kernel
    show h 17 1 = 20
    omega
  · have z := hJ.1 31 1 (by decide) (by decide)
    have e1 : j_lo 31 1 = 34 := by decide +kernel
    have e2 : j_hi 31 1 = 34 := by decide +kernel
    show h 31 1 = 34
    omega
theorem tg_3_386_2_0 {r : Nat} (t : tw r) : x_g (r + 3) 386 2 0 = true := by
  rcases t with rfl | rfl <;> decide +kernel
theorem tr_3_7 {r : Nat} (t : tw r) : x_rb 7 (r + 3) = true := by
  rcases t with rfl | rfl <;> decide +kernel
theorem tn_3 {r : Nat} (t : tw r) : (r + 3) < x_nc := by
  rcases t with rfl | rfl <;> decide
theorem tg_3_384_0_0 {r : Nat} (t : tw r) : x_g (r + 3) 384 0 0 = true := by
  rcases t with rfl | rfl <;> decide +kernel
theorem tg_3_385_1_1 {r : Nat} (t : tw r) : x_g (r + 3) 385 1 1 = true := by
  rcases t with rfl | rfl <;> decide +kernel
theorem tf_3_1 {h : xh} {r : Nat} (hJ : J h) (t : tw r) : h (r + 3) 1 = (r + 4) := by
  rcases t with rfl | rfl
  · have z := hJ.1 20 1 (by decide) (by decide)
    have e1 : j_lo 20 1 = 21 := by decide +kernel
    have e2 : j_hi 20 1 = 21 := by decide +kernel
    show h 20 1 = 21
    omega
  · have z := hJ.1 34 1 (by decide) (by decide)
    have e1 : j_lo 34 1 = 35 := by decide +kernel
    have e2 : j_hi 34 1 = 35 := by decide +kernel
    show h 34 1 = 35
    omega
theorem ta_4_40 {r : Nat} (t : tw r) : x_a (r + 4) 1 40 = true := by
  rcases t with rfl | rfl <;> decide +kernel
theorem tn_0 {r : Nat} (t : tw r) : r < x_nc := by
  rcases t with rfl | rfl <;> decide
theorem tg_0_517_5_1 {r : Nat} (t : tw r) : x_g r 517 5 1 = true := by
  rcases t with rfl | rfl <;> decide +kernel
theorem tf_0_5 {h : xh} {r : Nat} (hJ : J h) (t : tw r) : h r 5 = (r + 10) := by
  rcases t with rfl | rfl
  · have z := hJ.1 17 5 (by decide) (by decide)
    have e1 : j_lo 17 5 = 27 := by decide +kernel
    have e2 : j_hi 17 5 = 27 := by decide +kernel
    show h 17 5 = 27
    omega
  · have z := hJ.1 31 5 (by decide) (by decide)
    have e1 : j_lo 31 5 = 41 := by decide +kernel
    have e2 : j_hi 31 5 = 41 := by decide +kernel
    show h 31 5 = 41
    omega
theorem ta_10_6 {r : Nat} (t : tw r) : x_a (r + 10) 1 6 = true := by
  rcases t with rfl | rfl <;> decide +kernel
theorem ctb_60_T10_6 {r2 : Nat} (t2 : tw r2) : 6 ≤ x_ln (r2 + 10) ∧ x_bw 60 (r2 + 10) 6 = true ∧ x_nq 60 = true := by
  rcases t2 with rfl | rfl <;> decide +kernel
theorem tn_10 {r : Nat} (t : tw r) : (r + 10) < x_nc := by
  rcases t with rfl | rfl <;> decide
theorem tg_0_514_2_1 {r : Nat} (t : tw r) : x_g r 514 2 1 = true := by
  rcases t with rfl | rfl <;> decide +kernel
theorem tf_0_2 {h : xh} {r : Nat} (hJ : J h) (t : tw r) : h r 2 = (r + 5) := by
  rcases t with rfl | rfl
  · have z := hJ.1 17 2 (by decide) (by decide)
    have e1 : j_lo 17 2 = 22 := by decide +kernel
    have e2 : j_hi 17 2 = 22 := by decide +kernel
    show h 17 2 = 22
    omega
  · have z := hJ.1 31 2 (by decide) (by decide)
    have e1 : j_lo 31 2 = 36 := by decide +kernel
    have e2 : j_hi 31 2 = 36 := by decide +kernel
    show h 31 2 = 36
    omega
theorem tg_5_386_2_0 {r : Nat} (t : tw r) : x_g (r + 5) 386 2 0 = true := by
  rcases t with rfl | rfl <;> decide +kernel
theorem tne_5_59 {r : Nat} (t : tw r) : (r + 5) ≠ 59 := by
  rcases t with rfl | rfl <;> decide
theorem tr_5_7 {r : Nat} (t : tw r) : x_rb 7 (r + 5) = true := by
  rcases t with rfl | rfl <;> decide +kernel
theorem tn_5 {r : Nat} (t : tw r) : (r + 5) < x_nc := by
  rcases t with rfl | rfl <;> decide
theorem tg_5_384_0_0 {r : Nat} (t : tw r) : x_g (r + 5) 384 0 0 = true := by
  rcases t with rfl | rfl <;> decide +kernel
theorem tg_5_385_1_1 {r : Nat} (t : tw r) : x_g (r + 5) 385 1 1 = true := by
  rcases t with rfl | rfl <;> decide +kernel
theorem tf_5_1 {h : xh} {r : Nat} (hJ : J h) (t : tw r) : h (r + 5) 1 = (r + 6) := by
  rcases t with rfl | rfl
  · have z := hJ.1 22 1 (by decide) (by decide)
    have e1 : j_lo 22 1 = 23 := by decide +kernel
    have e2 : j_hi 22 1 = 23 := by decide +kernel
    show h 22 1 = 23
    omega
  · have z := hJ.1 36 1 (by decide) (by decide)
    have e1 : j_lo 36 1 = 37 := by decide +kernel
    have e2 : j_hi 36 1 = 37 := by decide +kernel
    show h 36 1 = 37
    omega
theorem tne_6_59 {r : Nat} (t : tw r) : (r + 6) ≠ 59 := by
  rcases t with rfl | rfl <;> decide
theorem ta_6_40 {r : Nat} (t : tw r) : x_a (r + 6) 1 40 = true := by
  rcases t with rfl | rfl <;> decide +kernel
theorem tg_0_515_3_1 {r : Nat} (t : tw r) : x_g r 515 3 1 = true := by
  rcases t with rfl | rfl <;> decide +kernel
theorem tf_0_3 {h : xh} {r : Nat} (hJ : J h) (t : tw r) : h r 3 = (r + 7) := by
  rcases t with rfl | rfl
  · have z := hJ.1 17 3 (by decide) (by decide)
    have e1 : j_lo 17 3 = 24 := by decide +kernel
    have e2 : j_hi 17 3 = 24 := by decide +kernel
    show h 17 3 = 24
    omega
  · have z := hJ.1 31 3 (by decide) (by decide)
    have e1 : j_lo 31 3 = 38 := by decide +kernel
    have e2 : j_hi 31 3 = 38 := by decide +kernel
    show h 31 3 = 38
    omega
theorem tg_7_386_2_0 {r : Nat} (t : tw r) : x_g (r + 7) 386 2 0 = true := by
  rcases t with rfl | rfl <;> decide +kernel
theorem tr_7_7 {r : Nat} (t : tw r) : x_rb 7 (r + 7) = true := by
  rcases t with rfl | rfl <;> decide +kernel
theorem tn_7 {r : Nat} (t : tw r) : (r + 7) < x_nc := by
  rcases t with rfl | rfl <;> decide
theorem tg_7_384_0_0 {r : Nat} (t : tw r) : x_g (r + 7) 384 0 0 = true := by
  rcases t with rfl | rfl <;> decide +kernel
theorem tg_7_385_1_1 {r : Nat} (t : tw r) : x_g (r + 7) 385 1 1 = true := by
  rcases t with rfl | rfl <;> decide +kernel
theorem tf_7_1 {h : xh} {r : Nat} (hJ : J h) (t : tw r) : h (r + 7) 1 = (r + 8) := by
  rcases t with rfl | rfl
  · have z := hJ.1 24 1 (by decide) (by decide)
    have e1 : j_lo 24 1 = 25 := by decide +kernel
    have e2 : j_hi 24 1 = 25 := by decide +kernel
    show h 24 1 = 25
    omega
  · have z := hJ.1 38 1 (by decide) (by decide)
    have e1 : j_lo 38 1 = 39 := by decide +kernel
    have e2 : j_hi 38 1 = 39 := by decide +kernel
    show h 38 1 = 39
    omega
theorem ta_8_40 {r : Nat} (t : tw r) : x_a (r + 8) 1 40 = true := by
  rcases t with rfl | rfl <;> decide +kernel
theorem tg_0_512_0_1 {r : Nat} (t : tw r) : x_g r 512 0 1 = true := by
  rcases t with rfl | rfl <;> decide +kernel
theorem tf_0_0 {h : xh} {r : Nat} (hJ : J h) (t : tw r) : h r 0 = (r + 1) := by
  rcases t with rfl | rfl
  · have z := hJ.1 17 0 (by decide) (by decide)
    have e1 : j_lo 17 0 = 18 := by decide +kernel
    have e2 : j_hi 17 0 = 18 := by decide +kernel
    show h 17 0 = 18
    omega
  · have z := hJ.1 31 0 (by decide) (by decide)
    have e1 : j_lo 31 0 = 32 := by decide +kernel
    have e2 : j_hi 31 0 = 32 := by decide +kernel
    show h 31 0 = 32
    omega
theorem tn_1 {r : Nat} (t : tw r) : (r + 1) < x_nc := by
  rcases t with rfl | rfl <;> decide
theorem tg_1_386_2_0 {r : Nat} (t : tw r) : x_g (r + 1) 386 2 0 = true := by
  rcases t with rfl | rfl <;> decide +kernel
theorem tg_1_385_1_1 {r : Nat} (t : tw r) : x_g (r + 1) 385 1 1 = true := by
  rcases t with rfl | rfl <;> decide +kernel
theorem tf_1_1 {h : xh} {r : Nat} (hJ : J h) (t : tw r) : h (r + 1) 1 = (r + 2) := by
  rcases t with rfl | rfl
  · have z := hJ.1 18 1 (by decide) (by decide)
    have e1 : j_lo 18 1 = 19 := by decide +kernel
    have e2 : j_hi 18 1 = 19 := by decide +kernel
    show h 18 1 = 19
    omega
  · have z := hJ.1 32 1 (by decide) (by decide)
    have e1 : j_lo 32 1 = 33 := by decide +kernel
    have e2 : j_hi 32 1 = 33 := by decide +kernel
    show h 32 1 = 33
    omega
theorem tl_2 {r : Nat} (t : tw r) : x_kd (r + 2) % 4 ≠ 0 ∧ x_ln (r + 2) = 140 := by
  rcases t with rfl | rfl <;> decide +kernel
theorem tn_2 {r : Nat} (t : tw r) : (r + 2) < x_nc := by
  rcases t with rfl | rfl <;> decide
theorem ta_2_140 {r : Nat} (t : tw r) : x_a (r + 2) 1 140 = true := by
  rcases t with rfl | rfl <;> decide +kernel
theorem ctb_5_T2_140 {r2 : Nat} (t2 : tw r2) : 140 ≤ x_ln (r2 + 2) ∧ x_bw 5 (r2 + 2) 140 = true ∧ x_nq 5 = true := by
  rcases t2 with rfl | rfl <;> decide +kernel
theorem tne_3_4 {r : Nat} (t : tw r) : (r + 3) ≠ 4 := by
  rcases t with rfl | rfl <;> decide
theorem tl_4 {r : Nat} (t : tw r) : x_kd (r + 4) % 4 ≠ 0 ∧ x_ln (r + 4) = 40 := by
  rcases t with rfl | rfl <;> decide +kernel
theorem tn_4 {r : Nat} (t : tw r) : (r + 4) < x_nc := by
  rcases t with rfl | rfl <;> decide
theorem ctb_7_T4_40 {r2 : Nat} (t2 : tw r2) : 40 ≤ x_ln (r2 + 4) ∧ x_bw 7 (r2 + 4) 40 = true ∧ x_nq 7 = true := by
  rcases t2 with rfl | rfl <;> decide +kernel
theorem tne_5_6 {r : Nat} (t : tw r) : (r + 5) ≠ 6 := by
  rcases t with rfl | rfl <;> decide
theorem tne_5_4 {r : Nat} (t : tw r) : (r + 5) ≠ 4 := by
  rcases t with rfl | rfl <;> decide
theorem tl_6 {r : Nat} (t : tw r) : x_kd (r + 6) % 4 ≠ 0 ∧ x_ln (r + 6) = 40 := by
  rcases t with rfl | rfl <;> decide +kernel
theorem tn_6 {r : Nat} (t : tw r) : (r + 6) < x_nc := by
  rcases t with rfl | rfl <;> decide
theorem ctb_9_T6_40 {r2 : Nat} (t2 : tw r2) : 40 ≤ x_ln (r2 + 6) ∧ x_bw 9 (r2 + 6) 40 = true ∧ x_nq 9 = true := by
  rcases t2 with rfl | rfl <;> decide +kernel
theorem tne_7_8 {r : Nat} (t : tw r) : (r + 7) ≠ 8 := by
  rcases t with rfl | rfl <;> decide
theorem tne_7_6 {r : Nat} (t : tw r) : (r + 7) ≠ 6 := by
  rcases t with rfl | rfl <;> decide
theorem tne_7_4 {r : Nat} (t : tw r) : (r + 7) ≠ 4 := by
  rcases t with rfl | rfl <;> decide
theorem tl_8 {r : Nat} (t : tw r) : x_kd (r + 8) % 4 ≠ 0 ∧ x_ln (r + 8) = 40 := by
  rcases t with rfl | rfl <;> decide +kernel
theorem tn_8 {r : Nat} (t : tw r) : (r + 8) < x_nc := by
  rcases t with rfl | rfl <;> decide
theorem ctb_11_T8_40 {r2 : Nat} (t2 : tw r2) : 40 ≤ x_ln (r2 + 8) ∧ x_bw 11 (r2 + 8) 40 = true ∧ x_nq 11 = true := by
  rcases t2 with rfl | rfl <;> decide +kernel
theorem tg_0_516_4_1 {r : Nat} (t : tw r) : x_g r 516 4 1 = true := by
  rcases t with rfl | rfl <;> decide +kernel
theorem tf_0_4 {h : xh} {r : Nat} (hJ : J h) (t : tw r) : h r 4 = (r + 9) := by
  rcases t with rfl | rfl
  · have z := hJ.1 17 4 (by decide) (by decide)
    have e1 : j_lo 17 4 = 26 := by decide +kernel
    have e2 : j_hi 17 4 = 26 := by decide +kernel
    show h 17 4 = 26
    omega
  · have z := hJ.1 31 4 (by decide) (by decide)
    have e1 : j_lo 31 4 = 40 := by decide +kernel
    have e2 : j_hi 31 4 = 40 := by decide +kernel
    show h 31 4 = 40
    omega
theorem ta_9_6 {r : Nat} (t : tw r) : x_a (r + 9) 1 6 = true := by
  rcases t with rfl | rfl <;> decide +kernel
theorem ctb_12_T9_6 {r2 : Nat} (t2 : tw r2) : 6 ≤ x_ln (r2 + 9) ∧ x_bw 12 (r2 + 9) 6 = true ∧ x_nq 12 = true := by
  rcases t2 with rfl | rfl <;> decide +kernel
theorem tn_9 {r : Nat} (t : tw r) : (r + 9) < x_nc := by
  rcases t with rfl | rfl <;> decide
theorem ctb_13_T10_6 {r2 : Nat} (t2 : tw r2) : 6 ≤ x_ln (r2 + 10) ∧ x_bw 13 (r2 + 10) 6 = true ∧ x_nq 13 = true := by
  rcases t2 with rfl | rfl <;> decide +kernel
theorem tg_0_518_6_1 {r : Nat} (t : tw r) : x_g r 518 6 1 = true := by
  rcases t with rfl | rfl <;> decide +kernel
theorem tf_0_6 {h : xh} {r : Nat} (hJ : J h) (t : tw r) : h r 6 = (r + 11) := by
  rcases t with rfl | rfl
  · have z := hJ.1 17 6 (by decide) (by decide)
    have e1 : j_lo 17 6 = 28 := by decide +kernel
    have e2 : j_hi 17 6 = 28 := by decide +kernel
    show h 17 6 = 28
    omega
  · have z := hJ.1 31 6 (by decide) (by decide)
    have e1 : j_lo 31 6 = 42 := by decide +kernel
    have e2 : j_hi 31 6 = 42 := by decide +kernel
    show h 31 6 = 42
    omega
theorem tn_11 {r : Nat} (t : tw r) : (r + 11) < x_nc := by
  rcases t with rfl | rfl <;> decide
theorem tg_11_130_2_0 {r : Nat} (t : tw r) : x_g (r + 11) 130 2 0 = true := by
  rcases t with rfl | rfl <;> decide +kernel
theorem tne_11_10 {r : Nat} (t : tw r) : (r + 11) ≠ 10 := by
  rcases t with rfl | rfl <;> decide
theorem tne_11_8 {r : Nat} (t : tw r) : (r + 11) ≠ 8 := by
  rcases t with rfl | rfl <;> decide
theorem tne_11_6 {r : Nat} (t : tw r) : (r + 11) ≠ 6 := by
  rcases t with rfl | rfl <;> decide
theorem tne_11_4 {r : Nat} (t : tw r) : (r + 11) ≠ 4 := by
  rcases t with rfl | rfl <;> decide
theorem tg_11_131_3_0 {r : Nat} (t : tw r) : x_g (r + 11) 131 3 0 = true := by
  rcases t with rfl | rfl <;> decide +kernel
theorem tne_11_14 {r : Nat} (t : tw r) : (r + 11) ≠ 14 := by
  rcases t with rfl | rfl <;> decide
theorem tg_11_128_0_1 {r : Nat} (t : tw r) : x_g (r + 11) 128 0 1 = true := by
  rcases t with rfl | rfl <;> decide +kernel
theorem tf_11_0 {h : xh} {r : Nat} (hJ : J h) (t : tw r) : h (r + 11) 0 = (r + 12) := by
  rcases t with rfl | rfl
  · have z := hJ.1 28 0 (by decide) (by decide)
    have e1 : j_lo 28 0 = 29 := by decide +kernel
    have e2 : j_hi 28 0 = 29 := by decide +kernel
    show h 28 0 = 29
    omega
  · have z := hJ.1 42 0 (by decide) (by decide)
    have e1 : j_lo 42 0 = 43 := by decide +kernel
    have e2 : j_hi 42 0 = 43 := by decide +kernel
    show h 42 0 = 43
    omega
theorem ta_12_400 {r : Nat} (t : tw r) : x_a (r + 12) 1 400 = true := by
  rcases t with rfl | rfl <;> decide +kernel
theorem ctb_15_T12_400 {r2 : Nat} (t2 : tw r2) : 400 ≤ x_ln (r2 + 12) ∧ x_bw 15 (r2 + 12) 400 = true ∧ x_nq 15 = true := by
  rcases t2 with rfl | rfl <;> decide +kernel
theorem tn_12 {r : Nat} (t : tw r) : (r + 12) < x_nc := by
  rcases t with rfl | rfl <;> decide
theorem tne_0_14 {r : Nat} (t : tw r) : r ≠ 14 := by
  rcases t with rfl | rfl <;> decide
theorem tne_0_10 {r : Nat} (t : tw r) : r ≠ 10 := by
  rcases t with rfl | rfl <;> decide
theorem tne_0_8 {r : Nat} (t : tw r) : r ≠ 8 := by
  rcases t with rfl | rfl <;> decide
theorem tne_0_6 {r : Nat} (t : tw r) : r ≠ 6 := by
  rcases t with rfl | rfl <;> decide
theorem tne_0_4 {r : Nat} (t : tw r) : r ≠ 4 := by
  rcases t with rfl | rfl <;> decide
theorem tg_0_520_8_0 {r : Nat} (t : tw r) : x_g r 520 8 0 = true := by
  rcases t with rfl | rfl <;> decide +kernel
theorem tne_0_3 {r : Nat} (t : tw r) : r ≠ 3 := by
  rcases t with rfl | rfl <;> decide
theorem tg_0_521_9_0 {r : Nat} (t : tw r) : x_g r 521 9 0 = true := by
  rcases t with rfl | rfl <;> decide +kernel
theorem tne_0_0 {r : Nat} (t : tw r) : r ≠ 0 := by
  rcases t with rfl | rfl <;> decide
theorem tne_1_0 {r : Nat} (t : tw r) : (r + 1) ≠ 0 := by
  rcases t with rfl | rfl <;> decide
theorem tne_3_0 {r : Nat} (t : tw r) : (r + 3) ≠ 0 := by
  rcases t with rfl | rfl <;> decide
theorem tne_5_0 {r : Nat} (t : tw r) : (r + 5) ≠ 0 := by
  rcases t with rfl | rfl <;> decide
theorem tne_7_0 {r : Nat} (t : tw r) : (r + 7) ≠ 0 := by
  rcases t with rfl | rfl <;> decide
theorem tr_0_9 {r : Nat} (t : tw r) : x_rb 9 r = true := by
  rcases t with rfl | rfl <;> decide +kernel
theorem tr_1_7 {r : Nat} (t : tw r) : x_rb 7 (r + 1) = true := by
  rcases t with rfl | rfl <;> decide +kernel
theorem ctb_T2_5_140 {r1 : Nat} (t1 : tw r1) : 140 ≤ x_ln 5 ∧ x_bw (r1 + 2) 5 140 = true ∧ x_nq (r1 + 2) = true := by
  rcases t1 with rfl | rfl <;> decide +kernel
theorem tgr_2 {r : Nat} (t : tw r) (i : Nat) : x_gr (r + 2) i = 7 := by
  rcases t with rfl | rfl <;> rfl
theorem tne_1_6 {r : Nat} (t : tw r) : (r + 1) ≠ 6 := by
  rcases t with rfl | rfl <;> decide
theorem ctb_T4_7_40 {r1 : Nat} (t1 : tw r1) : 40 ≤ x_ln 7 ∧ x_bw (r1 + 4) 7 40 = true ∧ x_nq (r1 + 4) = true := by
  rcases t1 with rfl | rfl <;> decide +kernel
theorem tgr_4 {r : Nat} (t : tw r) (i : Nat) : x_gr (r + 4) i = 7 := by
  rcases t with rfl | rfl <;> rfl
theorem tne_3_8 {r : Nat} (t : tw r) : (r + 3) ≠ 8 := by
  rcases t with rfl | rfl <;> decide
theorem tne_1_8 {r : Nat} (t : tw r) : (r + 1) ≠ 8 := by
  rcases t with rfl | rfl <;> decide
theorem ctb_T6_9_40 {r1 : Nat} (t1 : tw r1) : 40 ≤ x_ln 9 ∧ x_bw (r1 + 6) 9 40 = true ∧ x_nq (r1 + 6) = true := by
  rcases t1 with rfl | rfl <;> decide +kernel
theorem tgr_6 {r : Nat} (t : tw r) (i : Nat) : x_gr (r + 6) i = 7 := by
  rcases t with rfl | rfl <;> rfl
theorem tne_5_10 {r : Nat} (t : tw r) : (r + 5) ≠ 10 := by
  rcases t with rfl | rfl <;> decide
theorem tne_3_10 {r : Nat} (t : tw r) : (r + 3) ≠ 10 := by
  rcases t with rfl | rfl <;> decide
theorem tne_1_10 {r : Nat} (t : tw r) : (r + 1) ≠ 10 := by
  rcases t with rfl | rfl <;> decide
theorem ctb_T8_11_40 {r1 : Nat} (t1 : tw r1) : 40 ≤ x_ln 11 ∧ x_bw (r1 + 8) 11 40 = true ∧ x_nq (r1 + 8) = true := by
  rcases t1 with rfl | rfl <;> decide +kernel
theorem tgr_8 {r : Nat} (t : tw r) (i : Nat) : x_gr (r + 8) i = 7 := by
  rcases t with rfl | rfl <;> rfl
theorem ctb_T9_12_6 {r1 : Nat} (t1 : tw r1) : 6 ≤ x_ln 12 ∧ x_bw (r1 + 9) 12 6 = true ∧ x_nq (r1 + 9) = true := by
  rcases t1 with rfl | rfl <;> decide +kernel
theorem tgr_9 {r : Nat} (t : tw r) (i : Nat) : x_gr (r + 9) i = 7 := by
  rcases t with rfl | rfl <;> rfl
theorem ctb_T10_13_6 {r1 : Nat} (t1 : tw r1) : 6 ≤ x_ln 13 ∧ x_bw (r1 + 10) 13 6 = true ∧ x_nq (r1 + 10) = true := by
  rcases t1 with rfl | rfl <;> decide +kernel
theorem tgr_10 {r : Nat} (t : tw r) (i : Nat) : x_gr (r + 10) i = 50 := by
  rcases t with rfl | rfl <;> rfl
theorem tr_11_3 {r : Nat} (t : tw r) : x_rb 3 (r + 11) = true := by
  rcases t with rfl | rfl <;> decide +kernel
theorem tne_7_14 {r : Nat} (t : tw r) : (r + 7) ≠ 14 := by
  rcases t with rfl | rfl <;> decide
theorem tne_5_14 {r : Nat} (t : tw r) : (r + 5) ≠ 14 := by
  rcases t with rfl | rfl <;> decide
theorem tne_3_14 {r : Nat} (t : tw r) : (r + 3) ≠ 14 := by
  rcases t with rfl | rfl <;> decide
theorem tne_1_14 {r : Nat} (t : tw r) : (r + 1) ≠ 14 := by
  rcases t with rfl | rfl <;> decide
theorem ctb_T12_15_400 {r1 : Nat} (t1 : tw r1) : 400 ≤ x_ln 15 ∧ x_bw (r1 + 12) 15 400 = true ∧ x_nq (r1 + 12) = true := by
  rcases t1 with rfl | rfl <;> decide +kernel
theorem tgr_12 {r : Nat} (t : tw r) (i : Nat) : x_gr (r + 12) i = 7 := by
  rcases t with rfl | rfl <;> rfl
theorem tne_11_3 {r : Nat} (t : tw r) : (r + 11) ≠ 3 := by
  rcases t with rfl | rfl <;> decide
theorem tne_7_3 {r : Nat} (t : tw r) : (r + 7) ≠ 3 := by
  rcases t with rfl | rfl <;> decide
theorem tne_5_3 {r : Nat} (t : tw r) : (r + 5) ≠ 3 := by
  rcases t with rfl | rfl <;> decide
theorem tne_3_3 {r : Nat} (t : tw r) : (r + 3) ≠ 3 := by
  rcases t with rfl | rfl <;> decide
theorem tne_1_3 {r : Nat} (t : tw r) : (r + 1) ≠ 3 := by
  rcases t with rfl | rfl <;> decide
theorem tof_1_0 {r : Nat} : (r + 1) ≠ r := by omega
theorem tof_1_11 {r : Nat} : (r + 1) ≠ (r + 11) := by omega
theorem tof_1_7 {r : Nat} : (r + 1) ≠ (r + 7) := by omega
theorem tof_1_5 {r : Nat} : (r + 1) ≠ (r + 5) := by omega
theorem tof_1_3 {r : Nat} : (r + 1) ≠ (r + 3) := by omega
theorem tof_3_0 {r : Nat} : (r + 3) ≠ r := by omega
theorem tof_3_11 {r : Nat} : (r + 3) ≠ (r + 11) := by omega
theorem tof_3_7 {r : Nat} : (r + 3) ≠ (r + 7) := by omega
theorem tof_3_5 {r : Nat} : (r + 3) ≠ (r + 5) := by omega
theorem tof_5_0 {r : Nat} : (r + 5) ≠ r := by omega
theorem tof_5_11 {r : Nat} : (r + 5) ≠ (r + 11) := by omega
theorem tof_5_7 {r : Nat} : (r + 5) ≠ (r + 7) := by omega
theorem tof_7_0 {r : Nat} : (r + 7) ≠ r := by omega
theorem tof_7_11 {r : Nat} : (r + 7) ≠ (r + 11) := by omega
theorem tne_1_50 {r : Nat} (t : tw r) : (r + 1) ≠ 50 := by
  rcases t with rfl | rfl <;> decide
theorem tne_1_49 {r : Nat} (t : tw r) : (r + 1) ≠ 49 := by
  rcases t with rfl | rfl <;> decide
theorem tne_1_48 {r : Nat} (t : tw r) : (r + 1) ≠ 48 := by
  rcases t with rfl | rfl <;> decide
theorem tg_1_384_0_0 {r : Nat} (t : tw r) : x_g (r + 1) 384 0 0 = true := by
  rcases t with rfl | rfl <;> decide +kernel
theorem tne_1_54 {r : Nat} (t : tw r) : (r + 1) ≠ 54 := by
  rcases t with rfl | rfl <;> decide
theorem tne_0_45 {r : Nat} (t : tw r) : r ≠ 45 := by
  rcases t with rfl | rfl <;> decide
theorem tne_1_58 {r : Nat} (t : tw r) : (r + 1) ≠ 58 := by
  rcases t with rfl | rfl <;> decide
theorem tg_11_132_4_0 {r : Nat} (t : tw r) : x_g (r + 11) 132 4 0 = true := by
  rcases t with rfl | rfl <;> decide +kernel
theorem tof_12_11 {r : Nat} : (r + 12) ≠ (r + 11) := by omega
theorem tg_11_129_1_1 {r : Nat} (t : tw r) : x_g (r + 11) 129 1 1 = true := by
  rcases t with rfl | rfl <;> decide +kernel
theorem tf_11_1 {h : xh} {r : Nat} (hJ : J h) (t : tw r) : h (r + 11) 1 = (r + 13) := by
  rcases t with rfl | rfl
  · have z := hJ.1 28 1 (by decide) (by decide)
    have e1 : j_lo 28 1 = 30 := by decide +kernel
    have e2 : j_hi 28 1 = 30 := by decide +kernel
    show h 28 1 = 30
    omega
  · have z := hJ.1 42 1 (by decide) (by decide)
    have e1 : j_lo 42 1 = 44 := by decide +kernel
    have e2 : j_hi 42 1 = 44 := by decide +kernel
    show h 42 1 = 44
    omega
theorem tof_13_11 {r : Nat} : (r + 13) ≠ (r + 11) := by omega
theorem ta_13_32 {r : Nat} (t : tw r) : x_a (r + 13) 1 32 = true := by
  rcases t with rfl | rfl <;> decide +kernel
theorem tof_11_13 {r : Nat} : (r + 11) ≠ (r + 13) := by omega
theorem tne_1_53 {r : Nat} (t : tw r) : (r + 1) ≠ 53 := by
  rcases t with rfl | rfl <;> decide
theorem tne_0_69 {r : Nat} (t : tw r) : r ≠ 69 := by
  rcases t with rfl | rfl <;> decide
theorem tne_0_63 {r : Nat} (t : tw r) : r ≠ 63 := by
  rcases t with rfl | rfl <;> decide
theorem tne_1_69 {r : Nat} (t : tw r) : (r + 1) ≠ 69 := by
  rcases t with rfl | rfl <;> decide
theorem tne_1_63 {r : Nat} (t : tw r) : (r + 1) ≠ 63 := by
  rcases t with rfl | rfl <;> decide
theorem tne_3_69 {r : Nat} (t : tw r) : (r + 3) ≠ 69 := by
  rcases t with rfl | rfl <;> decide
theorem tne_3_63 {r : Nat} (t : tw r) : (r + 3) ≠ 63 := by
  rcases t with rfl | rfl <;> decide
theorem tne_5_69 {r : Nat} (t : tw r) : (r + 5) ≠ 69 := by
  rcases t with rfl | rfl <;> decide
theorem tne_5_63 {r : Nat} (t : tw r) : (r + 5) ≠ 63 := by
  rcases t with rfl | rfl <;> decide
theorem tne_7_69 {r : Nat} (t : tw r) : (r + 7) ≠ 69 := by
  rcases t with rfl | rfl <;> decide
theorem tne_7_63 {r : Nat} (t : tw r) : (r + 7) ≠ 63 := by
  rcases t with rfl | rfl <;> decide
theorem cw_77_0_76_0_2 : cwn 77 0 76 0 2 27 := by
  unfold cwn j_nt
  decide +kernel
theorem cw_77_0_76_0_3 : cwn 77 0 76 0 3 27 := by
  unfold cwn j_nt
  decide +kernel
theorem cw_77_0_76_0_5 : cwn 77 0 76 0 5 27 := by
  unfold cwn j_nt
  decide +kernel
theorem cw_77_0_76_0_6 : cwn 77 0 76 0 6 27 := by
  unfold cwn j_nt
  decide +kernel
theorem cw_77_0_76_0_7 : cwn 77 0 76 0 7 27 := by
  unfold cwn j_nt
  decide +kernel
theorem cw_77_0_76_0_8 : cwn 77 0 76 0 8 27 := by
  unfold cwn j_nt
  decide +kernel
theorem cw_77_0_76_0_10 : cwn 77 0 76 0 10 27 := by
  unfold cwn j_nt
  decide +kernel
theorem cw_77_0_76_0_11 : cwn 77 0 76 0 11 27 := by
  unfold cwn j_nt
  decide +kernel
theorem cw_77_0_76_0_12 : cwn 77 0 76 0 12 27 := by
  unfold cwn j_nt
  decide +kernel
theorem cw_77_0_76_0_13 : cwn 77 0 76 0 13 27 := by
  unfold cwn j_nt
  decide +kernel
theorem cw_77_0_76_0_14 : cwn 77 0 76 0 14 27 := by
  unfold cwn j_nt
  decide +kernel
theorem cw_77_0_76_0_15 : cwn 77 0 76 0 15 27 := by
  unfold cwn j_nt
  decide +kernel
theorem cw_77_0_76_0_20 : cwn 77 0 76 0 20 27 := by
  unfold cwn j_nt
  decide +kernel
theorem cw_77_0_76_0_21 : cwn 77 0 76 0 21 27 := by
  unfold cwn j_nt
  decide +kernel
theorem cw_77_0_76_0_22 : cwn 77 0 76 0 22 27 := by
  unfold cwn j_nt
  decide +kernel
theorem cw_77_0_76_0_36 : cwn 77 0 76 0 36 27 := by
  unfold cwn j_nt
  decide +kernel
theorem cw_77_0_76_0_72 : cwn 77 0 76 0 72 27 := by
  unfold cwn j_nt
  decide +kernel
theorem cw_77_0_76_0_106 : cwn 77 0 76 0 106 27 := by
  unfold cwn j_nt
  decide +kernel
theorem cw_77_0_76_0_141 : cwn 77 0 76 0 141 27 := by
  unfold cwn j_nt
  decide +kernel
theorem cw_77_0_76_0_291 : cwn 77 0 76 0 291 27 := by
  unfold cwn j_nt
  decide +kernel
theorem cw_77_0_76_0_400 : cwn 77 0 76 0 400 27 := by
  unfold cwn j_nt
  decide +kernel
theorem cw_77_0_76_0_401 : cwn 77 0 76 0 401 27 := by
  unfold cwn j_nt
  decide +kernel
theorem cw_77_0_76_0_832 : cwn 77 0 76 0 832 27 := by
  unfold cwn j_nt
  decide +kernel
theorem cw_77_0_76_0_1121 : cwn 77 0 76 0 1121 27 := by
  unfold cwn j_nt
  decide +kernel
theorem cw_78_0_76_0_2 : cwn 78 0 76 0 2 28 := by
  unfold cwn j_nt
  decide +kernel
theorem cw_78_0_76_0_3 : cwn 78 0 76 0 3 28 := by
  unfold cwn j_nt
  decide +kernel
theorem cw_78_0_76_0_5 : cwn 78 0 76 0 5 28 := by
  unfold cwn j_nt
  decide +kernel
theorem cw_78_0_76_0_6 : cwn 78 0 76 0 6 28 := by
  unfold cwn j_nt
  decide +kernel
theorem cw_78_0_76_0_7 : cwn 78 0 76 0 7 28 := by
  unfold cwn j_nt
  decide +kernel
theorem cw_78_0_76_0_8 : cwn 78 0 76 0 8 28 := by
  unfold cwn j_nt
  decide +kernel
theorem cw_78_0_76_0_10 : cwn 78 0 76 0 10 28 := by
  unfold cwn j_nt
  decide +kernel
theorem cw_78_0_76_0_11 : cwn 78 0 76 0 11 28 := by
  unfold cwn j_nt
  decide +kernel
theorem cw_78_0_76_0_12 : cwn 78 0 76 0 12 28 := by
  unfold cwn j_nt
  decide +kernel
theorem cw_78_0_76_0_13 : cwn 78 0 76 0 13 28 := by
  unfold cwn j_nt
  decide +kernel
theorem cw_78_0_76_0_14 : cwn 78 0 76 0 14 28 := by
  unfold cwn j_nt
  decide +kernel
theorem cw_78_0_76_0_15 : cwn 78 0 76 0 15 28 := by
  unfold cwn j_nt
  decide +kernel
theorem cw_78_0_76_0_20 : cwn 78 0 76 0 20 28 := by
  unfold cwn j_nt
  decide +kernel
theorem cw_78_0_76_0_21 : cwn 78 0 76 0 21 28 := by
  unfold cwn j_nt
  decide +kernel
theorem cw_78_0_76_0_22 : cwn 78 0 76 0 22 28 := by
  unfold cwn j_nt
  decide +kernel
theorem cw_78_0_76_0_36 : cwn 78 0 76 0 36 28 := by
  unfold cwn j_nt
  decide +kernel
theorem cw_78_0_76_0_72 : cwn 78 0 76 0 72 28 := by
  unfold cwn j_nt
  decide +kernel
theorem cw_78_0_76_0_106 : cwn 78 0 76 0 106 28 := by
  unfold cwn j_nt
  decide +kernel
theorem cw_78_0_76_0_141 : cwn 78 0 76 0 141 28 := by
  unfold cwn j_nt
  decide +kernel
theorem cw_78_0_76_0_290 : cwn 78 0 76 0 290 28 := by
  unfold cwn j_nt
  decide +kernel
theorem cw_76_290_76_1121_2 : cwn 76 290 76 1121 2 25 := by
  unfold cwn j_nt
  decide +kernel
theorem cw_76_290_76_1121_3 : cwn 76 290 76 1121 3 25 := by
  unfold cwn j_nt
  decide +kernel
theorem cw_76_290_76_1121_5 : cwn 76 290 76 1121 5 25 := by
  unfold cwn j_nt
  decide +kernel
theorem cw_76_290_76_1121_6 : cwn 76 290 76 1121 6 25 := by
  unfold cwn j_nt
  decide +kernel
theorem cw_76_290_76_1121_7 : cwn 76 290 76 1121 7 25 := by
  unfold cwn j_nt
  decide +kernel
theorem cw_76_290_76_1121_8 : cwn 76 290 76 1121 8 25 := by
  unfold cwn j_nt
  decide +kernel
theorem cw_76_290_76_1121_10 : cwn 76 290 76 1121 10 25 := by
  unfold cwn j_nt
  decide +kernel
theorem cw_76_290_76_1121_11 : cwn 76 290 76 1121 11 25 := by
  unfold cwn j_nt
  decide +kernel
theorem cw_76_290_76_1121_12 : cwn 76 290 76 1121 12 25 := by
  unfold cwn j_nt
  decide +kernel
theorem cw_76_290_76_1121_13 : cwn 76 290 76 1121 13 25 := by
  unfold cwn j_nt
  decide +kernel
theorem cw_76_290_76_1121_14 : cwn 76 290 76 1121 14 25 := by
  unfold cwn j_nt
  decide +kernel
theorem cw_76_290_76_1121_15 : cwn 76 290 76 1121 15 25 := by
  unfold cwn j_nt
  decide +kernel
theorem cw_76_290_76_1121_20 : cwn 76 290 76 1121 20 25 := by
  unfold cwn j_nt
  decide +kernel
theorem cw_76_290_76_1121_21 : cwn 76 290 76 1121 21 25 := by
  unfold cwn j_nt
  decide +kernel
theorem cw_76_290_76_1121_22 : cwn 76 290 76 1121 22 25 := by
  unfold cwn j_nt
  decide +kernel
theorem cw_76_290_76_1121_36 : cwn 76 290 76 1121 36 25 := by
  unfold cwn j_nt
  decide +kernel
theorem cw_76_290_76_1121_72 : cwn 76 290 76 1121 72 25 := by
  unfold cwn j_nt
  decide +kernel
theorem cw_76_290_76_1121_106 : cwn 76 290 76 1121 106 25 := by
  unfold cwn j_nt
  decide +kernel
theorem cw_76_290_76_1121_141 : cwn 76 290 76 1121 141 25 := by
  unfold cwn j_nt
  decide +kernel
theorem cw_76_290_76_1121_291 : cwn 76 290 76 1121 291 25 := by
  unfold cwn j_nt
  decide +kernel
theorem cw_76_290_76_1121_400 : cwn 76 290 76 1121 400 25 := by
  unfold cwn j_nt
  decide +kernel
theorem cw_76_290_76_1121_401 : cwn 76 290 76 1121 401 25 := by
  unfold cwn j_nt
  decide +kernel
theorem cw_76_290_76_1121_831 : cwn 76 290 76 1121 831 25 := by
  unfold cwn j_nt
  decide +kernel
theorem ctb_T2_T2_140 {r1 r2 : Nat} (t1 : tw r1) (t2 : tw r2) : 140 ≤ x_ln (r2 + 2) ∧ x_bw (r1 + 2) (r2 + 2) 140 = true ∧ x_nq (r1 + 2) = true := by
  rcases t1 with rfl | rfl <;> rcases t2 with rfl | rfl <;> decide +kernel
theorem tnn_3_1 {r q : Nat} (t : tw r) (s : tw q) : (r + 3) ≠ (q + 1) := by
  rcases t with rfl | rfl <;> rcases s with rfl | rfl <;> decide
theorem ctb_T4_T4_40 {r1 r2 : Nat} (t1 : tw r1) (t2 : tw r2) : 40 ≤ x_ln (r2 + 4) ∧ x_bw (r1 + 4) (r2 + 4) 40 = true ∧ x_nq (r1 + 4) = true := by
  rcases t1 with rfl | rfl <;> rcases t2 with rfl | rfl <;> decide +kernel
theorem tnn_5_3 {r q : Nat} (t : tw r) (s : tw q) : (r + 5) ≠ (q + 3) := by
  rcases t with rfl | rfl <;> rcases s with rfl | rfl <;> decide
theorem tnn_5_1 {r q : Nat} (t : tw r) (s : tw q) : (r + 5) ≠ (q + 1) := by
  rcases t with rfl | rfl <;> rcases s with rfl | rfl <;> decide
theorem ctb_T6_T6_40 {r1 r2 : Nat} (t1 : tw r1) (t2 : tw r2) : 40 ≤ x_ln (r2 + 6) ∧ x_bw (r1 + 6) (r2 + 6) 40 = true ∧ x_nq (r1 + 6) = true := by
  rcases t1 with rfl | rfl <;> rcases t2 with rfl | rfl <;> decide +kernel
theorem tnn_7_5 {r q : Nat} (t : tw r) (s : tw q) : (r + 7) ≠ (q + 5) := by
  rcases t with rfl | rfl <;> rcases s with rfl | rfl <;> decide
theorem tnn_7_3 {r q : Nat} (t : tw r) (s : tw q) : (r + 7) ≠ (q + 3) := by
  rcases t with rfl | rfl <;> rcases s with rfl | rfl <;> decide
theorem tnn_7_1 {r q : Nat} (t : tw r) (s : tw q) : (r + 7) ≠ (q + 1) := by
  rcases t with rfl | rfl <;> rcases s with rfl | rfl <;> decide
theorem ctb_T8_T8_40 {r1 r2 : Nat} (t1 : tw r1) (t2 : tw r2) : 40 ≤ x_ln (r2 + 8) ∧ x_bw (r1 + 8) (r2 + 8) 40 = true ∧ x_nq (r1 + 8) = true := by
  rcases t1 with rfl | rfl <;> rcases t2 with rfl | rfl <;> decide +kernel
theorem ctb_T9_T9_6 {r1 r2 : Nat} (t1 : tw r1) (t2 : tw r2) : 6 ≤ x_ln (r2 + 9) ∧ x_bw (r1 + 9) (r2 + 9) 6 = true ∧ x_nq (r1 + 9) = true := by
  rcases t1 with rfl | rfl <;> rcases t2 with rfl | rfl <;> decide +kernel
theorem ctb_T10_T10_6 {r1 r2 : Nat} (t1 : tw r1) (t2 : tw r2) : 6 ≤ x_ln (r2 + 10) ∧ x_bw (r1 + 10) (r2 + 10) 6 = true ∧ x_nq (r1 + 10) = true := by
  rcases t1 with rfl | rfl <;> rcases t2 with rfl | rfl <;> decide +kernel
theorem ctb_T12_T12_400 {r1 r2 : Nat} (t1 : tw r1) (t2 : tw r2) : 400 ≤ x_ln (r2 + 12) ∧ x_bw (r1 + 12) (r2 + 12) 400 = true ∧ x_nq (r1 + 12) = true := by
  rcases t1 with rfl | rfl <;> rcases t2 with rfl | rfl <;> decide +kernel
theorem tnn_0_11 {r q : Nat} (t : tw r) (s : tw q) : r ≠ (q + 11) := by
  rcases t with rfl | rfl <;> rcases s with rfl | rfl <;> decide
theorem tnn_0_7 {r q : Nat} (t : tw r) (s : tw q) : r ≠ (q + 7) := by
  rcases t with rfl | rfl <;> rcases s with rfl | rfl <;> decide
theorem tnn_0_5 {r q : Nat} (t : tw r) (s : tw q) : r ≠ (q + 5) := by
  rcases t with rfl | rfl <;> rcases s with rfl | rfl <;> decide
theorem tnn_0_3 {r q : Nat} (t : tw r) (s : tw q) : r ≠ (q + 3) := by
  rcases t with rfl | rfl <;> rcases s with rfl | rfl <;> decide
theorem tnn_0_1 {r q : Nat} (t : tw r) (s : tw q) : r ≠ (q + 1) := by
  rcases t with rfl | rfl <;> rcases s with rfl | rfl <;> decide
theorem tne_0_61 {r : Nat} (t : tw r) : r ≠ 61 := by
  rcases t with rfl | rfl <;> decide
theorem tne_1_61 {r : Nat} (t : tw r) : (r + 1) ≠ 61 := by
  rcases t with rfl | rfl <;> decide
theorem tne_3_61 {r : Nat} (t : tw r) : (r + 3) ≠ 61 := by
  rcases t with rfl | rfl <;> decide
theorem tne_5_61 {r : Nat} (t : tw r) : (r + 5) ≠ 61 := by
  rcases t with rfl | rfl <;> decide
theorem tne_7_61 {r : Nat} (t : tw r) : (r + 7) ≠ 61 := by
  rcases t with rfl | rfl <;> decide
theorem tne_0_1 {r : Nat} (t : tw r) : r ≠ 1 := by
  rcases t with rfl | rfl <;> decide
theorem tne_9_1 {r : Nat} (t : tw r) : (r + 9) ≠ 1 := by
  rcases t with rfl | rfl <;> decide
theorem rw_T8 {r : Nat} (t : tw r) : rgw (r + 8) 40 2147483648 2147483653 7 := by
  rcases t with rfl | rfl <;> (unfold rgw j_nt; decide +kernel)
theorem tof_0_7 {r : Nat} : r ≠ (r + 7) := by omega
theorem tne_8_2 {r : Nat} (t : tw r) : (r + 8) ≠ 2 := by
  rcases t with rfl | rfl <;> decide
theorem tne_8_1 {r : Nat} (t : tw r) : (r + 8) ≠ 1 := by
  rcases t with rfl | rfl <;> decide
theorem tne_8_61 {r : Nat} (t : tw r) : (r + 8) ≠ 61 := by
  rcases t with rfl | rfl <;> decide
theorem tof_7_8 {r : Nat} : (r + 7) ≠ (r + 8) := by omega
theorem tof_0_8 {r : Nat} : r ≠ (r + 8) := by omega
theorem tof_1_8 {r : Nat} : (r + 1) ≠ (r + 8) := by omega
theorem tof_3_8 {r : Nat} : (r + 3) ≠ (r + 8) := by omega
theorem tof_5_8 {r : Nat} : (r + 5) ≠ (r + 8) := by omega
theorem tof_0_5 {r : Nat} : r ≠ (r + 5) := by omega
theorem tof_7_5 {r : Nat} : (r + 7) ≠ (r + 5) := by omega
theorem rw_T4 {r : Nat} (t : tw r) : rgw (r + 4) 40 2147483648 2147483653 7 := by
  rcases t with rfl | rfl <;> (unfold rgw j_nt; decide +kernel)
theorem tof_0_3 {r : Nat} : r ≠ (r + 3) := by omega
theorem tof_5_3 {r : Nat} : (r + 5) ≠ (r + 3) := by omega
theorem tof_7_3 {r : Nat} : (r + 7) ≠ (r + 3) := by omega
theorem tne_4_61 {r : Nat} (t : tw r) : (r + 4) ≠ 61 := by
  rcases t with rfl | rfl <;> decide
theorem tof_0_4 {r : Nat} : r ≠ (r + 4) := by omega
theorem tne_4_2 {r : Nat} (t : tw r) : (r + 4) ≠ 2 := by
  rcases t with rfl | rfl <;> decide
theorem tne_4_1 {r : Nat} (t : tw r) : (r + 4) ≠ 1 := by
  rcases t with rfl | rfl <;> decide
theorem tof_3_4 {r : Nat} : (r + 3) ≠ (r + 4) := by omega
theorem tof_1_4 {r : Nat} : (r + 1) ≠ (r + 4) := by omega
theorem tof_5_4 {r : Nat} : (r + 5) ≠ (r + 4) := by omega
theorem tof_7_4 {r : Nat} : (r + 7) ≠ (r + 4) := by omega
theorem rw_T2 {r : Nat} (t : tw r) : rgw (r + 2) 140 2147483648 2147483653 7 := by
  rcases t with rfl | rfl <;> (unfold rgw j_nt; decide +kernel)
theorem tof_0_1 {r : Nat} : r ≠ (r + 1) := by omega
theorem tof_3_1 {r : Nat} : (r + 3) ≠ (r + 1) := by omega
theorem tof_5_1 {r : Nat} : (r + 5) ≠ (r + 1) := by omega
theorem tof_7_1 {r : Nat} : (r + 7) ≠ (r + 1) := by omega
theorem tne_1_1 {r : Nat} (t : tw r) : (r + 1) ≠ 1 := by
  rcases t with rfl | rfl <;> decide
theorem tne_3_1 {r : Nat} (t : tw r) : (r + 3) ≠ 1 := by
  rcases t with rfl | rfl <;> decide
theorem tne_5_1 {r : Nat} (t : tw r) : (r + 5) ≠ 1 := by
  rcases t with rfl | rfl <;> decide
theorem tne_7_1 {r : Nat} (t : tw r) : (r + 7) ≠ 1 := by
  rcases t with rfl | rfl <;> decide
theorem tne_0_97 {r : Nat} (t : tw r) : r ≠ 97 := by
  rcases t with rfl | rfl <;> decide
theorem tne_1_97 {r : Nat} (t : tw r) : (r + 1) ≠ 97 := by
  rcases t with rfl | rfl <;> decide
theorem tne_3_97 {r : Nat} (t : tw r) : (r + 3) ≠ 97 := by
  rcases t with rfl | rfl <;> decide
theorem tne_5_97 {r : Nat} (t : tw r) : (r + 5) ≠ 97 := by
  rcases t with rfl | rfl <;> decide
theorem tne_7_97 {r : Nat} (t : tw r) : (r + 7) ≠ 97 := by
  rcases t with rfl | rfl <;> decide
theorem tne_11_2 {r : Nat} (t : tw r) : (r + 11) ≠ 2 := by
  rcases t with rfl | rfl <;> decide
theorem tne_11_1 {r : Nat} (t : tw r) : (r + 11) ≠ 1 := by
  rcases t with rfl | rfl <;> decide
theorem tne_11_62 {r : Nat} (t : tw r) : (r + 11) ≠ 62 := by
  rcases t with rfl | rfl <;> decide
theorem tof_11_12 {r : Nat} : (r + 11) ≠ (r + 12) := by omega
theorem tne_12_1 {r : Nat} (t : tw r) : (r + 12) ≠ 1 := by
  rcases t with rfl | rfl <;> decide
theorem tne_12_62 {r : Nat} (t : tw r) : (r + 12) ≠ 62 := by
  rcases t with rfl | rfl <;> decide
theorem tne_11_69 {r : Nat} (t : tw r) : (r + 11) ≠ 69 := by
  rcases t with rfl | rfl <;> decide
theorem tne_11_63 {r : Nat} (t : tw r) : (r + 11) ≠ 63 := by
  rcases t with rfl | rfl <;> decide
theorem tne_11_0 {r : Nat} (t : tw r) : (r + 11) ≠ 0 := by
  rcases t with rfl | rfl <;> decide
theorem tne_7_71 {r : Nat} (t : tw r) : (r + 7) ≠ 71 := by
  rcases t with rfl | rfl <;> decide
theorem tne_8_71 {r : Nat} (t : tw r) : (r + 8) ≠ 71 := by
  rcases t with rfl | rfl <;> decide
theorem tne_8_69 {r : Nat} (t : tw r) : (r + 8) ≠ 69 := by
  rcases t with rfl | rfl <;> decide
