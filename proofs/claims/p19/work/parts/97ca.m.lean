/-! ===== tables of regions, methods ===== -/
theorem tne_12_1 {r : Nat} (t : tw r) : (r + 12) ≠ 1 := by
  rcases t with rfl | rfl <;> decide
set_option maxHeartbeats 0 in
/-- LentNames$Tape.append(I)V -/
theorem c72_1nn {sc : Nat × Nat} {d a1 : Nat} {h : xh} (hJ : J h) (ba1 : 0 ≤ a1 ∧ a1 ≤ 4294967295) (hr0 : (h 1 1) + 4 ≤ 2147484048) : X sc 72 d (xV fun h' => J h' ∧ Fr 81 h h' ∧ (h' 1 1 = h 1 1 + 4) ∧ Ap 2 h h' (h 1 1 - 2147483648) 4 (f4 a1)) 0 0 0 [x_r 1, iv_c a1, 147573952589676412928] [] h := by
  have la1 : a1 < 4294967296 := by omega
  have hF := Fr.refl 81 h
  have b1 := jB (e := 1) 0 hJ rg_1_1_0_1 (by omega) (by omega)
  refine x_const (np := 2) (x := 9223372142081474584) (a := 2147483672) (by decide +kernel) (by decide) (by decide) ?_
  refine x_istore (np := 3) (x := 2) (lo' := [x_r 1, iv_c a1, iv_c 2147483672]) (by decide +kernel) (by decide) (Nat.le_of_ble_eq_true rfl) rfl ?_
  refine x_iload (np := 4) (x := 2) (by decide +kernel) rfl (by decide) ?_
  refine x_ifz (k := 2) (tg := 49) (np := 7) (by decide +kernel) (by decide) (by decide) (fun q2 => ?_) (fun q3 => ?_)
  · have q2 : 2147483672 < 2147483648 := q2
    exfalso; omega
  have q3 : ¬ (2147483672 < 2147483648) := q3
  refine x_aload (np := 8) (x := 0) (by decide +kernel) rfl (x_nc_le (by decide)) ?_
  refine x_getC (np := 11) (x := 449) (f := 1) (q := (h 1 1)) (by decide +kernel) (by decide) (by decide +kernel) rfl (fun l4 => ?_)
  refine x_const (np := 14) (x := 9223373756989178256) (a := 2147484048) (by decide +kernel) (by decide) (by decide) ?_
  refine x_icmp (k := 3) (tg := 49) (np := 17) (by decide +kernel) (by decide) l4 (by decide) (fun q5 => ?_) (fun q6 => ?_)
  · have q5 : 2147484048 ≤ (h 1 1) := q5
    exfalso; omega
  have q6 : ¬ (2147484048 ≤ (h 1 1)) := q6
  refine x_aload (np := 18) (x := 0) (by decide +kernel) rfl (x_nc_le (by decide)) ?_
  have q7 : h 1 0 = 2 := by have z := jB (e := 0) 0 hJ rg_1_0_0_1 (by decide) (by decide); omega
  refine x_getR (np := 21) (x := 448) (f := 0) (q := 2) (by decide +kernel) (by decide) (by decide +kernel) q7 ?_
  refine x_aload (np := 22) (x := 0) (by decide +kernel) rfl (x_nc_le (by decide)) ?_
  refine x_getC (np := 25) (x := 449) (f := 1) (q := (h 1 1)) (by decide +kernel) (by decide) (by decide +kernel) rfl (fun l8 => ?_)
  refine x_iload (np := 26) (x := 1) (by decide +kernel) rfl la1 ?_
  refine x_iload (np := 27) (x := 2) (by decide +kernel) rfl (by decide) ?_
  refine x_shrE (np := 28) (by decide +kernel) la1 (by decide) (fun l9 => ?_)
  refine x_const (np := 31) (x := 9223373134218920191) (a := 2147483903) (by decide +kernel) (by decide) (by decide) ?_
  refine x_b255 (np := 32) (by decide +kernel) l9 (fun l10 l11 => ?_)
  obtain ⟨u12, q13⟩ : ∃ z, (h 1 1) = 2147483648 + z := ⟨(h 1 1) - 2147483648, by omega⟩
  refine x_ast (np := 33) (x := 0) (kd := 1) (n := 400) (i := u12) (by decide +kernel) (Or.inl rfl) (by decide +kernel) (by omega) (by omega) (by decide) (by omega) (fun z => absurd z (by decide)) ?_
  have j15 := jU (e := u12) (v := (b255 (bsh a1 2147483672))) u12 hJ rg_2_0_1_400 (by omega) (by omega) (by omega)
  have f17 := jF (e := u12) (v := (b255 (bsh a1 2147483672))) u12 hF rg_2_0_1_400 (by omega) (by omega) (by decide)
  generalize e16 : x_up h 2 u12 (b255 (bsh a1 2147483672)) = h14 at j15 f17 ⊢
  refine x_aload (np := 34) (x := 0) (by decide +kernel) rfl (x_nc_le (by decide)) ?_
  refine x_dup (np := 35) (x := 0) (by decide +kernel) (by have z := x_nc_le (k := 1) (by decide); unfold x_r; omega) ?_
  have q18 : h14 1 1 = h 1 1 := by rw [← e16]; exact x_up_k (by decide)
  refine x_getC (np := 38) (x := 449) (f := 1) (q := (h 1 1)) (by decide +kernel) (by decide) (by decide +kernel) q18 (fun l19 => ?_)
  refine x_const (np := 39) (x := 9223372043297226753) (a := 2147483649) (by decide +kernel) (by decide) (by decide) ?_
  refine x_iadd (np := 40) (x := 0) (v := (1 + (h 1 1))) (by decide +kernel) l4 (by decide) (by omega) (by omega) ?_
  refine x_putI (np := 43) (x := 449) (f := 1) (by decide +kernel) (by decide +kernel) (by omega) (Or.inl (by decide)) ?_
  have j21 := jU (e := 1) (v := (1 + (h 1 1))) 0 j15 rg_1_1_0_1 (by omega) (by omega) (by omega)
  have f23 := jF (e := 1) (v := (1 + (h 1 1))) 0 f17 rg_1_1_0_1 (by omega) (by omega) (by decide)
  generalize e22 : x_up h14 1 1 (1 + (h 1 1)) = h20 at j21 f23 ⊢
  refine x_iinc (np := 46) (i := 2) (j := 2147483640) (v := 2147483664) (lo' := [x_r 1, iv_c a1, iv_c 2147483664]) (by decide +kernel) (by decide) (by decide) rfl (by decide) (by omega) (by omega) rfl ?_
  refine x_goto (np := 49) (x := 3) (by decide +kernel) ?_
  refine x_iload (np := 4) (x := 2) (by decide +kernel) rfl (by decide) ?_
  refine x_ifz (k := 2) (tg := 49) (np := 7) (by decide +kernel) (by decide) (by decide) (fun q24 => ?_) (fun q25 => ?_)
  · have q24 : 2147483664 < 2147483648 := q24
    exfalso; omega
  have q25 : ¬ (2147483664 < 2147483648) := q25
  refine x_aload (np := 8) (x := 0) (by decide +kernel) rfl (x_nc_le (by decide)) ?_
  have q26 : h20 1 1 = (1 + (h 1 1)) := by rw [← e22]; exact x_up_at
  refine x_getC (np := 11) (x := 449) (f := 1) (q := (1 + (h 1 1))) (by decide +kernel) (by decide) (by decide +kernel) q26 (fun l27 => ?_)
  refine x_const (np := 14) (x := 9223373756989178256) (a := 2147484048) (by decide +kernel) (by decide) (by decide) ?_
  refine x_icmp (k := 3) (tg := 49) (np := 17) (by decide +kernel) (by decide) (by omega) (by decide) (fun q28 => ?_) (fun q29 => ?_)
  · have q28 : 2147484048 ≤ (1 + (h 1 1)) := q28
    exfalso; omega
  have q29 : ¬ (2147484048 ≤ (1 + (h 1 1))) := q29
  refine x_aload (np := 18) (x := 0) (by decide +kernel) rfl (x_nc_le (by decide)) ?_
  have q30 : h20 1 0 = 2 := by have z := jB (e := 0) 0 j21 rg_1_0_0_1 (by decide) (by decide); omega
  refine x_getR (np := 21) (x := 448) (f := 0) (q := 2) (by decide +kernel) (by decide) (by decide +kernel) q30 ?_
  refine x_aload (np := 22) (x := 0) (by decide +kernel) rfl (x_nc_le (by decide)) ?_
  have q31 : h20 1 1 = (1 + (h 1 1)) := by rw [← e22]; exact x_up_at
  refine x_getC (np := 25) (x := 449) (f := 1) (q := (1 + (h 1 1))) (by decide +kernel) (by decide) (by decide +kernel) q31 (fun l32 => ?_)
  refine x_iload (np := 26) (x := 1) (by decide +kernel) rfl la1 ?_
  refine x_iload (np := 27) (x := 2) (by decide +kernel) rfl (by decide) ?_
  refine x_shrE (np := 28) (by decide +kernel) la1 (by decide) (fun l33 => ?_)
  refine x_const (np := 31) (x := 9223373134218920191) (a := 2147483903) (by decide +kernel) (by decide) (by decide) ?_
  refine x_b255 (np := 32) (by decide +kernel) l33 (fun l34 l35 => ?_)
  refine x_ast (np := 33) (x := 0) (kd := 1) (n := 400) (i := (1 + u12)) (by decide +kernel) (Or.inl rfl) (by decide +kernel) (by omega) (by omega) (by decide) (by omega) (fun z => absurd z (by decide)) ?_
  have j37 := jU (e := (1 + u12)) (v := (b255 (bsh a1 2147483664))) (1 + u12) j21 rg_2_0_1_400 (by omega) (by omega) (by omega)
  have f39 := jF (e := (1 + u12)) (v := (b255 (bsh a1 2147483664))) (1 + u12) f23 rg_2_0_1_400 (by omega) (by omega) (by decide)
  generalize e38 : x_up h20 2 (1 + u12) (b255 (bsh a1 2147483664)) = h36 at j37 f39 ⊢
  refine x_aload (np := 34) (x := 0) (by decide +kernel) rfl (x_nc_le (by decide)) ?_
  refine x_dup (np := 35) (x := 0) (by decide +kernel) (by have z := x_nc_le (k := 1) (by decide); unfold x_r; omega) ?_
  have q40 : h36 1 1 = h20 1 1 := by rw [← e38]; exact x_up_k (by decide)
  have q41 : h20 1 1 = (1 + (h 1 1)) := by rw [← e22]; exact x_up_at
  refine x_getC (np := 38) (x := 449) (f := 1) (q := (1 + (h 1 1))) (by decide +kernel) (by decide) (by decide +kernel) (q40.trans q41) (fun l42 => ?_)
  refine x_const (np := 39) (x := 9223372043297226753) (a := 2147483649) (by decide +kernel) (by decide) (by decide) ?_
  refine x_iadd (np := 40) (x := 0) (v := (2 + (h 1 1))) (by decide +kernel) (by omega) (by decide) (by omega) (by omega) ?_
  refine x_putI (np := 43) (x := 449) (f := 1) (by decide +kernel) (by decide +kernel) (by omega) (Or.inl (by decide)) ?_
  have j44 := jU (e := 1) (v := (2 + (h 1 1))) 0 j37 rg_1_1_0_1 (by omega) (by omega) (by omega)
  have f46 := jF (e := 1) (v := (2 + (h 1 1))) 0 f39 rg_1_1_0_1 (by omega) (by omega) (by decide)
  generalize e45 : x_up h36 1 1 (2 + (h 1 1)) = h43 at j44 f46 ⊢
  refine x_iinc (np := 46) (i := 2) (j := 2147483640) (v := 2147483656) (lo' := [x_r 1, iv_c a1, iv_c 2147483656]) (by decide +kernel) (by decide) (by decide) rfl (by decide) (by omega) (by omega) rfl ?_
  refine x_goto (np := 49) (x := 3) (by decide +kernel) ?_
  refine x_iload (np := 4) (x := 2) (by decide +kernel) rfl (by decide) ?_
  refine x_ifz (k := 2) (tg := 49) (np := 7) (by decide +kernel) (by decide) (by decide) (fun q47 => ?_) (fun q48 => ?_)
  · have q47 : 2147483656 < 2147483648 := q47
    exfalso; omega
  have q48 : ¬ (2147483656 < 2147483648) := q48
  refine x_aload (np := 8) (x := 0) (by decide +kernel) rfl (x_nc_le (by decide)) ?_
  have q49 : h43 1 1 = (2 + (h 1 1)) := by rw [← e45]; exact x_up_at
  refine x_getC (np := 11) (x := 449) (f := 1) (q := (2 + (h 1 1))) (by decide +kernel) (by decide) (by decide +kernel) q49 (fun l50 => ?_)
  refine x_const (np := 14) (x := 9223373756989178256) (a := 2147484048) (by decide +kernel) (by decide) (by decide) ?_
  refine x_icmp (k := 3) (tg := 49) (np := 17) (by decide +kernel) (by decide) (by omega) (by decide) (fun q51 => ?_) (fun q52 => ?_)
  · have q51 : 2147484048 ≤ (2 + (h 1 1)) := q51
    exfalso; omega
  have q52 : ¬ (2147484048 ≤ (2 + (h 1 1))) := q52
  refine x_aload (np := 18) (x := 0) (by decide +kernel) rfl (x_nc_le (by decide)) ?_
  have q53 : h43 1 0 = 2 := by have z := jB (e := 0) 0 j44 rg_1_0_0_1 (by decide) (by decide); omega
  refine x_getR (np := 21) (x := 448) (f := 0) (q := 2) (by decide +kernel) (by decide) (by decide +kernel) q53 ?_
  refine x_aload (np := 22) (x := 0) (by decide +kernel) rfl (x_nc_le (by decide)) ?_
  have q54 : h43 1 1 = (2 + (h 1 1)) := by rw [← e45]; exact x_up_at
  refine x_getC (np := 25) (x := 449) (f := 1) (q := (2 + (h 1 1))) (by decide +kernel) (by decide) (by decide +kernel) q54 (fun l55 => ?_)
  refine x_iload (np := 26) (x := 1) (by decide +kernel) rfl la1 ?_
  refine x_iload (np := 27) (x := 2) (by decide +kernel) rfl (by decide) ?_
  refine x_shrE (np := 28) (by decide +kernel) la1 (by decide) (fun l56 => ?_)
  refine x_const (np := 31) (x := 9223373134218920191) (a := 2147483903) (by decide +kernel) (by decide) (by decide) ?_
  refine x_b255 (np := 32) (by decide +kernel) l56 (fun l57 l58 => ?_)
  refine x_ast (np := 33) (x := 0) (kd := 1) (n := 400) (i := (2 + u12)) (by decide +kernel) (Or.inl rfl) (by decide +kernel) (by omega) (by omega) (by decide) (by omega) (fun z => absurd z (by decide)) ?_
  have j60 := jU (e := (2 + u12)) (v := (b255 (bsh a1 2147483656))) (2 + u12) j44 rg_2_0_1_400 (by omega) (by omega) (by omega)
  have f62 := jF (e := (2 + u12)) (v := (b255 (bsh a1 2147483656))) (2 + u12) f46 rg_2_0_1_400 (by omega) (by omega) (by decide)
  generalize e61 : x_up h43 2 (2 + u12) (b255 (bsh a1 2147483656)) = h59 at j60 f62 ⊢
  refine x_aload (np := 34) (x := 0) (by decide +kernel) rfl (x_nc_le (by decide)) ?_
  refine x_dup (np := 35) (x := 0) (by decide +kernel) (by have z := x_nc_le (k := 1) (by decide); unfold x_r; omega) ?_
  have q63 : h59 1 1 = h43 1 1 := by rw [← e61]; exact x_up_k (by decide)
  have q64 : h43 1 1 = (2 + (h 1 1)) := by rw [← e45]; exact x_up_at
  refine x_getC (np := 38) (x := 449) (f := 1) (q := (2 + (h 1 1))) (by decide +kernel) (by decide) (by decide +kernel) (q63.trans q64) (fun l65 => ?_)
  refine x_const (np := 39) (x := 9223372043297226753) (a := 2147483649) (by decide +kernel) (by decide) (by decide) ?_
  refine x_iadd (np := 40) (x := 0) (v := (3 + (h 1 1))) (by decide +kernel) (by omega) (by decide) (by omega) (by omega) ?_
  refine x_putI (np := 43) (x := 449) (f := 1) (by decide +kernel) (by decide +kernel) (by omega) (Or.inl (by decide)) ?_
  have j67 := jU (e := 1) (v := (3 + (h 1 1))) 0 j60 rg_1_1_0_1 (by omega) (by omega) (by omega)
  have f69 := jF (e := 1) (v := (3 + (h 1 1))) 0 f62 rg_1_1_0_1 (by omega) (by omega) (by decide)
  generalize e68 : x_up h59 1 1 (3 + (h 1 1)) = h66 at j67 f69 ⊢
  refine x_iinc (np := 46) (i := 2) (j := 2147483640) (v := 2147483648) (lo' := [x_r 1, iv_c a1, iv_c 2147483648]) (by decide +kernel) (by decide) (by decide) rfl (by decide) (by omega) (by omega) rfl ?_
  refine x_goto (np := 49) (x := 3) (by decide +kernel) ?_
  refine x_iload (np := 4) (x := 2) (by decide +kernel) rfl (by decide) ?_
  refine x_ifz (k := 2) (tg := 49) (np := 7) (by decide +kernel) (by decide) (by decide) (fun q70 => ?_) (fun q71 => ?_)
  · have q70 : 2147483648 < 2147483648 := q70
    exfalso; omega
  have q71 : ¬ (2147483648 < 2147483648) := q71
  refine x_aload (np := 8) (x := 0) (by decide +kernel) rfl (x_nc_le (by decide)) ?_
  have q72 : h66 1 1 = (3 + (h 1 1)) := by rw [← e68]; exact x_up_at
  refine x_getC (np := 11) (x := 449) (f := 1) (q := (3 + (h 1 1))) (by decide +kernel) (by decide) (by decide +kernel) q72 (fun l73 => ?_)
  refine x_const (np := 14) (x := 9223373756989178256) (a := 2147484048) (by decide +kernel) (by decide) (by decide) ?_
  refine x_icmp (k := 3) (tg := 49) (np := 17) (by decide +kernel) (by decide) (by omega) (by decide) (fun q74 => ?_) (fun q75 => ?_)
  · have q74 : 2147484048 ≤ (3 + (h 1 1)) := q74
    exfalso; omega
  have q75 : ¬ (2147484048 ≤ (3 + (h 1 1))) := q75
  refine x_aload (np := 18) (x := 0) (by decide +kernel) rfl (x_nc_le (by decide)) ?_
  have q76 : h66 1 0 = 2 := by have z := jB (e := 0) 0 j67 rg_1_0_0_1 (by decide) (by decide); omega
  refine x_getR (np := 21) (x := 448) (f := 0) (q := 2) (by decide +kernel) (by decide) (by decide +kernel) q76 ?_
  refine x_aload (np := 22) (x := 0) (by decide +kernel) rfl (x_nc_le (by decide)) ?_
  have q77 : h66 1 1 = (3 + (h 1 1)) := by rw [← e68]; exact x_up_at
  refine x_getC (np := 25) (x := 449) (f := 1) (q := (3 + (h 1 1))) (by decide +kernel) (by decide) (by decide +kernel) q77 (fun l78 => ?_)
  refine x_iload (np := 26) (x := 1) (by decide +kernel) rfl la1 ?_
  refine x_iload (np := 27) (x := 2) (by decide +kernel) rfl (by decide) ?_
  refine x_shrE (np := 28) (by decide +kernel) la1 (by decide) (fun l79 => ?_)
  refine x_const (np := 31) (x := 9223373134218920191) (a := 2147483903) (by decide +kernel) (by decide) (by decide) ?_
  refine x_b255 (np := 32) (by decide +kernel) l79 (fun l80 l81 => ?_)
  refine x_ast (np := 33) (x := 0) (kd := 1) (n := 400) (i := (3 + u12)) (by decide +kernel) (Or.inl rfl) (by decide +kernel) (by omega) (by omega) (by decide) (by omega) (fun z => absurd z (by decide)) ?_
  have j83 := jU (e := (3 + u12)) (v := (b255 (bsh a1 2147483648))) (3 + u12) j67 rg_2_0_1_400 (by omega) (by omega) (by omega)
  have f85 := jF (e := (3 + u12)) (v := (b255 (bsh a1 2147483648))) (3 + u12) f69 rg_2_0_1_400 (by omega) (by omega) (by decide)
  generalize e84 : x_up h66 2 (3 + u12) (b255 (bsh a1 2147483648)) = h82 at j83 f85 ⊢
  refine x_aload (np := 34) (x := 0) (by decide +kernel) rfl (x_nc_le (by decide)) ?_
  refine x_dup (np := 35) (x := 0) (by decide +kernel) (by have z := x_nc_le (k := 1) (by decide); unfold x_r; omega) ?_
  have q86 : h82 1 1 = h66 1 1 := by rw [← e84]; exact x_up_k (by decide)
  have q87 : h66 1 1 = (3 + (h 1 1)) := by rw [← e68]; exact x_up_at
  refine x_getC (np := 38) (x := 449) (f := 1) (q := (3 + (h 1 1))) (by decide +kernel) (by decide) (by decide +kernel) (q86.trans q87) (fun l88 => ?_)
  refine x_const (np := 39) (x := 9223372043297226753) (a := 2147483649) (by decide +kernel) (by decide) (by decide) ?_
  refine x_iadd (np := 40) (x := 0) (v := (4 + (h 1 1))) (by decide +kernel) (by omega) (by decide) (by omega) (by omega) ?_
  refine x_putI (np := 43) (x := 449) (f := 1) (by decide +kernel) (by decide +kernel) (by omega) (Or.inl (by decide)) ?_
  have j90 := jU (e := 1) (v := (4 + (h 1 1))) 0 j83 rg_1_1_0_1 (by omega) (by omega) (by omega)
  have f92 := jF (e := 1) (v := (4 + (h 1 1))) 0 f85 rg_1_1_0_1 (by omega) (by omega) (by decide)
  generalize e91 : x_up h82 1 1 (4 + (h 1 1)) = h89 at j90 f92 ⊢
  refine x_iinc (np := 46) (i := 2) (j := 2147483640) (v := 2147483640) (lo' := [x_r 1, iv_c a1, iv_c 2147483640]) (by decide +kernel) (by decide) (by decide) rfl (by decide) (by omega) (by omega) rfl ?_
  refine x_goto (np := 49) (x := 3) (by decide +kernel) ?_
  refine x_iload (np := 4) (x := 2) (by decide +kernel) rfl (by decide) ?_
  refine x_ifz (k := 2) (tg := 49) (np := 7) (by decide +kernel) (by decide) (by decide) (fun q93 => ?_) (fun q94 => ?_)
  · have q93 : 2147483640 < 2147483648 := q93
    have q95 : h89 1 1 = (4 + (h 1 1)) := by rw [← e91]; exact x_up_at
    have m96 : Ap 2 h h14 u12 1 (f4 a1) := by rw [← e16]; exact Ap.put (Ap.zero (c := 2) (s := u12) (f := (f4 a1))) (by omega) rfl
    have m97 : Ap 2 h h20 u12 1 (f4 a1) := by rw [← e22]; exact Ap.oth m96 (by decide)
    have m98 : Ap 2 h h36 u12 2 (f4 a1) := by rw [← e38]; exact Ap.put m97 (by omega) rfl
    have m99 : Ap 2 h h43 u12 2 (f4 a1) := by rw [← e45]; exact Ap.oth m98 (by decide)
    have m100 : Ap 2 h h59 u12 3 (f4 a1) := by rw [← e61]; exact Ap.put m99 (by omega) rfl
    have m101 : Ap 2 h h66 u12 3 (f4 a1) := by rw [← e68]; exact Ap.oth m100 (by decide)
    have m102 : Ap 2 h h82 u12 4 (f4 a1) := by rw [← e84]; exact Ap.put m101 (by omega) rfl
    have m103 : Ap 2 h h89 u12 4 (f4 a1) := by rw [← e91]; exact Ap.oth m102 (by decide)
    refine x_retV (np := 50) (x := 0) (by decide +kernel) (by decide +kernel) ⟨rfl, ?_⟩
    exact ⟨j90, f92, (by omega), (Ap.cast m103 (by omega))⟩
  have q94 : ¬ (2147483640 < 2147483648) := q94
  exfalso; omega
set_option maxHeartbeats 0 in
/-- LentNames.feed(IIIII)I -/
theorem c104_0nn {sc : Nat × Nat} {d a1 a2 a3 a4 a5 : Nat} {h : xh} (hJ : J h) (ba1 : 0 ≤ a1 ∧ a1 ≤ 4294967295) (ba2 : 0 ≤ a2 ∧ a2 ≤ 4294967295) (ba3 : 0 ≤ a3 ∧ a3 ≤ 4294967295) (ba4 : 0 ≤ a4 ∧ a4 ≤ 4294967295) (ba5 : 0 ≤ a5 ∧ a5 ≤ 4294967295) : X sc 104 (d + 1) (xI fun r h' => J h' ∧ Fr 81 h h' ∧ (2147483647 ≤ r ∧ r ≤ 2147484048) ∧ (h 1 1 + 20 ≤ 2147484048 → h' 1 1 = h 1 1 + 20 ∧ r = h 1 1 + 20) ∧ (2147484048 < h 1 1 + 20 → h' 1 1 = h 1 1 ∧ r = 2147483647) ∧ (h 1 1 + 20 ≤ 2147484048 → Ap 2 h h' (h 1 1 - 2147483648) 20 (f20 a1 a2 a3 a4 a5)) ∧ (2147484048 < h 1 1 + 20 → ∀ u, h' 2 u = h 2 u)) 0 0 0 [x_r 0, iv_c a1, iv_c a2, iv_c a3, iv_c a4, iv_c a5] [] h := by
  have la1 : a1 < 4294967296 := by omega
  have la2 : a2 < 4294967296 := by omega
  have la3 : a3 < 4294967296 := by omega
  have la4 : a4 < 4294967296 := by omega
  have la5 : a5 < 4294967296 := by omega
  have hF := Fr.refl 81 h
  refine x_aload (np := 1) (x := 0) (by decide +kernel) rfl (x_nc_le (by decide)) ?_
  have q1 : h 0 0 = 1 := by have z := jB (e := 0) 0 hJ rg_0_0_0_1 (by decide) (by decide); omega
  refine x_getR (np := 4) (x := 640) (f := 0) (q := 1) (by decide +kernel) (by decide) (by decide +kernel) q1 ?_
  have b2 := jB (e := 1) 0 hJ rg_1_1_0_1 (by omega) (by omega)
  refine x_getC (np := 7) (x := 449) (f := 1) (q := (h 1 1)) (by decide +kernel) (by decide) (by decide +kernel) rfl (fun l3 => ?_)
  refine x_const (np := 9) (x := 9223372124901605396) (a := 2147483668) (by decide +kernel) (by decide) (by decide) ?_
  refine x_iadd (np := 10) (x := 0) (v := (20 + (h 1 1))) (by decide +kernel) l3 (by decide) (by omega) (by omega) ?_
  refine x_const (np := 13) (x := 9223373756989178256) (a := 2147484048) (by decide +kernel) (by decide) (by decide) ?_
  refine x_icmp (k := 5) (tg := 18) (np := 16) (by decide +kernel) (by decide) (by omega) (by decide) (fun q4 => ?_) (fun q5 => ?_)
  · have q4 : (20 + (h 1 1)) ≤ 2147484048 := q4
    refine x_aload (np := 19) (x := 0) (by decide +kernel) rfl (x_nc_le (by decide)) ?_
    have q6 : h 0 0 = 1 := by have z := jB (e := 0) 0 hJ rg_0_0_0_1 (by decide) (by decide); omega
    refine x_getR (np := 22) (x := 640) (f := 0) (q := 1) (by decide +kernel) (by decide) (by decide +kernel) q6 ?_
    refine x_iload (np := 23) (x := 1) (by decide +kernel) rfl la1 ?_
    refine x_cV (t := 6) (mj := 72) (n := 2) (rc := 8) (ml := 3) (nr := 0) (np := 26) (as := [x_r 1, iv_c a1]) (rest := []) (lo1 := [x_r 1, iv_c a1, 147573952589676412928]) (by decide +kernel) (by decide) (by decide +kernel) (x_rb_of (by decide +kernel)) rfl rfl (x_wr (by decide) (x_wi la1 x_wn)) x_wn (by decide) rfl (c72_1nn hJ  (by omega) (by omega)) (fun h10 q9 => ?_)
    obtain ⟨j11, f12, c15, c16⟩ := q9
    have f17 := Fr.trans hF f12 (by decide)
    have b18 := jB (e := 1) 0 j11 rg_1_1_0_1 (by omega) (by omega)
    refine x_aload (np := 27) (x := 0) (by decide +kernel) rfl (x_nc_le (by decide)) ?_
    have q19 : h10 0 0 = 1 := by have z := jB (e := 0) 0 j11 rg_0_0_0_1 (by decide) (by decide); omega
    refine x_getR (np := 30) (x := 640) (f := 0) (q := 1) (by decide +kernel) (by decide) (by decide +kernel) q19 ?_
    refine x_iload (np := 31) (x := 2) (by decide +kernel) rfl la2 ?_
    refine x_cV (t := 6) (mj := 72) (n := 2) (rc := 8) (ml := 3) (nr := 0) (np := 34) (as := [x_r 1, iv_c a2]) (rest := []) (lo1 := [x_r 1, iv_c a2, 147573952589676412928]) (by decide +kernel) (by decide) (by decide +kernel) (x_rb_of (by decide +kernel)) rfl rfl (x_wr (by decide) (x_wi la2 x_wn)) x_wn (by decide) rfl (c72_1nn j11  (by omega) (by omega)) (fun h23 q22 => ?_)
    obtain ⟨j24, f25, c28, c29⟩ := q22
    have f30 := Fr.trans f17 f25 (by decide)
    have b31 := jB (e := 1) 0 j24 rg_1_1_0_1 (by omega) (by omega)
    refine x_aload (np := 35) (x := 0) (by decide +kernel) rfl (x_nc_le (by decide)) ?_
    have q32 : h23 0 0 = 1 := by have z := jB (e := 0) 0 j24 rg_0_0_0_1 (by decide) (by decide); omega
    refine x_getR (np := 38) (x := 640) (f := 0) (q := 1) (by decide +kernel) (by decide) (by decide +kernel) q32 ?_
    refine x_iload (np := 39) (x := 3) (by decide +kernel) rfl la3 ?_
    refine x_cV (t := 6) (mj := 72) (n := 2) (rc := 8) (ml := 3) (nr := 0) (np := 42) (as := [x_r 1, iv_c a3]) (rest := []) (lo1 := [x_r 1, iv_c a3, 147573952589676412928]) (by decide +kernel) (by decide) (by decide +kernel) (x_rb_of (by decide +kernel)) rfl rfl (x_wr (by decide) (x_wi la3 x_wn)) x_wn (by decide) rfl (c72_1nn j24  (by omega) (by omega)) (fun h36 q35 => ?_)
    obtain ⟨j37, f38, c41, c42⟩ := q35
    have f43 := Fr.trans f30 f38 (by decide)
    have b44 := jB (e := 1) 0 j37 rg_1_1_0_1 (by omega) (by omega)
    refine x_aload (np := 43) (x := 0) (by decide +kernel) rfl (x_nc_le (by decide)) ?_
    have q45 : h36 0 0 = 1 := by have z := jB (e := 0) 0 j37 rg_0_0_0_1 (by decide) (by decide); omega
    refine x_getR (np := 46) (x := 640) (f := 0) (q := 1) (by decide +kernel) (by decide) (by decide +kernel) q45 ?_
    refine x_iload (np := 48) (x := 4) (by decide +kernel) rfl la4 ?_
    refine x_cV (t := 6) (mj := 72) (n := 2) (rc := 8) (ml := 3) (nr := 0) (np := 51) (as := [x_r 1, iv_c a4]) (rest := []) (lo1 := [x_r 1, iv_c a4, 147573952589676412928]) (by decide +kernel) (by decide) (by decide +kernel) (x_rb_of (by decide +kernel)) rfl rfl (x_wr (by decide) (x_wi la4 x_wn)) x_wn (by decide) rfl (c72_1nn j37  (by omega) (by omega)) (fun h49 q48 => ?_)
    obtain ⟨j50, f51, c54, c55⟩ := q48
    have f56 := Fr.trans f43 f51 (by decide)
    have b57 := jB (e := 1) 0 j50 rg_1_1_0_1 (by omega) (by omega)
    refine x_aload (np := 52) (x := 0) (by decide +kernel) rfl (x_nc_le (by decide)) ?_
    have q58 : h49 0 0 = 1 := by have z := jB (e := 0) 0 j50 rg_0_0_0_1 (by decide) (by decide); omega
    refine x_getR (np := 55) (x := 640) (f := 0) (q := 1) (by decide +kernel) (by decide) (by decide +kernel) q58 ?_
    refine x_iload (np := 57) (x := 5) (by decide +kernel) rfl la5 ?_
    refine x_cV (t := 6) (mj := 72) (n := 2) (rc := 8) (ml := 3) (nr := 0) (np := 60) (as := [x_r 1, iv_c a5]) (rest := []) (lo1 := [x_r 1, iv_c a5, 147573952589676412928]) (by decide +kernel) (by decide) (by decide +kernel) (x_rb_of (by decide +kernel)) rfl rfl (x_wr (by decide) (x_wi la5 x_wn)) x_wn (by decide) rfl (c72_1nn j50  (by omega) (by omega)) (fun h62 q61 => ?_)
    obtain ⟨j63, f64, c67, c68⟩ := q61
    have f69 := Fr.trans f56 f64 (by decide)
    have b70 := jB (e := 1) 0 j63 rg_1_1_0_1 (by omega) (by omega)
    refine x_aload (np := 61) (x := 0) (by decide +kernel) rfl (x_nc_le (by decide)) ?_
    have q71 : h62 0 0 = 1 := by have z := jB (e := 0) 0 j63 rg_0_0_0_1 (by decide) (by decide); omega
    refine x_getR (np := 64) (x := 640) (f := 0) (q := 1) (by decide +kernel) (by decide) (by decide +kernel) q71 ?_
    refine x_getC (np := 67) (x := 449) (f := 1) (q := (h62 1 1)) (by decide +kernel) (by decide) (by decide +kernel) rfl (fun l72 => ?_)
    obtain ⟨u73, q74⟩ : ∃ z, (h 1 1) = 2147483648 + z := ⟨(h 1 1) - 2147483648, by omega⟩
    have m75 : Ap 2 h h10 u73 4 (f20 a1 a2 a3 a4 a5) := Ap.app (Ap.zero (c := 2) (s := u73) (f := (f20 a1 a2 a3 a4 a5))) c16 (by omega) (f20_q 0 (by decide))
    have m76 : Ap 2 h h23 u73 8 (f20 a1 a2 a3 a4 a5) := Ap.app m75 c29 (by omega) (f20_q 1 (by decide))
    have m77 : Ap 2 h h36 u73 12 (f20 a1 a2 a3 a4 a5) := Ap.app m76 c42 (by omega) (f20_q 2 (by decide))
    have m78 : Ap 2 h h49 u73 16 (f20 a1 a2 a3 a4 a5) := Ap.app m77 c55 (by omega) (f20_q 3 (by decide))
    have m79 : Ap 2 h h62 u73 20 (f20 a1 a2 a3 a4 a5) := Ap.app m78 c68 (by omega) (f20_q 4 (by decide))
    refine x_retI (np := 68) (x := 0) (by decide +kernel) l72 (Or.inl (by decide +kernel)) ⟨_, rfl, l72, ?_⟩
    exact ⟨j63, f69, (by omega), (fun z => by omega), (fun z => by omega), (fun _ => Ap.cast m79 (by omega)), (fun z => absurd z (by omega))⟩
  have q5 : ¬ ((20 + (h 1 1)) ≤ 2147484048) := q5
  refine x_const (np := 17) (x := 9223372034707292159) (a := 2147483647) (by decide +kernel) (by decide) (by decide) ?_
  refine x_retI (np := 18) (x := 0) (by decide +kernel) (by decide) (Or.inl (by decide +kernel)) ⟨_, rfl, (by decide), ?_⟩
  exact ⟨hJ, hF, (by omega), (fun z => by omega), (fun z => by omega), (fun z => absurd z (by omega)), (fun _ u => rfl)⟩
set_option maxHeartbeats 0 in
/-- LentNamesModel.feed(IIIII)I -/
theorem c165_75n {sc : Nat × Nat} {d a1 a2 a3 a4 a5 : Nat} {h : xh} (hJ : J h) (ba1 : 0 ≤ a1 ∧ a1 ≤ 4294967295) (ba2 : 0 ≤ a2 ∧ a2 ≤ 4294967295) (ba3 : 0 ≤ a3 ∧ a3 ≤ 4294967295) (ba4 : 0 ≤ a4 ∧ a4 ≤ 4294967295) (ba5 : 0 ≤ a5 ∧ a5 ≤ 4294967295) : X sc 165 d (xI fun r h' => J h' ∧ Fr 1611268096 h h' ∧ (2147483647 ≤ r ∧ r ≤ 2147484048) ∧ (h 75 6 + 20 ≤ 2147484048 → h' 75 6 = h 75 6 + 20 ∧ r = h 75 6 + 20) ∧ (2147484048 < h 75 6 + 20 → h' 75 6 = h 75 6 ∧ r = 2147483647) ∧ (h 75 6 + 20 ≤ 2147484048 → Ap 79 h h' (h 75 6 - 2147483648) 20 (g20 a1 a2 a3 a4 a5)) ∧ (2147484048 < h 75 6 + 20 → ∀ u, h' 79 u = h 79 u)) 0 0 0 [x_r 75, iv_c a1, iv_c a2, iv_c a3, iv_c a4, iv_c a5, 147573952589676412928] [] h := by
  have la1 : a1 < 4294967296 := by omega
  have la2 : a2 < 4294967296 := by omega
  have la3 : a3 < 4294967296 := by omega
  have la4 : a4 < 4294967296 := by omega
  have la5 : a5 < 4294967296 := by omega
  have hF := Fr.refl 1611268096 h
  refine x_aload (np := 1) (x := 0) (by decide +kernel) rfl (x_nc_le (by decide)) ?_
  refine x_const (np := 2) (x := 9223372039002259456) (a := 2147483648) (by decide +kernel) (by decide) (by decide) ?_
  refine x_putI (np := 5) (x := 704) (f := 0) (by decide +kernel) (by decide +kernel) (by decide) (Or.inl (by decide)) ?_
  have j2 := jU (e := 0) (v := 2147483648) 0 hJ rg_75_0_0_1 (by omega) (by omega) (by omega)
  have f4 := jF (e := 0) (v := 2147483648) 0 hF rg_75_0_0_1 (by omega) (by omega) (by decide)
  generalize e3 : x_up h 75 0 2147483648 = h1 at j2 f4 ⊢
  refine x_aload (np := 6) (x := 0) (by decide +kernel) rfl (x_nc_le (by decide)) ?_
  have q5 : h1 75 6 = h 75 6 := by rw [← e3]; exact x_up_i (by omega)
  have b6 := jB (e := 6) 0 hJ rg_75_6_0_1 (by omega) (by omega)
  refine x_getC (np := 9) (x := 710) (f := 6) (q := (h 75 6)) (by decide +kernel) (by decide) (by decide +kernel) q5 (fun l7 => ?_)
  refine x_const (np := 11) (x := 9223372124901605396) (a := 2147483668) (by decide +kernel) (by decide) (by decide) ?_
  refine x_iadd (np := 12) (x := 0) (v := (20 + (h 75 6))) (by decide +kernel) l7 (by decide) (by omega) (by omega) ?_
  refine x_const (np := 15) (x := 9223373756989178256) (a := 2147484048) (by decide +kernel) (by decide) (by decide) ?_
  refine x_icmp (k := 5) (tg := 20) (np := 18) (by decide +kernel) (by decide) (by omega) (by decide) (fun q8 => ?_) (fun q9 => ?_)
  · have q8 : (20 + (h 75 6)) ≤ 2147484048 := q8
    refine x_aload (np := 21) (x := 0) (by decide +kernel) rfl (x_nc_le (by decide)) ?_
    have q10 : h1 75 12 = 80 := by have z := jB (e := 12) 0 j2 rg_75_12_0_1 (by decide) (by decide); omega
    refine x_getR (np := 24) (x := 716) (f := 12) (q := 80) (by decide +kernel) (by decide) (by decide +kernel) q10 ?_
    refine x_const (np := 25) (x := 9223372039002259456) (a := 2147483648) (by decide +kernel) (by decide) (by decide) ?_
    refine x_iload (np := 26) (x := 1) (by decide +kernel) rfl la1 ?_
    refine x_ast (np := 27) (x := 0) (kd := 1) (n := 5) (i := 0) (by decide +kernel) (Or.inl rfl) (by decide +kernel) (by omega) (by omega) (by decide) la1 (fun z => absurd z (by decide)) ?_
    have j12 := jU (e := 0) (v := a1) 0 j2 rg_80_0_1_5 (by omega) (by omega) (by omega)
    have f14 := jF (e := 0) (v := a1) 0 f4 rg_80_0_1_5 (by omega) (by omega) (by decide)
    generalize e13 : x_up h1 80 0 a1 = h11 at j12 f14 ⊢
    refine x_aload (np := 28) (x := 0) (by decide +kernel) rfl (x_nc_le (by decide)) ?_
    have q15 : h11 75 12 = 80 := by have z := jB (e := 12) 0 j12 rg_75_12_0_1 (by decide) (by decide); omega
    refine x_getR (np := 31) (x := 716) (f := 12) (q := 80) (by decide +kernel) (by decide) (by decide +kernel) q15 ?_
    refine x_const (np := 32) (x := 9223372043297226753) (a := 2147483649) (by decide +kernel) (by decide) (by decide) ?_
    refine x_iload (np := 33) (x := 2) (by decide +kernel) rfl la2 ?_
    refine x_ast (np := 34) (x := 0) (kd := 1) (n := 5) (i := 1) (by decide +kernel) (Or.inl rfl) (by decide +kernel) (by omega) (by omega) (by decide) la2 (fun z => absurd z (by decide)) ?_
    have j17 := jU (e := 1) (v := a2) 1 j12 rg_80_0_1_5 (by omega) (by omega) (by omega)
    have f19 := jF (e := 1) (v := a2) 1 f14 rg_80_0_1_5 (by omega) (by omega) (by decide)
    generalize e18 : x_up h11 80 1 a2 = h16 at j17 f19 ⊢
    refine x_aload (np := 35) (x := 0) (by decide +kernel) rfl (x_nc_le (by decide)) ?_
    have q20 : h16 75 12 = 80 := by have z := jB (e := 12) 0 j17 rg_75_12_0_1 (by decide) (by decide); omega
    refine x_getR (np := 38) (x := 716) (f := 12) (q := 80) (by decide +kernel) (by decide) (by decide +kernel) q20 ?_
    refine x_const (np := 39) (x := 9223372047592194050) (a := 2147483650) (by decide +kernel) (by decide) (by decide) ?_
    refine x_iload (np := 40) (x := 3) (by decide +kernel) rfl la3 ?_
    refine x_ast (np := 41) (x := 0) (kd := 1) (n := 5) (i := 2) (by decide +kernel) (Or.inl rfl) (by decide +kernel) (by omega) (by omega) (by decide) la3 (fun z => absurd z (by decide)) ?_
    have j22 := jU (e := 2) (v := a3) 2 j17 rg_80_0_1_5 (by omega) (by omega) (by omega)
    have f24 := jF (e := 2) (v := a3) 2 f19 rg_80_0_1_5 (by omega) (by omega) (by decide)
    generalize e23 : x_up h16 80 2 a3 = h21 at j22 f24 ⊢
    refine x_aload (np := 42) (x := 0) (by decide +kernel) rfl (x_nc_le (by decide)) ?_
    have q25 : h21 75 12 = 80 := by have z := jB (e := 12) 0 j22 rg_75_12_0_1 (by decide) (by decide); omega
    refine x_getR (np := 45) (x := 716) (f := 12) (q := 80) (by decide +kernel) (by decide) (by decide +kernel) q25 ?_
    refine x_const (np := 46) (x := 9223372051887161347) (a := 2147483651) (by decide +kernel) (by decide) (by decide) ?_
    refine x_iload (np := 48) (x := 4) (by decide +kernel) rfl la4 ?_
    refine x_ast (np := 49) (x := 0) (kd := 1) (n := 5) (i := 3) (by decide +kernel) (Or.inl rfl) (by decide +kernel) (by omega) (by omega) (by decide) la4 (fun z => absurd z (by decide)) ?_
    have j27 := jU (e := 3) (v := a4) 3 j22 rg_80_0_1_5 (by omega) (by omega) (by omega)
    have f29 := jF (e := 3) (v := a4) 3 f24 rg_80_0_1_5 (by omega) (by omega) (by decide)
    generalize e28 : x_up h21 80 3 a4 = h26 at j27 f29 ⊢
    refine x_aload (np := 50) (x := 0) (by decide +kernel) rfl (x_nc_le (by decide)) ?_
    have q30 : h26 75 12 = 80 := by have z := jB (e := 12) 0 j27 rg_75_12_0_1 (by decide) (by decide); omega
    refine x_getR (np := 53) (x := 716) (f := 12) (q := 80) (by decide +kernel) (by decide) (by decide +kernel) q30 ?_
    refine x_const (np := 54) (x := 9223372056182128644) (a := 2147483652) (by decide +kernel) (by decide) (by decide) ?_
    refine x_iload (np := 56) (x := 5) (by decide +kernel) rfl la5 ?_
    refine x_ast (np := 57) (x := 0) (kd := 1) (n := 5) (i := 4) (by decide +kernel) (Or.inl rfl) (by decide +kernel) (by omega) (by omega) (by decide) la5 (fun z => absurd z (by decide)) ?_
    have j32 := jU (e := 4) (v := a5) 4 j27 rg_80_0_1_5 (by omega) (by omega) (by omega)
    have f34 := jF (e := 4) (v := a5) 4 f29 rg_80_0_1_5 (by omega) (by omega) (by decide)
    generalize e33 : x_up h26 80 4 a5 = h31 at j32 f34 ⊢
    refine x_const (np := 58) (x := 9223372039002259456) (a := 2147483648) (by decide +kernel) (by decide) (by decide) ?_
    refine x_istore (np := 60) (x := 6) (lo' := [x_r 75, iv_c a1, iv_c a2, iv_c a3, iv_c a4, iv_c a5, iv_c 2147483648]) (by decide +kernel) (by decide) (Nat.le_of_ble_eq_true rfl) rfl ?_
    refine x_iload (np := 62) (x := 6) (by decide +kernel) rfl (by decide) ?_
    refine x_const (np := 64) (x := 9223372124901605396) (a := 2147483668) (by decide +kernel) (by decide) (by decide) ?_
    refine x_icmp (k := 3) (tg := 106) (np := 67) (by decide +kernel) (by decide) (by decide) (by decide) (fun q35 => ?_) (fun q36 => ?_)
    · have q35 : 2147483668 ≤ 2147483648 := q35
      exfalso; omega
    have q36 : ¬ (2147483668 ≤ 2147483648) := q36
    refine x_aload (np := 68) (x := 0) (by decide +kernel) rfl (x_nc_le (by decide)) ?_
    have q37 : h31 75 5 = 79 := by have z := jB (e := 5) 0 j32 rg_75_5_0_1 (by decide) (by decide); omega
    refine x_getR (np := 71) (x := 709) (f := 5) (q := 79) (by decide +kernel) (by decide) (by decide +kernel) q37 ?_
    refine x_aload (np := 72) (x := 0) (by decide +kernel) rfl (x_nc_le (by decide)) ?_
    have q38 : h31 75 6 = h26 75 6 := by rw [← e33]; exact x_up_k (by decide)
    have q39 : h26 75 6 = h21 75 6 := by rw [← e28]; exact x_up_k (by decide)
    have q40 : h21 75 6 = h16 75 6 := by rw [← e23]; exact x_up_k (by decide)
    have q41 : h16 75 6 = h11 75 6 := by rw [← e18]; exact x_up_k (by decide)
    have q42 : h11 75 6 = h1 75 6 := by rw [← e13]; exact x_up_k (by decide)
    have q43 : h1 75 6 = h 75 6 := by rw [← e3]; exact x_up_i (by omega)
    refine x_getC (np := 75) (x := 710) (f := 6) (q := (h 75 6)) (by decide +kernel) (by decide) (by decide +kernel) (((((q38.trans q39).trans q40).trans q41).trans q42).trans q43) (fun l44 => ?_)
    refine x_iload (np := 77) (x := 6) (by decide +kernel) rfl (by decide) ?_
    refine x_iadd (np := 78) (x := 0) (v := (h 75 6)) (by decide +kernel) l7 (by decide) (by omega) (by omega) ?_
    refine x_aload (np := 79) (x := 0) (by decide +kernel) rfl (x_nc_le (by decide)) ?_
    have q45 : h31 75 12 = 80 := by have z := jB (e := 12) 0 j32 rg_75_12_0_1 (by decide) (by decide); omega
    refine x_getR (np := 82) (x := 716) (f := 12) (q := 80) (by decide +kernel) (by decide) (by decide +kernel) q45 ?_
    refine x_iload (np := 84) (x := 6) (by decide +kernel) rfl (by decide) ?_
    refine x_const (np := 85) (x := 9223372056182128644) (a := 2147483652) (by decide +kernel) (by decide) (by decide) ?_
    refine x_div (np := 86) (i := 0) (j := 4) (by decide +kernel) (by omega) (by decide) (by omega) (by decide) ?_
    show X _ _ _ _ _ _ _ _ [iv_c 2147483648, x_r 80, iv_c (h 75 6), x_r 79] _
    have q46 : h31 80 0 = h26 80 0 := by rw [← e33]; exact x_up_i (by omega)
    have q47 : h26 80 0 = h21 80 0 := by rw [← e28]; exact x_up_i (by omega)
    have q48 : h21 80 0 = h16 80 0 := by rw [← e23]; exact x_up_i (by omega)
    have q49 : h16 80 0 = h11 80 0 := by rw [← e18]; exact x_up_i (by omega)
    have q50 : h11 80 0 = a1 := by rw [← e13]; exact x_up_at
    refine x_aldC (np := 87) (x := 0) (n := 5) (i := 0) (q := a1) (by decide +kernel) (by decide +kernel) (by omega) (by omega) (by decide) ((((q46.trans q47).trans q48).trans q49).trans q50) (fun l51 => ?_)
    refine x_const (np := 89) (x := 9223372142081474584) (a := 2147483672) (by decide +kernel) (by decide) (by decide) ?_
    refine x_const (np := 91) (x := 9223372073361997832) (a := 2147483656) (by decide +kernel) (by decide) (by decide) ?_
    refine x_iload (np := 93) (x := 6) (by decide +kernel) rfl (by decide) ?_
    refine x_const (np := 94) (x := 9223372056182128644) (a := 2147483652) (by decide +kernel) (by decide) (by decide) ?_
    refine x_rem (np := 95) (i := 0) (j := 4) (by decide +kernel) (by omega) (by decide) (by omega) (by decide) ?_
    show X _ _ _ _ _ _ _ _ [iv_c 2147483648, iv_c 2147483656, iv_c 2147483672, iv_c a1, iv_c (h 75 6), x_r 79] _
    refine x_imul (np := 96) (x := 0) (i := 8) (j := 0) (v := 2147483648) (by decide +kernel) (by omega) (by omega) (by omega) (by omega) (by decide) (by decide) ?_
    refine x_isub (np := 97) (x := 0) (v := 2147483672) (by decide +kernel) (by decide) (by decide) (by omega) (by omega) ?_
    refine x_shrE (np := 98) (by decide +kernel) la1 (by decide) (fun l53 => ?_)
    refine x_b8 (by rw [tb_b165]; decide +kernel) l53 (fun l54 l55 => ?_)
    obtain ⟨u56, q57⟩ : ∃ z, (h 75 6) = 2147483648 + z := ⟨(h 75 6) - 2147483648, by omega⟩
    refine x_ast (np := 100) (x := 0) (kd := 2) (n := 400) (i := u56) (by decide +kernel) (Or.inr rfl) (by decide +kernel) (by omega) (by omega) (by decide) (by omega) (fun _ => by omega) ?_
    have j59 := jU (e := u56) (v := (b8 (bsh a1 2147483672))) u56 j32 rg_79_0_1_400 (by omega) (by omega) (by omega)
    have f61 := jF (e := u56) (v := (b8 (bsh a1 2147483672))) u56 f34 rg_79_0_1_400 (by omega) (by omega) (by decide)
    generalize e60 : x_up h31 79 u56 (b8 (bsh a1 2147483672)) = h58 at j59 f61 ⊢
    refine x_iinc (np := 103) (i := 6) (j := 2147483649) (v := 2147483649) (lo' := [x_r 75, iv_c a1, iv_c a2, iv_c a3, iv_c a4, iv_c a5, iv_c 2147483649]) (by decide +kernel) (by decide) (by decide) rfl (by decide) (by omega) (by omega) rfl ?_
    refine x_goto (np := 106) (x := 60) (by decide +kernel) ?_
    refine x_iload (np := 62) (x := 6) (by decide +kernel) rfl (by decide) ?_
    refine x_const (np := 64) (x := 9223372124901605396) (a := 2147483668) (by decide +kernel) (by decide) (by decide) ?_
    refine x_icmp (k := 3) (tg := 106) (np := 67) (by decide +kernel) (by decide) (by decide) (by decide) (fun q62 => ?_) (fun q63 => ?_)
    · have q62 : 2147483668 ≤ 2147483649 := q62
      exfalso; omega
    have q63 : ¬ (2147483668 ≤ 2147483649) := q63
    refine x_aload (np := 68) (x := 0) (by decide +kernel) rfl (x_nc_le (by decide)) ?_
    have q64 : h58 75 5 = 79 := by have z := jB (e := 5) 0 j59 rg_75_5_0_1 (by decide) (by decide); omega
    refine x_getR (np := 71) (x := 709) (f := 5) (q := 79) (by decide +kernel) (by decide) (by decide +kernel) q64 ?_
    refine x_aload (np := 72) (x := 0) (by decide +kernel) rfl (x_nc_le (by decide)) ?_
    have q65 : h58 75 6 = h31 75 6 := by rw [← e60]; exact x_up_k (by decide)
    have q66 : h31 75 6 = h26 75 6 := by rw [← e33]; exact x_up_k (by decide)
    have q67 : h26 75 6 = h21 75 6 := by rw [← e28]; exact x_up_k (by decide)
    have q68 : h21 75 6 = h16 75 6 := by rw [← e23]; exact x_up_k (by decide)
    have q69 : h16 75 6 = h11 75 6 := by rw [← e18]; exact x_up_k (by decide)
    have q70 : h11 75 6 = h1 75 6 := by rw [← e13]; exact x_up_k (by decide)
    have q71 : h1 75 6 = h 75 6 := by rw [← e3]; exact x_up_i (by omega)
    refine x_getC (np := 75) (x := 710) (f := 6) (q := (h 75 6)) (by decide +kernel) (by decide) (by decide +kernel) ((((((q65.trans q66).trans q67).trans q68).trans q69).trans q70).trans q71) (fun l72 => ?_)
    refine x_iload (np := 77) (x := 6) (by decide +kernel) rfl (by decide) ?_
    refine x_iadd (np := 78) (x := 0) (v := (1 + (h 75 6))) (by decide +kernel) l7 (by decide) (by omega) (by omega) ?_
    refine x_aload (np := 79) (x := 0) (by decide +kernel) rfl (x_nc_le (by decide)) ?_
    have q73 : h58 75 12 = 80 := by have z := jB (e := 12) 0 j59 rg_75_12_0_1 (by decide) (by decide); omega
    refine x_getR (np := 82) (x := 716) (f := 12) (q := 80) (by decide +kernel) (by decide) (by decide +kernel) q73 ?_
    refine x_iload (np := 84) (x := 6) (by decide +kernel) rfl (by decide) ?_
    refine x_const (np := 85) (x := 9223372056182128644) (a := 2147483652) (by decide +kernel) (by decide) (by decide) ?_
    refine x_div (np := 86) (i := 1) (j := 4) (by decide +kernel) (by omega) (by decide) (by omega) (by decide) ?_
    show X _ _ _ _ _ _ _ _ [iv_c 2147483648, x_r 80, iv_c (1 + (h 75 6)), x_r 79] _
    have q74 : h58 80 0 = h31 80 0 := by rw [← e60]; exact x_up_k (by decide)
    have q75 : h31 80 0 = h26 80 0 := by rw [← e33]; exact x_up_i (by omega)
    have q76 : h26 80 0 = h21 80 0 := by rw [← e28]; exact x_up_i (by omega)
    have q77 : h21 80 0 = h16 80 0 := by rw [← e23]; exact x_up_i (by omega)
    have q78 : h16 80 0 = h11 80 0 := by rw [← e18]; exact x_up_i (by omega)
    have q79 : h11 80 0 = a1 := by rw [← e13]; exact x_up_at
    refine x_aldC (np := 87) (x := 0) (n := 5) (i := 0) (q := a1) (by decide +kernel) (by decide +kernel) (by omega) (by omega) (by decide) (((((q74.trans q75).trans q76).trans q77).trans q78).trans q79) (fun l80 => ?_)
    refine x_const (np := 89) (x := 9223372142081474584) (a := 2147483672) (by decide +kernel) (by decide) (by decide) ?_
    refine x_const (np := 91) (x := 9223372073361997832) (a := 2147483656) (by decide +kernel) (by decide) (by decide) ?_
    refine x_iload (np := 93) (x := 6) (by decide +kernel) rfl (by decide) ?_
    refine x_const (np := 94) (x := 9223372056182128644) (a := 2147483652) (by decide +kernel) (by decide) (by decide) ?_
    refine x_rem (np := 95) (i := 1) (j := 4) (by decide +kernel) (by omega) (by decide) (by omega) (by decide) ?_
    show X _ _ _ _ _ _ _ _ [iv_c 2147483649, iv_c 2147483656, iv_c 2147483672, iv_c a1, iv_c (1 + (h 75 6)), x_r 79] _
    refine x_imul (np := 96) (x := 0) (i := 8) (j := 1) (v := 2147483656) (by decide +kernel) (by omega) (by omega) (by omega) (by omega) (by decide) (by decide) ?_
    refine x_isub (np := 97) (x := 0) (v := 2147483664) (by decide +kernel) (by decide) (by decide) (by omega) (by omega) ?_
    refine x_shrE (np := 98) (by decide +kernel) la1 (by decide) (fun l82 => ?_)
    refine x_b8 (by rw [tb_b165]; decide +kernel) l82 (fun l83 l84 => ?_)
    refine x_ast (np := 100) (x := 0) (kd := 2) (n := 400) (i := (1 + u56)) (by decide +kernel) (Or.inr rfl) (by decide +kernel) (by omega) (by omega) (by decide) (by omega) (fun _ => by omega) ?_
    have j86 := jU (e := (1 + u56)) (v := (b8 (bsh a1 2147483664))) (1 + u56) j59 rg_79_0_1_400 (by omega) (by omega) (by omega)
    have f88 := jF (e := (1 + u56)) (v := (b8 (bsh a1 2147483664))) (1 + u56) f61 rg_79_0_1_400 (by omega) (by omega) (by decide)
    generalize e87 : x_up h58 79 (1 + u56) (b8 (bsh a1 2147483664)) = h85 at j86 f88 ⊢
    refine x_iinc (np := 103) (i := 6) (j := 2147483649) (v := 2147483650) (lo' := [x_r 75, iv_c a1, iv_c a2, iv_c a3, iv_c a4, iv_c a5, iv_c 2147483650]) (by decide +kernel) (by decide) (by decide) rfl (by decide) (by omega) (by omega) rfl ?_
    refine x_goto (np := 106) (x := 60) (by decide +kernel) ?_
    refine x_iload (np := 62) (x := 6) (by decide +kernel) rfl (by decide) ?_
    refine x_const (np := 64) (x := 9223372124901605396) (a := 2147483668) (by decide +kernel) (by decide) (by decide) ?_
    refine x_icmp (k := 3) (tg := 106) (np := 67) (by decide +kernel) (by decide) (by decide) (by decide) (fun q89 => ?_) (fun q90 => ?_)
    · have q89 : 2147483668 ≤ 2147483650 := q89
      exfalso; omega
    have q90 : ¬ (2147483668 ≤ 2147483650) := q90
    refine x_aload (np := 68) (x := 0) (by decide +kernel) rfl (x_nc_le (by decide)) ?_
    have q91 : h85 75 5 = 79 := by have z := jB (e := 5) 0 j86 rg_75_5_0_1 (by decide) (by decide); omega
    refine x_getR (np := 71) (x := 709) (f := 5) (q := 79) (by decide +kernel) (by decide) (by decide +kernel) q91 ?_
    refine x_aload (np := 72) (x := 0) (by decide +kernel) rfl (x_nc_le (by decide)) ?_
    have q92 : h85 75 6 = h58 75 6 := by rw [← e87]; exact x_up_k (by decide)
    have q93 : h58 75 6 = h31 75 6 := by rw [← e60]; exact x_up_k (by decide)
    have q94 : h31 75 6 = h26 75 6 := by rw [← e33]; exact x_up_k (by decide)
    have q95 : h26 75 6 = h21 75 6 := by rw [← e28]; exact x_up_k (by decide)
    have q96 : h21 75 6 = h16 75 6 := by rw [← e23]; exact x_up_k (by decide)
    have q97 : h16 75 6 = h11 75 6 := by rw [← e18]; exact x_up_k (by decide)
    have q98 : h11 75 6 = h1 75 6 := by rw [← e13]; exact x_up_k (by decide)
    have q99 : h1 75 6 = h 75 6 := by rw [← e3]; exact x_up_i (by omega)
    refine x_getC (np := 75) (x := 710) (f := 6) (q := (h 75 6)) (by decide +kernel) (by decide) (by decide +kernel) (((((((q92.trans q93).trans q94).trans q95).trans q96).trans q97).trans q98).trans q99) (fun l100 => ?_)
    refine x_iload (np := 77) (x := 6) (by decide +kernel) rfl (by decide) ?_
    refine x_iadd (np := 78) (x := 0) (v := (2 + (h 75 6))) (by decide +kernel) l7 (by decide) (by omega) (by omega) ?_
    refine x_aload (np := 79) (x := 0) (by decide +kernel) rfl (x_nc_le (by decide)) ?_
    have q101 : h85 75 12 = 80 := by have z := jB (e := 12) 0 j86 rg_75_12_0_1 (by decide) (by decide); omega
    refine x_getR (np := 82) (x := 716) (f := 12) (q := 80) (by decide +kernel) (by decide) (by decide +kernel) q101 ?_
    refine x_iload (np := 84) (x := 6) (by decide +kernel) rfl (by decide) ?_
    refine x_const (np := 85) (x := 9223372056182128644) (a := 2147483652) (by decide +kernel) (by decide) (by decide) ?_
    refine x_div (np := 86) (i := 2) (j := 4) (by decide +kernel) (by omega) (by decide) (by omega) (by decide) ?_
    show X _ _ _ _ _ _ _ _ [iv_c 2147483648, x_r 80, iv_c (2 + (h 75 6)), x_r 79] _
    have q102 : h85 80 0 = h58 80 0 := by rw [← e87]; exact x_up_k (by decide)
    have q103 : h58 80 0 = h31 80 0 := by rw [← e60]; exact x_up_k (by decide)
    have q104 : h31 80 0 = h26 80 0 := by rw [← e33]; exact x_up_i (by omega)
    have q105 : h26 80 0 = h21 80 0 := by rw [← e28]; exact x_up_i (by omega)
    have q106 : h21 80 0 = h16 80 0 := by rw [← e23]; exact x_up_i (by omega)
    have q107 : h16 80 0 = h11 80 0 := by rw [← e18]; exact x_up_i (by omega)
    have q108 : h11 80 0 = a1 := by rw [← e13]; exact x_up_at
    refine x_aldC (np := 87) (x := 0) (n := 5) (i := 0) (q := a1) (by decide +kernel) (by decide +kernel) (by omega) (by omega) (by decide) ((((((q102.trans q103).trans q104).trans q105).trans q106).trans q107).trans q108) (fun l109 => ?_)
    refine x_const (np := 89) (x := 9223372142081474584) (a := 2147483672) (by decide +kernel) (by decide) (by decide) ?_
    refine x_const (np := 91) (x := 9223372073361997832) (a := 2147483656) (by decide +kernel) (by decide) (by decide) ?_
    refine x_iload (np := 93) (x := 6) (by decide +kernel) rfl (by decide) ?_
    refine x_const (np := 94) (x := 9223372056182128644) (a := 2147483652) (by decide +kernel) (by decide) (by decide) ?_
    refine x_rem (np := 95) (i := 2) (j := 4) (by decide +kernel) (by omega) (by decide) (by omega) (by decide) ?_
    show X _ _ _ _ _ _ _ _ [iv_c 2147483650, iv_c 2147483656, iv_c 2147483672, iv_c a1, iv_c (2 + (h 75 6)), x_r 79] _
    refine x_imul (np := 96) (x := 0) (i := 8) (j := 2) (v := 2147483664) (by decide +kernel) (by omega) (by omega) (by omega) (by omega) (by decide) (by decide) ?_
    refine x_isub (np := 97) (x := 0) (v := 2147483656) (by decide +kernel) (by decide) (by decide) (by omega) (by omega) ?_
    refine x_shrE (np := 98) (by decide +kernel) la1 (by decide) (fun l111 => ?_)
    refine x_b8 (by rw [tb_b165]; decide +kernel) l111 (fun l112 l113 => ?_)
    refine x_ast (np := 100) (x := 0) (kd := 2) (n := 400) (i := (2 + u56)) (by decide +kernel) (Or.inr rfl) (by decide +kernel) (by omega) (by omega) (by decide) (by omega) (fun _ => by omega) ?_
    have j115 := jU (e := (2 + u56)) (v := (b8 (bsh a1 2147483656))) (2 + u56) j86 rg_79_0_1_400 (by omega) (by omega) (by omega)
    have f117 := jF (e := (2 + u56)) (v := (b8 (bsh a1 2147483656))) (2 + u56) f88 rg_79_0_1_400 (by omega) (by omega) (by decide)
    generalize e116 : x_up h85 79 (2 + u56) (b8 (bsh a1 2147483656)) = h114 at j115 f117 ⊢
    refine x_iinc (np := 103) (i := 6) (j := 2147483649) (v := 2147483651) (lo' := [x_r 75, iv_c a1, iv_c a2, iv_c a3, iv_c a4, iv_c a5, iv_c 2147483651]) (by decide +kernel) (by decide) (by decide) rfl (by decide) (by omega) (by omega) rfl ?_
    refine x_goto (np := 106) (x := 60) (by decide +kernel) ?_
    refine x_iload (np := 62) (x := 6) (by decide +kernel) rfl (by decide) ?_
    refine x_const (np := 64) (x := 9223372124901605396) (a := 2147483668) (by decide +kernel) (by decide) (by decide) ?_
    refine x_icmp (k := 3) (tg := 106) (np := 67) (by decide +kernel) (by decide) (by decide) (by decide) (fun q118 => ?_) (fun q119 => ?_)
    · have q118 : 2147483668 ≤ 2147483651 := q118
      exfalso; omega
    have q119 : ¬ (2147483668 ≤ 2147483651) := q119
    refine x_aload (np := 68) (x := 0) (by decide +kernel) rfl (x_nc_le (by decide)) ?_
    have q120 : h114 75 5 = 79 := by have z := jB (e := 5) 0 j115 rg_75_5_0_1 (by decide) (by decide); omega
    refine x_getR (np := 71) (x := 709) (f := 5) (q := 79) (by decide +kernel) (by decide) (by decide +kernel) q120 ?_
    refine x_aload (np := 72) (x := 0) (by decide +kernel) rfl (x_nc_le (by decide)) ?_
    have q121 : h114 75 6 = h85 75 6 := by rw [← e116]; exact x_up_k (by decide)
    have q122 : h85 75 6 = h58 75 6 := by rw [← e87]; exact x_up_k (by decide)
    have q123 : h58 75 6 = h31 75 6 := by rw [← e60]; exact x_up_k (by decide)
    have q124 : h31 75 6 = h26 75 6 := by rw [← e33]; exact x_up_k (by decide)
    have q125 : h26 75 6 = h21 75 6 := by rw [← e28]; exact x_up_k (by decide)
    have q126 : h21 75 6 = h16 75 6 := by rw [← e23]; exact x_up_k (by decide)
    have q127 : h16 75 6 = h11 75 6 := by rw [← e18]; exact x_up_k (by decide)
    have q128 : h11 75 6 = h1 75 6 := by rw [← e13]; exact x_up_k (by decide)
    have q129 : h1 75 6 = h 75 6 := by rw [← e3]; exact x_up_i (by omega)
    refine x_getC (np := 75) (x := 710) (f := 6) (q := (h 75 6)) (by decide +kernel) (by decide) (by decide +kernel) ((((((((q121.trans q122).trans q123).trans q124).trans q125).trans q126).trans q127).trans q128).trans q129) (fun l130 => ?_)
    refine x_iload (np := 77) (x := 6) (by decide +kernel) rfl (by decide) ?_
    refine x_iadd (np := 78) (x := 0) (v := (3 + (h 75 6))) (by decide +kernel) l7 (by decide) (by omega) (by omega) ?_
    refine x_aload (np := 79) (x := 0) (by decide +kernel) rfl (x_nc_le (by decide)) ?_
    have q131 : h114 75 12 = 80 := by have z := jB (e := 12) 0 j115 rg_75_12_0_1 (by decide) (by decide); omega
    refine x_getR (np := 82) (x := 716) (f := 12) (q := 80) (by decide +kernel) (by decide) (by decide +kernel) q131 ?_
    refine x_iload (np := 84) (x := 6) (by decide +kernel) rfl (by decide) ?_
    refine x_const (np := 85) (x := 9223372056182128644) (a := 2147483652) (by decide +kernel) (by decide) (by decide) ?_
    refine x_div (np := 86) (i := 3) (j := 4) (by decide +kernel) (by omega) (by decide) (by omega) (by decide) ?_
    show X _ _ _ _ _ _ _ _ [iv_c 2147483648, x_r 80, iv_c (3 + (h 75 6)), x_r 79] _
    have q132 : h114 80 0 = h85 80 0 := by rw [← e116]; exact x_up_k (by decide)
    have q133 : h85 80 0 = h58 80 0 := by rw [← e87]; exact x_up_k (by decide)
    have q134 : h58 80 0 = h31 80 0 := by rw [← e60]; exact x_up_k (by decide)
    have q135 : h31 80 0 = h26 80 0 := by rw [← e33]; exact x_up_i (by omega)
    have q136 : h26 80 0 = h21 80 0 := by rw [← e28]; exact x_up_i (by omega)
    have q137 : h21 80 0 = h16 80 0 := by rw [← e23]; exact x_up_i (by omega)
    have q138 : h16 80 0 = h11 80 0 := by rw [← e18]; exact x_up_i (by omega)
    have q139 : h11 80 0 = a1 := by rw [← e13]; exact x_up_at
    refine x_aldC (np := 87) (x := 0) (n := 5) (i := 0) (q := a1) (by decide +kernel) (by decide +kernel) (by omega) (by omega) (by decide) (((((((q132.trans q133).trans q134).trans q135).trans q136).trans q137).trans q138).trans q139) (fun l140 => ?_)
    refine x_const (np := 89) (x := 9223372142081474584) (a := 2147483672) (by decide +kernel) (by decide) (by decide) ?_
    refine x_const (np := 91) (x := 9223372073361997832) (a := 2147483656) (by decide +kernel) (by decide) (by decide) ?_
    refine x_iload (np := 93) (x := 6) (by decide +kernel) rfl (by decide) ?_
    refine x_const (np := 94) (x := 9223372056182128644) (a := 2147483652) (by decide +kernel) (by decide) (by decide) ?_
    refine x_rem (np := 95) (i := 3) (j := 4) (by decide +kernel) (by omega) (by decide) (by omega) (by decide) ?_
    show X _ _ _ _ _ _ _ _ [iv_c 2147483651, iv_c 2147483656, iv_c 2147483672, iv_c a1, iv_c (3 + (h 75 6)), x_r 79] _
    refine x_imul (np := 96) (x := 0) (i := 8) (j := 3) (v := 2147483672) (by decide +kernel) (by omega) (by omega) (by omega) (by omega) (by decide) (by decide) ?_
    refine x_isub (np := 97) (x := 0) (v := 2147483648) (by decide +kernel) (by decide) (by decide) (by omega) (by omega) ?_
    refine x_shrE (np := 98) (by decide +kernel) la1 (by decide) (fun l142 => ?_)
    refine x_b8 (by rw [tb_b165]; decide +kernel) l142 (fun l143 l144 => ?_)
    refine x_ast (np := 100) (x := 0) (kd := 2) (n := 400) (i := (3 + u56)) (by decide +kernel) (Or.inr rfl) (by decide +kernel) (by omega) (by omega) (by decide) (by omega) (fun _ => by omega) ?_
    have j146 := jU (e := (3 + u56)) (v := (b8 (bsh a1 2147483648))) (3 + u56) j115 rg_79_0_1_400 (by omega) (by omega) (by omega)
    have f148 := jF (e := (3 + u56)) (v := (b8 (bsh a1 2147483648))) (3 + u56) f117 rg_79_0_1_400 (by omega) (by omega) (by decide)
    generalize e147 : x_up h114 79 (3 + u56) (b8 (bsh a1 2147483648)) = h145 at j146 f148 ⊢
    refine x_iinc (np := 103) (i := 6) (j := 2147483649) (v := 2147483652) (lo' := [x_r 75, iv_c a1, iv_c a2, iv_c a3, iv_c a4, iv_c a5, iv_c 2147483652]) (by decide +kernel) (by decide) (by decide) rfl (by decide) (by omega) (by omega) rfl ?_
    refine x_goto (np := 106) (x := 60) (by decide +kernel) ?_
    refine x_iload (np := 62) (x := 6) (by decide +kernel) rfl (by decide) ?_
    refine x_const (np := 64) (x := 9223372124901605396) (a := 2147483668) (by decide +kernel) (by decide) (by decide) ?_
    refine x_icmp (k := 3) (tg := 106) (np := 67) (by decide +kernel) (by decide) (by decide) (by decide) (fun q149 => ?_) (fun q150 => ?_)
    · have q149 : 2147483668 ≤ 2147483652 := q149
      exfalso; omega
    have q150 : ¬ (2147483668 ≤ 2147483652) := q150
    refine x_aload (np := 68) (x := 0) (by decide +kernel) rfl (x_nc_le (by decide)) ?_
    have q151 : h145 75 5 = 79 := by have z := jB (e := 5) 0 j146 rg_75_5_0_1 (by decide) (by decide); omega
    refine x_getR (np := 71) (x := 709) (f := 5) (q := 79) (by decide +kernel) (by decide) (by decide +kernel) q151 ?_
    refine x_aload (np := 72) (x := 0) (by decide +kernel) rfl (x_nc_le (by decide)) ?_
    have q152 : h145 75 6 = h114 75 6 := by rw [← e147]; exact x_up_k (by decide)
    have q153 : h114 75 6 = h85 75 6 := by rw [← e116]; exact x_up_k (by decide)
    have q154 : h85 75 6 = h58 75 6 := by rw [← e87]; exact x_up_k (by decide)
    have q155 : h58 75 6 = h31 75 6 := by rw [← e60]; exact x_up_k (by decide)
    have q156 : h31 75 6 = h26 75 6 := by rw [← e33]; exact x_up_k (by decide)
    have q157 : h26 75 6 = h21 75 6 := by rw [← e28]; exact x_up_k (by decide)
    have q158 : h21 75 6 = h16 75 6 := by rw [← e23]; exact x_up_k (by decide)
    have q159 : h16 75 6 = h11 75 6 := by rw [← e18]; exact x_up_k (by decide)
    have q160 : h11 75 6 = h1 75 6 := by rw [← e13]; exact x_up_k (by decide)
    have q161 : h1 75 6 = h 75 6 := by rw [← e3]; exact x_up_i (by omega)
    refine x_getC (np := 75) (x := 710) (f := 6) (q := (h 75 6)) (by decide +kernel) (by decide) (by decide +kernel) (((((((((q152.trans q153).trans q154).trans q155).trans q156).trans q157).trans q158).trans q159).trans q160).trans q161) (fun l162 => ?_)
    refine x_iload (np := 77) (x := 6) (by decide +kernel) rfl (by decide) ?_
    refine x_iadd (np := 78) (x := 0) (v := (4 + (h 75 6))) (by decide +kernel) l7 (by decide) (by omega) (by omega) ?_
    refine x_aload (np := 79) (x := 0) (by decide +kernel) rfl (x_nc_le (by decide)) ?_
    have q163 : h145 75 12 = 80 := by have z := jB (e := 12) 0 j146 rg_75_12_0_1 (by decide) (by decide); omega
    refine x_getR (np := 82) (x := 716) (f := 12) (q := 80) (by decide +kernel) (by decide) (by decide +kernel) q163 ?_
    refine x_iload (np := 84) (x := 6) (by decide +kernel) rfl (by decide) ?_
    refine x_const (np := 85) (x := 9223372056182128644) (a := 2147483652) (by decide +kernel) (by decide) (by decide) ?_
    refine x_div (np := 86) (i := 4) (j := 4) (by decide +kernel) (by omega) (by decide) (by omega) (by decide) ?_
    show X _ _ _ _ _ _ _ _ [iv_c 2147483649, x_r 80, iv_c (4 + (h 75 6)), x_r 79] _
    have q164 : h145 80 1 = h114 80 1 := by rw [← e147]; exact x_up_k (by decide)
    have q165 : h114 80 1 = h85 80 1 := by rw [← e116]; exact x_up_k (by decide)
    have q166 : h85 80 1 = h58 80 1 := by rw [← e87]; exact x_up_k (by decide)
    have q167 : h58 80 1 = h31 80 1 := by rw [← e60]; exact x_up_k (by decide)
    have q168 : h31 80 1 = h26 80 1 := by rw [← e33]; exact x_up_i (by omega)
    have q169 : h26 80 1 = h21 80 1 := by rw [← e28]; exact x_up_i (by omega)
    have q170 : h21 80 1 = h16 80 1 := by rw [← e23]; exact x_up_i (by omega)
    have q171 : h16 80 1 = a2 := by rw [← e18]; exact x_up_at
    refine x_aldC (np := 87) (x := 0) (n := 5) (i := 1) (q := a2) (by decide +kernel) (by decide +kernel) (by omega) (by omega) (by decide) (((((((q164.trans q165).trans q166).trans q167).trans q168).trans q169).trans q170).trans q171) (fun l172 => ?_)
    refine x_const (np := 89) (x := 9223372142081474584) (a := 2147483672) (by decide +kernel) (by decide) (by decide) ?_
    refine x_const (np := 91) (x := 9223372073361997832) (a := 2147483656) (by decide +kernel) (by decide) (by decide) ?_
    refine x_iload (np := 93) (x := 6) (by decide +kernel) rfl (by decide) ?_
    refine x_const (np := 94) (x := 9223372056182128644) (a := 2147483652) (by decide +kernel) (by decide) (by decide) ?_
    refine x_rem (np := 95) (i := 4) (j := 4) (by decide +kernel) (by omega) (by decide) (by omega) (by decide) ?_
    show X _ _ _ _ _ _ _ _ [iv_c 2147483648, iv_c 2147483656, iv_c 2147483672, iv_c a2, iv_c (4 + (h 75 6)), x_r 79] _
    refine x_imul (np := 96) (x := 0) (i := 8) (j := 0) (v := 2147483648) (by decide +kernel) (by omega) (by omega) (by omega) (by omega) (by decide) (by decide) ?_
    refine x_isub (np := 97) (x := 0) (v := 2147483672) (by decide +kernel) (by decide) (by decide) (by omega) (by omega) ?_
    refine x_shrE (np := 98) (by decide +kernel) la2 (by decide) (fun l174 => ?_)
    refine x_b8 (by rw [tb_b165]; decide +kernel) l174 (fun l175 l176 => ?_)
    refine x_ast (np := 100) (x := 0) (kd := 2) (n := 400) (i := (4 + u56)) (by decide +kernel) (Or.inr rfl) (by decide +kernel) (by omega) (by omega) (by decide) (by omega) (fun _ => by omega) ?_
    have j178 := jU (e := (4 + u56)) (v := (b8 (bsh a2 2147483672))) (4 + u56) j146 rg_79_0_1_400 (by omega) (by omega) (by omega)
    have f180 := jF (e := (4 + u56)) (v := (b8 (bsh a2 2147483672))) (4 + u56) f148 rg_79_0_1_400 (by omega) (by omega) (by decide)
    generalize e179 : x_up h145 79 (4 + u56) (b8 (bsh a2 2147483672)) = h177 at j178 f180 ⊢
    refine x_iinc (np := 103) (i := 6) (j := 2147483649) (v := 2147483653) (lo' := [x_r 75, iv_c a1, iv_c a2, iv_c a3, iv_c a4, iv_c a5, iv_c 2147483653]) (by decide +kernel) (by decide) (by decide) rfl (by decide) (by omega) (by omega) rfl ?_
    refine x_goto (np := 106) (x := 60) (by decide +kernel) ?_
    refine x_iload (np := 62) (x := 6) (by decide +kernel) rfl (by decide) ?_
    refine x_const (np := 64) (x := 9223372124901605396) (a := 2147483668) (by decide +kernel) (by decide) (by decide) ?_
    refine x_icmp (k := 3) (tg := 106) (np := 67) (by decide +kernel) (by decide) (by decide) (by decide) (fun q181 => ?_) (fun q182 => ?_)
    · have q181 : 2147483668 ≤ 2147483653 := q181
      exfalso; omega
    have q182 : ¬ (2147483668 ≤ 2147483653) := q182
    refine x_aload (np := 68) (x := 0) (by decide +kernel) rfl (x_nc_le (by decide)) ?_
    have q183 : h177 75 5 = 79 := by have z := jB (e := 5) 0 j178 rg_75_5_0_1 (by decide) (by decide); omega
    refine x_getR (np := 71) (x := 709) (f := 5) (q := 79) (by decide +kernel) (by decide) (by decide +kernel) q183 ?_
    refine x_aload (np := 72) (x := 0) (by decide +kernel) rfl (x_nc_le (by decide)) ?_
    have q184 : h177 75 6 = h145 75 6 := by rw [← e179]; exact x_up_k (by decide)
    have q185 : h145 75 6 = h114 75 6 := by rw [← e147]; exact x_up_k (by decide)
    have q186 : h114 75 6 = h85 75 6 := by rw [← e116]; exact x_up_k (by decide)
    have q187 : h85 75 6 = h58 75 6 := by rw [← e87]; exact x_up_k (by decide)
    have q188 : h58 75 6 = h31 75 6 := by rw [← e60]; exact x_up_k (by decide)
    have q189 : h31 75 6 = h26 75 6 := by rw [← e33]; exact x_up_k (by decide)
    have q190 : h26 75 6 = h21 75 6 := by rw [← e28]; exact x_up_k (by decide)
    have q191 : h21 75 6 = h16 75 6 := by rw [← e23]; exact x_up_k (by decide)
    have q192 : h16 75 6 = h11 75 6 := by rw [← e18]; exact x_up_k (by decide)
    have q193 : h11 75 6 = h1 75 6 := by rw [← e13]; exact x_up_k (by decide)
    have q194 : h1 75 6 = h 75 6 := by rw [← e3]; exact x_up_i (by omega)
    refine x_getC (np := 75) (x := 710) (f := 6) (q := (h 75 6)) (by decide +kernel) (by decide) (by decide +kernel) ((((((((((q184.trans q185).trans q186).trans q187).trans q188).trans q189).trans q190).trans q191).trans q192).trans q193).trans q194) (fun l195 => ?_)
    refine x_iload (np := 77) (x := 6) (by decide +kernel) rfl (by decide) ?_
    refine x_iadd (np := 78) (x := 0) (v := (5 + (h 75 6))) (by decide +kernel) l7 (by decide) (by omega) (by omega) ?_
    refine x_aload (np := 79) (x := 0) (by decide +kernel) rfl (x_nc_le (by decide)) ?_
    have q196 : h177 75 12 = 80 := by have z := jB (e := 12) 0 j178 rg_75_12_0_1 (by decide) (by decide); omega
    refine x_getR (np := 82) (x := 716) (f := 12) (q := 80) (by decide +kernel) (by decide) (by decide +kernel) q196 ?_
    refine x_iload (np := 84) (x := 6) (by decide +kernel) rfl (by decide) ?_
    refine x_const (np := 85) (x := 9223372056182128644) (a := 2147483652) (by decide +kernel) (by decide) (by decide) ?_
    refine x_div (np := 86) (i := 5) (j := 4) (by decide +kernel) (by omega) (by decide) (by omega) (by decide) ?_
    show X _ _ _ _ _ _ _ _ [iv_c 2147483649, x_r 80, iv_c (5 + (h 75 6)), x_r 79] _
    have q197 : h177 80 1 = h145 80 1 := by rw [← e179]; exact x_up_k (by decide)
    have q198 : h145 80 1 = h114 80 1 := by rw [← e147]; exact x_up_k (by decide)
    have q199 : h114 80 1 = h85 80 1 := by rw [← e116]; exact x_up_k (by decide)
    have q200 : h85 80 1 = h58 80 1 := by rw [← e87]; exact x_up_k (by decide)
    have q201 : h58 80 1 = h31 80 1 := by rw [← e60]; exact x_up_k (by decide)
    have q202 : h31 80 1 = h26 80 1 := by rw [← e33]; exact x_up_i (by omega)
    have q203 : h26 80 1 = h21 80 1 := by rw [← e28]; exact x_up_i (by omega)
    have q204 : h21 80 1 = h16 80 1 := by rw [← e23]; exact x_up_i (by omega)
    have q205 : h16 80 1 = a2 := by rw [← e18]; exact x_up_at
    refine x_aldC (np := 87) (x := 0) (n := 5) (i := 1) (q := a2) (by decide +kernel) (by decide +kernel) (by omega) (by omega) (by decide) ((((((((q197.trans q198).trans q199).trans q200).trans q201).trans q202).trans q203).trans q204).trans q205) (fun l206 => ?_)
    refine x_const (np := 89) (x := 9223372142081474584) (a := 2147483672) (by decide +kernel) (by decide) (by decide) ?_
    refine x_const (np := 91) (x := 9223372073361997832) (a := 2147483656) (by decide +kernel) (by decide) (by decide) ?_
    refine x_iload (np := 93) (x := 6) (by decide +kernel) rfl (by decide) ?_
    refine x_const (np := 94) (x := 9223372056182128644) (a := 2147483652) (by decide +kernel) (by decide) (by decide) ?_
    refine x_rem (np := 95) (i := 5) (j := 4) (by decide +kernel) (by omega) (by decide) (by omega) (by decide) ?_
    show X _ _ _ _ _ _ _ _ [iv_c 2147483649, iv_c 2147483656, iv_c 2147483672, iv_c a2, iv_c (5 + (h 75 6)), x_r 79] _
    refine x_imul (np := 96) (x := 0) (i := 8) (j := 1) (v := 2147483656) (by decide +kernel) (by omega) (by omega) (by omega) (by omega) (by decide) (by decide) ?_
    refine x_isub (np := 97) (x := 0) (v := 2147483664) (by decide +kernel) (by decide) (by decide) (by omega) (by omega) ?_
    refine x_shrE (np := 98) (by decide +kernel) la2 (by decide) (fun l208 => ?_)
    refine x_b8 (by rw [tb_b165]; decide +kernel) l208 (fun l209 l210 => ?_)
    refine x_ast (np := 100) (x := 0) (kd := 2) (n := 400) (i := (5 + u56)) (by decide +kernel) (Or.inr rfl) (by decide +kernel) (by omega) (by omega) (by decide) (by omega) (fun _ => by omega) ?_
    have j212 := jU (e := (5 + u56)) (v := (b8 (bsh a2 2147483664))) (5 + u56) j178 rg_79_0_1_400 (by omega) (by omega) (by omega)
    have f214 := jF (e := (5 + u56)) (v := (b8 (bsh a2 2147483664))) (5 + u56) f180 rg_79_0_1_400 (by omega) (by omega) (by decide)
    generalize e213 : x_up h177 79 (5 + u56) (b8 (bsh a2 2147483664)) = h211 at j212 f214 ⊢
    refine x_iinc (np := 103) (i := 6) (j := 2147483649) (v := 2147483654) (lo' := [x_r 75, iv_c a1, iv_c a2, iv_c a3, iv_c a4, iv_c a5, iv_c 2147483654]) (by decide +kernel) (by decide) (by decide) rfl (by decide) (by omega) (by omega) rfl ?_
    refine x_goto (np := 106) (x := 60) (by decide +kernel) ?_
    refine x_iload (np := 62) (x := 6) (by decide +kernel) rfl (by decide) ?_
    refine x_const (np := 64) (x := 9223372124901605396) (a := 2147483668) (by decide +kernel) (by decide) (by decide) ?_
    refine x_icmp (k := 3) (tg := 106) (np := 67) (by decide +kernel) (by decide) (by decide) (by decide) (fun q215 => ?_) (fun q216 => ?_)
    · have q215 : 2147483668 ≤ 2147483654 := q215
      exfalso; omega
    have q216 : ¬ (2147483668 ≤ 2147483654) := q216
    refine x_aload (np := 68) (x := 0) (by decide +kernel) rfl (x_nc_le (by decide)) ?_
    have q217 : h211 75 5 = 79 := by have z := jB (e := 5) 0 j212 rg_75_5_0_1 (by decide) (by decide); omega
    refine x_getR (np := 71) (x := 709) (f := 5) (q := 79) (by decide +kernel) (by decide) (by decide +kernel) q217 ?_
    refine x_aload (np := 72) (x := 0) (by decide +kernel) rfl (x_nc_le (by decide)) ?_
    have q218 : h211 75 6 = h177 75 6 := by rw [← e213]; exact x_up_k (by decide)
    have q219 : h177 75 6 = h145 75 6 := by rw [← e179]; exact x_up_k (by decide)
    have q220 : h145 75 6 = h114 75 6 := by rw [← e147]; exact x_up_k (by decide)
    have q221 : h114 75 6 = h85 75 6 := by rw [← e116]; exact x_up_k (by decide)
    have q222 : h85 75 6 = h58 75 6 := by rw [← e87]; exact x_up_k (by decide)
    have q223 : h58 75 6 = h31 75 6 := by rw [← e60]; exact x_up_k (by decide)
    have q224 : h31 75 6 = h26 75 6 := by rw [← e33]; exact x_up_k (by decide)
    have q225 : h26 75 6 = h21 75 6 := by rw [← e28]; exact x_up_k (by decide)
    have q226 : h21 75 6 = h16 75 6 := by rw [← e23]; exact x_up_k (by decide)
    have q227 : h16 75 6 = h11 75 6 := by rw [← e18]; exact x_up_k (by decide)
    have q228 : h11 75 6 = h1 75 6 := by rw [← e13]; exact x_up_k (by decide)
    have q229 : h1 75 6 = h 75 6 := by rw [← e3]; exact x_up_i (by omega)
    refine x_getC (np := 75) (x := 710) (f := 6) (q := (h 75 6)) (by decide +kernel) (by decide) (by decide +kernel) (((((((((((q218.trans q219).trans q220).trans q221).trans q222).trans q223).trans q224).trans q225).trans q226).trans q227).trans q228).trans q229) (fun l230 => ?_)
    refine x_iload (np := 77) (x := 6) (by decide +kernel) rfl (by decide) ?_
    refine x_iadd (np := 78) (x := 0) (v := (6 + (h 75 6))) (by decide +kernel) l7 (by decide) (by omega) (by omega) ?_
    refine x_aload (np := 79) (x := 0) (by decide +kernel) rfl (x_nc_le (by decide)) ?_
    have q231 : h211 75 12 = 80 := by have z := jB (e := 12) 0 j212 rg_75_12_0_1 (by decide) (by decide); omega
    refine x_getR (np := 82) (x := 716) (f := 12) (q := 80) (by decide +kernel) (by decide) (by decide +kernel) q231 ?_
    refine x_iload (np := 84) (x := 6) (by decide +kernel) rfl (by decide) ?_
    refine x_const (np := 85) (x := 9223372056182128644) (a := 2147483652) (by decide +kernel) (by decide) (by decide) ?_
    refine x_div (np := 86) (i := 6) (j := 4) (by decide +kernel) (by omega) (by decide) (by omega) (by decide) ?_
    show X _ _ _ _ _ _ _ _ [iv_c 2147483649, x_r 80, iv_c (6 + (h 75 6)), x_r 79] _
    have q232 : h211 80 1 = h177 80 1 := by rw [← e213]; exact x_up_k (by decide)
    have q233 : h177 80 1 = h145 80 1 := by rw [← e179]; exact x_up_k (by decide)
    have q234 : h145 80 1 = h114 80 1 := by rw [← e147]; exact x_up_k (by decide)
    have q235 : h114 80 1 = h85 80 1 := by rw [← e116]; exact x_up_k (by decide)
    have q236 : h85 80 1 = h58 80 1 := by rw [← e87]; exact x_up_k (by decide)
    have q237 : h58 80 1 = h31 80 1 := by rw [← e60]; exact x_up_k (by decide)
    have q238 : h31 80 1 = h26 80 1 := by rw [← e33]; exact x_up_i (by omega)
    have q239 : h26 80 1 = h21 80 1 := by rw [← e28]; exact x_up_i (by omega)
    have q240 : h21 80 1 = h16 80 1 := by rw [← e23]; exact x_up_i (by omega)
    have q241 : h16 80 1 = a2 := by rw [← e18]; exact x_up_at
    refine x_aldC (np := 87) (x := 0) (n := 5) (i := 1) (q := a2) (by decide +kernel) (by decide +kernel) (by omega) (by omega) (by decide) (((((((((q232.trans q233).trans q234).trans q235).trans q236).trans q237).trans q238).trans q239).trans q240).trans q241) (fun l242 => ?_)
    refine x_const (np := 89) (x := 9223372142081474584) (a := 2147483672) (by decide +kernel) (by decide) (by decide) ?_
    refine x_const (np := 91) (x := 9223372073361997832) (a := 2147483656) (by decide +kernel) (by decide) (by decide) ?_
    refine x_iload (np := 93) (x := 6) (by decide +kernel) rfl (by decide) ?_
    refine x_const (np := 94) (x := 9223372056182128644) (a := 2147483652) (by decide +kernel) (by decide) (by decide) ?_
    refine x_rem (np := 95) (i := 6) (j := 4) (by decide +kernel) (by omega) (by decide) (by omega) (by decide) ?_
    show X _ _ _ _ _ _ _ _ [iv_c 2147483650, iv_c 2147483656, iv_c 2147483672, iv_c a2, iv_c (6 + (h 75 6)), x_r 79] _
    refine x_imul (np := 96) (x := 0) (i := 8) (j := 2) (v := 2147483664) (by decide +kernel) (by omega) (by omega) (by omega) (by omega) (by decide) (by decide) ?_
    refine x_isub (np := 97) (x := 0) (v := 2147483656) (by decide +kernel) (by decide) (by decide) (by omega) (by omega) ?_
    refine x_shrE (np := 98) (by decide +kernel) la2 (by decide) (fun l244 => ?_)
    refine x_b8 (by rw [tb_b165]; decide +kernel) l244 (fun l245 l246 => ?_)
    refine x_ast (np := 100) (x := 0) (kd := 2) (n := 400) (i := (6 + u56)) (by decide +kernel) (Or.inr rfl) (by decide +kernel) (by omega) (by omega) (by decide) (by omega) (fun _ => by omega) ?_
    have j248 := jU (e := (6 + u56)) (v := (b8 (bsh a2 2147483656))) (6 + u56) j212 rg_79_0_1_400 (by omega) (by omega) (by omega)
    have f250 := jF (e := (6 + u56)) (v := (b8 (bsh a2 2147483656))) (6 + u56) f214 rg_79_0_1_400 (by omega) (by omega) (by decide)
    generalize e249 : x_up h211 79 (6 + u56) (b8 (bsh a2 2147483656)) = h247 at j248 f250 ⊢
    refine x_iinc (np := 103) (i := 6) (j := 2147483649) (v := 2147483655) (lo' := [x_r 75, iv_c a1, iv_c a2, iv_c a3, iv_c a4, iv_c a5, iv_c 2147483655]) (by decide +kernel) (by decide) (by decide) rfl (by decide) (by omega) (by omega) rfl ?_
    refine x_goto (np := 106) (x := 60) (by decide +kernel) ?_
    refine x_iload (np := 62) (x := 6) (by decide +kernel) rfl (by decide) ?_
    refine x_const (np := 64) (x := 9223372124901605396) (a := 2147483668) (by decide +kernel) (by decide) (by decide) ?_
    refine x_icmp (k := 3) (tg := 106) (np := 67) (by decide +kernel) (by decide) (by decide) (by decide) (fun q251 => ?_) (fun q252 => ?_)
    · have q251 : 2147483668 ≤ 2147483655 := q251
      exfalso; omega
    have q252 : ¬ (2147483668 ≤ 2147483655) := q252
    refine x_aload (np := 68) (x := 0) (by decide +kernel) rfl (x_nc_le (by decide)) ?_
    have q253 : h247 75 5 = 79 := by have z := jB (e := 5) 0 j248 rg_75_5_0_1 (by decide) (by decide); omega
    refine x_getR (np := 71) (x := 709) (f := 5) (q := 79) (by decide +kernel) (by decide) (by decide +kernel) q253 ?_
    refine x_aload (np := 72) (x := 0) (by decide +kernel) rfl (x_nc_le (by decide)) ?_
    have q254 : h247 75 6 = h211 75 6 := by rw [← e249]; exact x_up_k (by decide)
    have q255 : h211 75 6 = h177 75 6 := by rw [← e213]; exact x_up_k (by decide)
    have q256 : h177 75 6 = h145 75 6 := by rw [← e179]; exact x_up_k (by decide)
    have q257 : h145 75 6 = h114 75 6 := by rw [← e147]; exact x_up_k (by decide)
    have q258 : h114 75 6 = h85 75 6 := by rw [← e116]; exact x_up_k (by decide)
    have q259 : h85 75 6 = h58 75 6 := by rw [← e87]; exact x_up_k (by decide)
    have q260 : h58 75 6 = h31 75 6 := by rw [← e60]; exact x_up_k (by decide)
    have q261 : h31 75 6 = h26 75 6 := by rw [← e33]; exact x_up_k (by decide)
    have q262 : h26 75 6 = h21 75 6 := by rw [← e28]; exact x_up_k (by decide)
    have q263 : h21 75 6 = h16 75 6 := by rw [← e23]; exact x_up_k (by decide)
    have q264 : h16 75 6 = h11 75 6 := by rw [← e18]; exact x_up_k (by decide)
    have q265 : h11 75 6 = h1 75 6 := by rw [← e13]; exact x_up_k (by decide)
    have q266 : h1 75 6 = h 75 6 := by rw [← e3]; exact x_up_i (by omega)
    refine x_getC (np := 75) (x := 710) (f := 6) (q := (h 75 6)) (by decide +kernel) (by decide) (by decide +kernel) ((((((((((((q254.trans q255).trans q256).trans q257).trans q258).trans q259).trans q260).trans q261).trans q262).trans q263).trans q264).trans q265).trans q266) (fun l267 => ?_)
    refine x_iload (np := 77) (x := 6) (by decide +kernel) rfl (by decide) ?_
    refine x_iadd (np := 78) (x := 0) (v := (7 + (h 75 6))) (by decide +kernel) l7 (by decide) (by omega) (by omega) ?_
    refine x_aload (np := 79) (x := 0) (by decide +kernel) rfl (x_nc_le (by decide)) ?_
    have q268 : h247 75 12 = 80 := by have z := jB (e := 12) 0 j248 rg_75_12_0_1 (by decide) (by decide); omega
    refine x_getR (np := 82) (x := 716) (f := 12) (q := 80) (by decide +kernel) (by decide) (by decide +kernel) q268 ?_
    refine x_iload (np := 84) (x := 6) (by decide +kernel) rfl (by decide) ?_
    refine x_const (np := 85) (x := 9223372056182128644) (a := 2147483652) (by decide +kernel) (by decide) (by decide) ?_
    refine x_div (np := 86) (i := 7) (j := 4) (by decide +kernel) (by omega) (by decide) (by omega) (by decide) ?_
    show X _ _ _ _ _ _ _ _ [iv_c 2147483649, x_r 80, iv_c (7 + (h 75 6)), x_r 79] _
    have q269 : h247 80 1 = h211 80 1 := by rw [← e249]; exact x_up_k (by decide)
    have q270 : h211 80 1 = h177 80 1 := by rw [← e213]; exact x_up_k (by decide)
    have q271 : h177 80 1 = h145 80 1 := by rw [← e179]; exact x_up_k (by decide)
    have q272 : h145 80 1 = h114 80 1 := by rw [← e147]; exact x_up_k (by decide)
    have q273 : h114 80 1 = h85 80 1 := by rw [← e116]; exact x_up_k (by decide)
    have q274 : h85 80 1 = h58 80 1 := by rw [← e87]; exact x_up_k (by decide)
    have q275 : h58 80 1 = h31 80 1 := by rw [← e60]; exact x_up_k (by decide)
    have q276 : h31 80 1 = h26 80 1 := by rw [← e33]; exact x_up_i (by omega)
    have q277 : h26 80 1 = h21 80 1 := by rw [← e28]; exact x_up_i (by omega)
    have q278 : h21 80 1 = h16 80 1 := by rw [← e23]; exact x_up_i (by omega)
    have q279 : h16 80 1 = a2 := by rw [← e18]; exact x_up_at
    refine x_aldC (np := 87) (x := 0) (n := 5) (i := 1) (q := a2) (by decide +kernel) (by decide +kernel) (by omega) (by omega) (by decide) ((((((((((q269.trans q270).trans q271).trans q272).trans q273).trans q274).trans q275).trans q276).trans q277).trans q278).trans q279) (fun l280 => ?_)
    refine x_const (np := 89) (x := 9223372142081474584) (a := 2147483672) (by decide +kernel) (by decide) (by decide) ?_
    refine x_const (np := 91) (x := 9223372073361997832) (a := 2147483656) (by decide +kernel) (by decide) (by decide) ?_
    refine x_iload (np := 93) (x := 6) (by decide +kernel) rfl (by decide) ?_
    refine x_const (np := 94) (x := 9223372056182128644) (a := 2147483652) (by decide +kernel) (by decide) (by decide) ?_
    refine x_rem (np := 95) (i := 7) (j := 4) (by decide +kernel) (by omega) (by decide) (by omega) (by decide) ?_
    show X _ _ _ _ _ _ _ _ [iv_c 2147483651, iv_c 2147483656, iv_c 2147483672, iv_c a2, iv_c (7 + (h 75 6)), x_r 79] _
    refine x_imul (np := 96) (x := 0) (i := 8) (j := 3) (v := 2147483672) (by decide +kernel) (by omega) (by omega) (by omega) (by omega) (by decide) (by decide) ?_
    refine x_isub (np := 97) (x := 0) (v := 2147483648) (by decide +kernel) (by decide) (by decide) (by omega) (by omega) ?_
    refine x_shrE (np := 98) (by decide +kernel) la2 (by decide) (fun l282 => ?_)
    refine x_b8 (by rw [tb_b165]; decide +kernel) l282 (fun l283 l284 => ?_)
    refine x_ast (np := 100) (x := 0) (kd := 2) (n := 400) (i := (7 + u56)) (by decide +kernel) (Or.inr rfl) (by decide +kernel) (by omega) (by omega) (by decide) (by omega) (fun _ => by omega) ?_
    have j286 := jU (e := (7 + u56)) (v := (b8 (bsh a2 2147483648))) (7 + u56) j248 rg_79_0_1_400 (by omega) (by omega) (by omega)
    have f288 := jF (e := (7 + u56)) (v := (b8 (bsh a2 2147483648))) (7 + u56) f250 rg_79_0_1_400 (by omega) (by omega) (by decide)
    generalize e287 : x_up h247 79 (7 + u56) (b8 (bsh a2 2147483648)) = h285 at j286 f288 ⊢
    refine x_iinc (np := 103) (i := 6) (j := 2147483649) (v := 2147483656) (lo' := [x_r 75, iv_c a1, iv_c a2, iv_c a3, iv_c a4, iv_c a5, iv_c 2147483656]) (by decide +kernel) (by decide) (by decide) rfl (by decide) (by omega) (by omega) rfl ?_
    refine x_goto (np := 106) (x := 60) (by decide +kernel) ?_
    refine x_iload (np := 62) (x := 6) (by decide +kernel) rfl (by decide) ?_
    refine x_const (np := 64) (x := 9223372124901605396) (a := 2147483668) (by decide +kernel) (by decide) (by decide) ?_
    refine x_icmp (k := 3) (tg := 106) (np := 67) (by decide +kernel) (by decide) (by decide) (by decide) (fun q289 => ?_) (fun q290 => ?_)
    · have q289 : 2147483668 ≤ 2147483656 := q289
      exfalso; omega
    have q290 : ¬ (2147483668 ≤ 2147483656) := q290
    refine x_aload (np := 68) (x := 0) (by decide +kernel) rfl (x_nc_le (by decide)) ?_
    have q291 : h285 75 5 = 79 := by have z := jB (e := 5) 0 j286 rg_75_5_0_1 (by decide) (by decide); omega
    refine x_getR (np := 71) (x := 709) (f := 5) (q := 79) (by decide +kernel) (by decide) (by decide +kernel) q291 ?_
    refine x_aload (np := 72) (x := 0) (by decide +kernel) rfl (x_nc_le (by decide)) ?_
    have q292 : h285 75 6 = h247 75 6 := by rw [← e287]; exact x_up_k (by decide)
    have q293 : h247 75 6 = h211 75 6 := by rw [← e249]; exact x_up_k (by decide)
    have q294 : h211 75 6 = h177 75 6 := by rw [← e213]; exact x_up_k (by decide)
    have q295 : h177 75 6 = h145 75 6 := by rw [← e179]; exact x_up_k (by decide)
    have q296 : h145 75 6 = h114 75 6 := by rw [← e147]; exact x_up_k (by decide)
    have q297 : h114 75 6 = h85 75 6 := by rw [← e116]; exact x_up_k (by decide)
    have q298 : h85 75 6 = h58 75 6 := by rw [← e87]; exact x_up_k (by decide)
    have q299 : h58 75 6 = h31 75 6 := by rw [← e60]; exact x_up_k (by decide)
    have q300 : h31 75 6 = h26 75 6 := by rw [← e33]; exact x_up_k (by decide)
    have q301 : h26 75 6 = h21 75 6 := by rw [← e28]; exact x_up_k (by decide)
    have q302 : h21 75 6 = h16 75 6 := by rw [← e23]; exact x_up_k (by decide)
    have q303 : h16 75 6 = h11 75 6 := by rw [← e18]; exact x_up_k (by decide)
    have q304 : h11 75 6 = h1 75 6 := by rw [← e13]; exact x_up_k (by decide)
    have q305 : h1 75 6 = h 75 6 := by rw [← e3]; exact x_up_i (by omega)
    refine x_getC (np := 75) (x := 710) (f := 6) (q := (h 75 6)) (by decide +kernel) (by decide) (by decide +kernel) (((((((((((((q292.trans q293).trans q294).trans q295).trans q296).trans q297).trans q298).trans q299).trans q300).trans q301).trans q302).trans q303).trans q304).trans q305) (fun l306 => ?_)
    refine x_iload (np := 77) (x := 6) (by decide +kernel) rfl (by decide) ?_
    refine x_iadd (np := 78) (x := 0) (v := (8 + (h 75 6))) (by decide +kernel) l7 (by decide) (by omega) (by omega) ?_
    refine x_aload (np := 79) (x := 0) (by decide +kernel) rfl (x_nc_le (by decide)) ?_
    have q307 : h285 75 12 = 80 := by have z := jB (e := 12) 0 j286 rg_75_12_0_1 (by decide) (by decide); omega
    refine x_getR (np := 82) (x := 716) (f := 12) (q := 80) (by decide +kernel) (by decide) (by decide +kernel) q307 ?_
    refine x_iload (np := 84) (x := 6) (by decide +kernel) rfl (by decide) ?_
    refine x_const (np := 85) (x := 9223372056182128644) (a := 2147483652) (by decide +kernel) (by decide) (by decide) ?_
    refine x_div (np := 86) (i := 8) (j := 4) (by decide +kernel) (by omega) (by decide) (by omega) (by decide) ?_
    show X _ _ _ _ _ _ _ _ [iv_c 2147483650, x_r 80, iv_c (8 + (h 75 6)), x_r 79] _
    have q308 : h285 80 2 = h247 80 2 := by rw [← e287]; exact x_up_k (by decide)
    have q309 : h247 80 2 = h211 80 2 := by rw [← e249]; exact x_up_k (by decide)
    have q310 : h211 80 2 = h177 80 2 := by rw [← e213]; exact x_up_k (by decide)
    have q311 : h177 80 2 = h145 80 2 := by rw [← e179]; exact x_up_k (by decide)
    have q312 : h145 80 2 = h114 80 2 := by rw [← e147]; exact x_up_k (by decide)
    have q313 : h114 80 2 = h85 80 2 := by rw [← e116]; exact x_up_k (by decide)
    have q314 : h85 80 2 = h58 80 2 := by rw [← e87]; exact x_up_k (by decide)
    have q315 : h58 80 2 = h31 80 2 := by rw [← e60]; exact x_up_k (by decide)
    have q316 : h31 80 2 = h26 80 2 := by rw [← e33]; exact x_up_i (by omega)
    have q317 : h26 80 2 = h21 80 2 := by rw [← e28]; exact x_up_i (by omega)
    have q318 : h21 80 2 = a3 := by rw [← e23]; exact x_up_at
    refine x_aldC (np := 87) (x := 0) (n := 5) (i := 2) (q := a3) (by decide +kernel) (by decide +kernel) (by omega) (by omega) (by decide) ((((((((((q308.trans q309).trans q310).trans q311).trans q312).trans q313).trans q314).trans q315).trans q316).trans q317).trans q318) (fun l319 => ?_)
    refine x_const (np := 89) (x := 9223372142081474584) (a := 2147483672) (by decide +kernel) (by decide) (by decide) ?_
    refine x_const (np := 91) (x := 9223372073361997832) (a := 2147483656) (by decide +kernel) (by decide) (by decide) ?_
    refine x_iload (np := 93) (x := 6) (by decide +kernel) rfl (by decide) ?_
    refine x_const (np := 94) (x := 9223372056182128644) (a := 2147483652) (by decide +kernel) (by decide) (by decide) ?_
    refine x_rem (np := 95) (i := 8) (j := 4) (by decide +kernel) (by omega) (by decide) (by omega) (by decide) ?_
    show X _ _ _ _ _ _ _ _ [iv_c 2147483648, iv_c 2147483656, iv_c 2147483672, iv_c a3, iv_c (8 + (h 75 6)), x_r 79] _
    refine x_imul (np := 96) (x := 0) (i := 8) (j := 0) (v := 2147483648) (by decide +kernel) (by omega) (by omega) (by omega) (by omega) (by decide) (by decide) ?_
    refine x_isub (np := 97) (x := 0) (v := 2147483672) (by decide +kernel) (by decide) (by decide) (by omega) (by omega) ?_
    refine x_shrE (np := 98) (by decide +kernel) la3 (by decide) (fun l321 => ?_)
    refine x_b8 (by rw [tb_b165]; decide +kernel) l321 (fun l322 l323 => ?_)
    refine x_ast (np := 100) (x := 0) (kd := 2) (n := 400) (i := (8 + u56)) (by decide +kernel) (Or.inr rfl) (by decide +kernel) (by omega) (by omega) (by decide) (by omega) (fun _ => by omega) ?_
    have j325 := jU (e := (8 + u56)) (v := (b8 (bsh a3 2147483672))) (8 + u56) j286 rg_79_0_1_400 (by omega) (by omega) (by omega)
    have f327 := jF (e := (8 + u56)) (v := (b8 (bsh a3 2147483672))) (8 + u56) f288 rg_79_0_1_400 (by omega) (by omega) (by decide)
    generalize e326 : x_up h285 79 (8 + u56) (b8 (bsh a3 2147483672)) = h324 at j325 f327 ⊢
    refine x_iinc (np := 103) (i := 6) (j := 2147483649) (v := 2147483657) (lo' := [x_r 75, iv_c a1, iv_c a2, iv_c a3, iv_c a4, iv_c a5, iv_c 2147483657]) (by decide +kernel) (by decide) (by decide) rfl (by decide) (by omega) (by omega) rfl ?_
    refine x_goto (np := 106) (x := 60) (by decide +kernel) ?_
    refine x_iload (np := 62) (x := 6) (by decide +kernel) rfl (by decide) ?_
    refine x_const (np := 64) (x := 9223372124901605396) (a := 2147483668) (by decide +kernel) (by decide) (by decide) ?_
    refine x_icmp (k := 3) (tg := 106) (np := 67) (by decide +kernel) (by decide) (by decide) (by decide) (fun q328 => ?_) (fun q329 => ?_)
    · have q328 : 2147483668 ≤ 2147483657 := q328
      exfalso; omega
    have q329 : ¬ (2147483668 ≤ 2147483657) := q329
    refine x_aload (np := 68) (x := 0) (by decide +kernel) rfl (x_nc_le (by decide)) ?_
    have q330 : h324 75 5 = 79 := by have z := jB (e := 5) 0 j325 rg_75_5_0_1 (by decide) (by decide); omega
    refine x_getR (np := 71) (x := 709) (f := 5) (q := 79) (by decide +kernel) (by decide) (by decide +kernel) q330 ?_
    refine x_aload (np := 72) (x := 0) (by decide +kernel) rfl (x_nc_le (by decide)) ?_
    have q331 : h324 75 6 = h285 75 6 := by rw [← e326]; exact x_up_k (by decide)
    have q332 : h285 75 6 = h247 75 6 := by rw [← e287]; exact x_up_k (by decide)
    have q333 : h247 75 6 = h211 75 6 := by rw [← e249]; exact x_up_k (by decide)
    have q334 : h211 75 6 = h177 75 6 := by rw [← e213]; exact x_up_k (by decide)
    have q335 : h177 75 6 = h145 75 6 := by rw [← e179]; exact x_up_k (by decide)
    have q336 : h145 75 6 = h114 75 6 := by rw [← e147]; exact x_up_k (by decide)
    have q337 : h114 75 6 = h85 75 6 := by rw [← e116]; exact x_up_k (by decide)
    have q338 : h85 75 6 = h58 75 6 := by rw [← e87]; exact x_up_k (by decide)
    have q339 : h58 75 6 = h31 75 6 := by rw [← e60]; exact x_up_k (by decide)
    have q340 : h31 75 6 = h26 75 6 := by rw [← e33]; exact x_up_k (by decide)
    have q341 : h26 75 6 = h21 75 6 := by rw [← e28]; exact x_up_k (by decide)
    have q342 : h21 75 6 = h16 75 6 := by rw [← e23]; exact x_up_k (by decide)
    have q343 : h16 75 6 = h11 75 6 := by rw [← e18]; exact x_up_k (by decide)
    have q344 : h11 75 6 = h1 75 6 := by rw [← e13]; exact x_up_k (by decide)
    have q345 : h1 75 6 = h 75 6 := by rw [← e3]; exact x_up_i (by omega)
    refine x_getC (np := 75) (x := 710) (f := 6) (q := (h 75 6)) (by decide +kernel) (by decide) (by decide +kernel) ((((((((((((((q331.trans q332).trans q333).trans q334).trans q335).trans q336).trans q337).trans q338).trans q339).trans q340).trans q341).trans q342).trans q343).trans q344).trans q345) (fun l346 => ?_)
    refine x_iload (np := 77) (x := 6) (by decide +kernel) rfl (by decide) ?_
    refine x_iadd (np := 78) (x := 0) (v := (9 + (h 75 6))) (by decide +kernel) l7 (by decide) (by omega) (by omega) ?_
    refine x_aload (np := 79) (x := 0) (by decide +kernel) rfl (x_nc_le (by decide)) ?_
    have q347 : h324 75 12 = 80 := by have z := jB (e := 12) 0 j325 rg_75_12_0_1 (by decide) (by decide); omega
    refine x_getR (np := 82) (x := 716) (f := 12) (q := 80) (by decide +kernel) (by decide) (by decide +kernel) q347 ?_
    refine x_iload (np := 84) (x := 6) (by decide +kernel) rfl (by decide) ?_
    refine x_const (np := 85) (x := 9223372056182128644) (a := 2147483652) (by decide +kernel) (by decide) (by decide) ?_
    refine x_div (np := 86) (i := 9) (j := 4) (by decide +kernel) (by omega) (by decide) (by omega) (by decide) ?_
    show X _ _ _ _ _ _ _ _ [iv_c 2147483650, x_r 80, iv_c (9 + (h 75 6)), x_r 79] _
    have q348 : h324 80 2 = h285 80 2 := by rw [← e326]; exact x_up_k (by decide)
    have q349 : h285 80 2 = h247 80 2 := by rw [← e287]; exact x_up_k (by decide)
    have q350 : h247 80 2 = h211 80 2 := by rw [← e249]; exact x_up_k (by decide)
    have q351 : h211 80 2 = h177 80 2 := by rw [← e213]; exact x_up_k (by decide)
    have q352 : h177 80 2 = h145 80 2 := by rw [← e179]; exact x_up_k (by decide)
    have q353 : h145 80 2 = h114 80 2 := by rw [← e147]; exact x_up_k (by decide)
    have q354 : h114 80 2 = h85 80 2 := by rw [← e116]; exact x_up_k (by decide)
    have q355 : h85 80 2 = h58 80 2 := by rw [← e87]; exact x_up_k (by decide)
    have q356 : h58 80 2 = h31 80 2 := by rw [← e60]; exact x_up_k (by decide)
    have q357 : h31 80 2 = h26 80 2 := by rw [← e33]; exact x_up_i (by omega)
    have q358 : h26 80 2 = h21 80 2 := by rw [← e28]; exact x_up_i (by omega)
    have q359 : h21 80 2 = a3 := by rw [← e23]; exact x_up_at
    refine x_aldC (np := 87) (x := 0) (n := 5) (i := 2) (q := a3) (by decide +kernel) (by decide +kernel) (by omega) (by omega) (by decide) (((((((((((q348.trans q349).trans q350).trans q351).trans q352).trans q353).trans q354).trans q355).trans q356).trans q357).trans q358).trans q359) (fun l360 => ?_)
    refine x_const (np := 89) (x := 9223372142081474584) (a := 2147483672) (by decide +kernel) (by decide) (by decide) ?_
    refine x_const (np := 91) (x := 9223372073361997832) (a := 2147483656) (by decide +kernel) (by decide) (by decide) ?_
    refine x_iload (np := 93) (x := 6) (by decide +kernel) rfl (by decide) ?_
    refine x_const (np := 94) (x := 9223372056182128644) (a := 2147483652) (by decide +kernel) (by decide) (by decide) ?_
    refine x_rem (np := 95) (i := 9) (j := 4) (by decide +kernel) (by omega) (by decide) (by omega) (by decide) ?_
    show X _ _ _ _ _ _ _ _ [iv_c 2147483649, iv_c 2147483656, iv_c 2147483672, iv_c a3, iv_c (9 + (h 75 6)), x_r 79] _
    refine x_imul (np := 96) (x := 0) (i := 8) (j := 1) (v := 2147483656) (by decide +kernel) (by omega) (by omega) (by omega) (by omega) (by decide) (by decide) ?_
    refine x_isub (np := 97) (x := 0) (v := 2147483664) (by decide +kernel) (by decide) (by decide) (by omega) (by omega) ?_
    refine x_shrE (np := 98) (by decide +kernel) la3 (by decide) (fun l362 => ?_)
    refine x_b8 (by rw [tb_b165]; decide +kernel) l362 (fun l363 l364 => ?_)
    refine x_ast (np := 100) (x := 0) (kd := 2) (n := 400) (i := (9 + u56)) (by decide +kernel) (Or.inr rfl) (by decide +kernel) (by omega) (by omega) (by decide) (by omega) (fun _ => by omega) ?_
    have j366 := jU (e := (9 + u56)) (v := (b8 (bsh a3 2147483664))) (9 + u56) j325 rg_79_0_1_400 (by omega) (by omega) (by omega)
    have f368 := jF (e := (9 + u56)) (v := (b8 (bsh a3 2147483664))) (9 + u56) f327 rg_79_0_1_400 (by omega) (by omega) (by decide)
    generalize e367 : x_up h324 79 (9 + u56) (b8 (bsh a3 2147483664)) = h365 at j366 f368 ⊢
    refine x_iinc (np := 103) (i := 6) (j := 2147483649) (v := 2147483658) (lo' := [x_r 75, iv_c a1, iv_c a2, iv_c a3, iv_c a4, iv_c a5, iv_c 2147483658]) (by decide +kernel) (by decide) (by decide) rfl (by decide) (by omega) (by omega) rfl ?_
    refine x_goto (np := 106) (x := 60) (by decide +kernel) ?_
    refine x_iload (np := 62) (x := 6) (by decide +kernel) rfl (by decide) ?_
    refine x_const (np := 64) (x := 9223372124901605396) (a := 2147483668) (by decide +kernel) (by decide) (by decide) ?_
    refine x_icmp (k := 3) (tg := 106) (np := 67) (by decide +kernel) (by decide) (by decide) (by decide) (fun q369 => ?_) (fun q370 => ?_)
    · have q369 : 2147483668 ≤ 2147483658 := q369
      exfalso; omega
    have q370 : ¬ (2147483668 ≤ 2147483658) := q370
    refine x_aload (np := 68) (x := 0) (by decide +kernel) rfl (x_nc_le (by decide)) ?_
    have q371 : h365 75 5 = 79 := by have z := jB (e := 5) 0 j366 rg_75_5_0_1 (by decide) (by decide); omega
    refine x_getR (np := 71) (x := 709) (f := 5) (q := 79) (by decide +kernel) (by decide) (by decide +kernel) q371 ?_
    refine x_aload (np := 72) (x := 0) (by decide +kernel) rfl (x_nc_le (by decide)) ?_
    have q372 : h365 75 6 = h324 75 6 := by rw [← e367]; exact x_up_k (by decide)
    have q373 : h324 75 6 = h285 75 6 := by rw [← e326]; exact x_up_k (by decide)
    have q374 : h285 75 6 = h247 75 6 := by rw [← e287]; exact x_up_k (by decide)
    have q375 : h247 75 6 = h211 75 6 := by rw [← e249]; exact x_up_k (by decide)
    have q376 : h211 75 6 = h177 75 6 := by rw [← e213]; exact x_up_k (by decide)
    have q377 : h177 75 6 = h145 75 6 := by rw [← e179]; exact x_up_k (by decide)
    have q378 : h145 75 6 = h114 75 6 := by rw [← e147]; exact x_up_k (by decide)
    have q379 : h114 75 6 = h85 75 6 := by rw [← e116]; exact x_up_k (by decide)
    have q380 : h85 75 6 = h58 75 6 := by rw [← e87]; exact x_up_k (by decide)
    have q381 : h58 75 6 = h31 75 6 := by rw [← e60]; exact x_up_k (by decide)
    have q382 : h31 75 6 = h26 75 6 := by rw [← e33]; exact x_up_k (by decide)
    have q383 : h26 75 6 = h21 75 6 := by rw [← e28]; exact x_up_k (by decide)
    have q384 : h21 75 6 = h16 75 6 := by rw [← e23]; exact x_up_k (by decide)
    have q385 : h16 75 6 = h11 75 6 := by rw [← e18]; exact x_up_k (by decide)
    have q386 : h11 75 6 = h1 75 6 := by rw [← e13]; exact x_up_k (by decide)
    have q387 : h1 75 6 = h 75 6 := by rw [← e3]; exact x_up_i (by omega)
    refine x_getC (np := 75) (x := 710) (f := 6) (q := (h 75 6)) (by decide +kernel) (by decide) (by decide +kernel) (((((((((((((((q372.trans q373).trans q374).trans q375).trans q376).trans q377).trans q378).trans q379).trans q380).trans q381).trans q382).trans q383).trans q384).trans q385).trans q386).trans q387) (fun l388 => ?_)
    refine x_iload (np := 77) (x := 6) (by decide +kernel) rfl (by decide) ?_
    refine x_iadd (np := 78) (x := 0) (v := (10 + (h 75 6))) (by decide +kernel) l7 (by decide) (by omega) (by omega) ?_
    refine x_aload (np := 79) (x := 0) (by decide +kernel) rfl (x_nc_le (by decide)) ?_
    have q389 : h365 75 12 = 80 := by have z := jB (e := 12) 0 j366 rg_75_12_0_1 (by decide) (by decide); omega
    refine x_getR (np := 82) (x := 716) (f := 12) (q := 80) (by decide +kernel) (by decide) (by decide +kernel) q389 ?_
    refine x_iload (np := 84) (x := 6) (by decide +kernel) rfl (by decide) ?_
    refine x_const (np := 85) (x := 9223372056182128644) (a := 2147483652) (by decide +kernel) (by decide) (by decide) ?_
    refine x_div (np := 86) (i := 10) (j := 4) (by decide +kernel) (by omega) (by decide) (by omega) (by decide) ?_
    show X _ _ _ _ _ _ _ _ [iv_c 2147483650, x_r 80, iv_c (10 + (h 75 6)), x_r 79] _
    have q390 : h365 80 2 = h324 80 2 := by rw [← e367]; exact x_up_k (by decide)
    have q391 : h324 80 2 = h285 80 2 := by rw [← e326]; exact x_up_k (by decide)
    have q392 : h285 80 2 = h247 80 2 := by rw [← e287]; exact x_up_k (by decide)
    have q393 : h247 80 2 = h211 80 2 := by rw [← e249]; exact x_up_k (by decide)
    have q394 : h211 80 2 = h177 80 2 := by rw [← e213]; exact x_up_k (by decide)
    have q395 : h177 80 2 = h145 80 2 := by rw [← e179]; exact x_up_k (by decide)
    have q396 : h145 80 2 = h114 80 2 := by rw [← e147]; exact x_up_k (by decide)
    have q397 : h114 80 2 = h85 80 2 := by rw [← e116]; exact x_up_k (by decide)
    have q398 : h85 80 2 = h58 80 2 := by rw [← e87]; exact x_up_k (by decide)
    have q399 : h58 80 2 = h31 80 2 := by rw [← e60]; exact x_up_k (by decide)
    have q400 : h31 80 2 = h26 80 2 := by rw [← e33]; exact x_up_i (by omega)
    have q401 : h26 80 2 = h21 80 2 := by rw [← e28]; exact x_up_i (by omega)
    have q402 : h21 80 2 = a3 := by rw [← e23]; exact x_up_at
    refine x_aldC (np := 87) (x := 0) (n := 5) (i := 2) (q := a3) (by decide +kernel) (by decide +kernel) (by omega) (by omega) (by decide) ((((((((((((q390.trans q391).trans q392).trans q393).trans q394).trans q395).trans q396).trans q397).trans q398).trans q399).trans q400).trans q401).trans q402) (fun l403 => ?_)
    refine x_const (np := 89) (x := 9223372142081474584) (a := 2147483672) (by decide +kernel) (by decide) (by decide) ?_
    refine x_const (np := 91) (x := 9223372073361997832) (a := 2147483656) (by decide +kernel) (by decide) (by decide) ?_
    refine x_iload (np := 93) (x := 6) (by decide +kernel) rfl (by decide) ?_
    refine x_const (np := 94) (x := 9223372056182128644) (a := 2147483652) (by decide +kernel) (by decide) (by decide) ?_
    refine x_rem (np := 95) (i := 10) (j := 4) (by decide +kernel) (by omega) (by decide) (by omega) (by decide) ?_
    show X _ _ _ _ _ _ _ _ [iv_c 2147483650, iv_c 2147483656, iv_c 2147483672, iv_c a3, iv_c (10 + (h 75 6)), x_r 79] _
    refine x_imul (np := 96) (x := 0) (i := 8) (j := 2) (v := 2147483664) (by decide +kernel) (by omega) (by omega) (by omega) (by omega) (by decide) (by decide) ?_
    refine x_isub (np := 97) (x := 0) (v := 2147483656) (by decide +kernel) (by decide) (by decide) (by omega) (by omega) ?_
    refine x_shrE (np := 98) (by decide +kernel) la3 (by decide) (fun l405 => ?_)
    refine x_b8 (by rw [tb_b165]; decide +kernel) l405 (fun l406 l407 => ?_)
    refine x_ast (np := 100) (x := 0) (kd := 2) (n := 400) (i := (10 + u56)) (by decide +kernel) (Or.inr rfl) (by decide +kernel) (by omega) (by omega) (by decide) (by omega) (fun _ => by omega) ?_
    have j409 := jU (e := (10 + u56)) (v := (b8 (bsh a3 2147483656))) (10 + u56) j366 rg_79_0_1_400 (by omega) (by omega) (by omega)
    have f411 := jF (e := (10 + u56)) (v := (b8 (bsh a3 2147483656))) (10 + u56) f368 rg_79_0_1_400 (by omega) (by omega) (by decide)
    generalize e410 : x_up h365 79 (10 + u56) (b8 (bsh a3 2147483656)) = h408 at j409 f411 ⊢
    refine x_iinc (np := 103) (i := 6) (j := 2147483649) (v := 2147483659) (lo' := [x_r 75, iv_c a1, iv_c a2, iv_c a3, iv_c a4, iv_c a5, iv_c 2147483659]) (by decide +kernel) (by decide) (by decide) rfl (by decide) (by omega) (by omega) rfl ?_
    refine x_goto (np := 106) (x := 60) (by decide +kernel) ?_
    refine x_iload (np := 62) (x := 6) (by decide +kernel) rfl (by decide) ?_
    refine x_const (np := 64) (x := 9223372124901605396) (a := 2147483668) (by decide +kernel) (by decide) (by decide) ?_
    refine x_icmp (k := 3) (tg := 106) (np := 67) (by decide +kernel) (by decide) (by decide) (by decide) (fun q412 => ?_) (fun q413 => ?_)
    · have q412 : 2147483668 ≤ 2147483659 := q412
      exfalso; omega
    have q413 : ¬ (2147483668 ≤ 2147483659) := q413
    refine x_aload (np := 68) (x := 0) (by decide +kernel) rfl (x_nc_le (by decide)) ?_
    have q414 : h408 75 5 = 79 := by have z := jB (e := 5) 0 j409 rg_75_5_0_1 (by decide) (by decide); omega
    refine x_getR (np := 71) (x := 709) (f := 5) (q := 79) (by decide +kernel) (by decide) (by decide +kernel) q414 ?_
    refine x_aload (np := 72) (x := 0) (by decide +kernel) rfl (x_nc_le (by decide)) ?_
    have q415 : h408 75 6 = h365 75 6 := by rw [← e410]; exact x_up_k (by decide)
    have q416 : h365 75 6 = h324 75 6 := by rw [← e367]; exact x_up_k (by decide)
    have q417 : h324 75 6 = h285 75 6 := by rw [← e326]; exact x_up_k (by decide)
    have q418 : h285 75 6 = h247 75 6 := by rw [← e287]; exact x_up_k (by decide)
    have q419 : h247 75 6 = h211 75 6 := by rw [← e249]; exact x_up_k (by decide)
    have q420 : h211 75 6 = h177 75 6 := by rw [← e213]; exact x_up_k (by decide)
    have q421 : h177 75 6 = h145 75 6 := by rw [← e179]; exact x_up_k (by decide)
    have q422 : h145 75 6 = h114 75 6 := by rw [← e147]; exact x_up_k (by decide)
    have q423 : h114 75 6 = h85 75 6 := by rw [← e116]; exact x_up_k (by decide)
    have q424 : h85 75 6 = h58 75 6 := by rw [← e87]; exact x_up_k (by decide)
    have q425 : h58 75 6 = h31 75 6 := by rw [← e60]; exact x_up_k (by decide)
    have q426 : h31 75 6 = h26 75 6 := by rw [← e33]; exact x_up_k (by decide)
    have q427 : h26 75 6 = h21 75 6 := by rw [← e28]; exact x_up_k (by decide)
    have q428 : h21 75 6 = h16 75 6 := by rw [← e23]; exact x_up_k (by decide)
    have q429 : h16 75 6 = h11 75 6 := by rw [← e18]; exact x_up_k (by decide)
    have q430 : h11 75 6 = h1 75 6 := by rw [← e13]; exact x_up_k (by decide)
    have q431 : h1 75 6 = h 75 6 := by rw [← e3]; exact x_up_i (by omega)
    refine x_getC (np := 75) (x := 710) (f := 6) (q := (h 75 6)) (by decide +kernel) (by decide) (by decide +kernel) ((((((((((((((((q415.trans q416).trans q417).trans q418).trans q419).trans q420).trans q421).trans q422).trans q423).trans q424).trans q425).trans q426).trans q427).trans q428).trans q429).trans q430).trans q431) (fun l432 => ?_)
    refine x_iload (np := 77) (x := 6) (by decide +kernel) rfl (by decide) ?_
    refine x_iadd (np := 78) (x := 0) (v := (11 + (h 75 6))) (by decide +kernel) l7 (by decide) (by omega) (by omega) ?_
    refine x_aload (np := 79) (x := 0) (by decide +kernel) rfl (x_nc_le (by decide)) ?_
    have q433 : h408 75 12 = 80 := by have z := jB (e := 12) 0 j409 rg_75_12_0_1 (by decide) (by decide); omega
    refine x_getR (np := 82) (x := 716) (f := 12) (q := 80) (by decide +kernel) (by decide) (by decide +kernel) q433 ?_
    refine x_iload (np := 84) (x := 6) (by decide +kernel) rfl (by decide) ?_
    refine x_const (np := 85) (x := 9223372056182128644) (a := 2147483652) (by decide +kernel) (by decide) (by decide) ?_
    refine x_div (np := 86) (i := 11) (j := 4) (by decide +kernel) (by omega) (by decide) (by omega) (by decide) ?_
    show X _ _ _ _ _ _ _ _ [iv_c 2147483650, x_r 80, iv_c (11 + (h 75 6)), x_r 79] _
    have q434 : h408 80 2 = h365 80 2 := by rw [← e410]; exact x_up_k (by decide)
    have q435 : h365 80 2 = h324 80 2 := by rw [← e367]; exact x_up_k (by decide)
    have q436 : h324 80 2 = h285 80 2 := by rw [← e326]; exact x_up_k (by decide)
    have q437 : h285 80 2 = h247 80 2 := by rw [← e287]; exact x_up_k (by decide)
    have q438 : h247 80 2 = h211 80 2 := by rw [← e249]; exact x_up_k (by decide)
    have q439 : h211 80 2 = h177 80 2 := by rw [← e213]; exact x_up_k (by decide)
    have q440 : h177 80 2 = h145 80 2 := by rw [← e179]; exact x_up_k (by decide)
    have q441 : h145 80 2 = h114 80 2 := by rw [← e147]; exact x_up_k (by decide)
    have q442 : h114 80 2 = h85 80 2 := by rw [← e116]; exact x_up_k (by decide)
    have q443 : h85 80 2 = h58 80 2 := by rw [← e87]; exact x_up_k (by decide)
    have q444 : h58 80 2 = h31 80 2 := by rw [← e60]; exact x_up_k (by decide)
    have q445 : h31 80 2 = h26 80 2 := by rw [← e33]; exact x_up_i (by omega)
    have q446 : h26 80 2 = h21 80 2 := by rw [← e28]; exact x_up_i (by omega)
    have q447 : h21 80 2 = a3 := by rw [← e23]; exact x_up_at
    refine x_aldC (np := 87) (x := 0) (n := 5) (i := 2) (q := a3) (by decide +kernel) (by decide +kernel) (by omega) (by omega) (by decide) (((((((((((((q434.trans q435).trans q436).trans q437).trans q438).trans q439).trans q440).trans q441).trans q442).trans q443).trans q444).trans q445).trans q446).trans q447) (fun l448 => ?_)
    refine x_const (np := 89) (x := 9223372142081474584) (a := 2147483672) (by decide +kernel) (by decide) (by decide) ?_
    refine x_const (np := 91) (x := 9223372073361997832) (a := 2147483656) (by decide +kernel) (by decide) (by decide) ?_
    refine x_iload (np := 93) (x := 6) (by decide +kernel) rfl (by decide) ?_
    refine x_const (np := 94) (x := 9223372056182128644) (a := 2147483652) (by decide +kernel) (by decide) (by decide) ?_
    refine x_rem (np := 95) (i := 11) (j := 4) (by decide +kernel) (by omega) (by decide) (by omega) (by decide) ?_
    show X _ _ _ _ _ _ _ _ [iv_c 2147483651, iv_c 2147483656, iv_c 2147483672, iv_c a3, iv_c (11 + (h 75 6)), x_r 79] _
    refine x_imul (np := 96) (x := 0) (i := 8) (j := 3) (v := 2147483672) (by decide +kernel) (by omega) (by omega) (by omega) (by omega) (by decide) (by decide) ?_
    refine x_isub (np := 97) (x := 0) (v := 2147483648) (by decide +kernel) (by decide) (by decide) (by omega) (by omega) ?_
    refine x_shrE (np := 98) (by decide +kernel) la3 (by decide) (fun l450 => ?_)
    refine x_b8 (by rw [tb_b165]; decide +kernel) l450 (fun l451 l452 => ?_)
    refine x_ast (np := 100) (x := 0) (kd := 2) (n := 400) (i := (11 + u56)) (by decide +kernel) (Or.inr rfl) (by decide +kernel) (by omega) (by omega) (by decide) (by omega) (fun _ => by omega) ?_
    have j454 := jU (e := (11 + u56)) (v := (b8 (bsh a3 2147483648))) (11 + u56) j409 rg_79_0_1_400 (by omega) (by omega) (by omega)
    have f456 := jF (e := (11 + u56)) (v := (b8 (bsh a3 2147483648))) (11 + u56) f411 rg_79_0_1_400 (by omega) (by omega) (by decide)
    generalize e455 : x_up h408 79 (11 + u56) (b8 (bsh a3 2147483648)) = h453 at j454 f456 ⊢
    refine x_iinc (np := 103) (i := 6) (j := 2147483649) (v := 2147483660) (lo' := [x_r 75, iv_c a1, iv_c a2, iv_c a3, iv_c a4, iv_c a5, iv_c 2147483660]) (by decide +kernel) (by decide) (by decide) rfl (by decide) (by omega) (by omega) rfl ?_
    refine x_goto (np := 106) (x := 60) (by decide +kernel) ?_
    refine x_iload (np := 62) (x := 6) (by decide +kernel) rfl (by decide) ?_
    refine x_const (np := 64) (x := 9223372124901605396) (a := 2147483668) (by decide +kernel) (by decide) (by decide) ?_
    refine x_icmp (k := 3) (tg := 106) (np := 67) (by decide +kernel) (by decide) (by decide) (by decide) (fun q457 => ?_) (fun q458 => ?_)
    · have q457 : 2147483668 ≤ 2147483660 := q457
      exfalso; omega
    have q458 : ¬ (2147483668 ≤ 2147483660) := q458
    refine x_aload (np := 68) (x := 0) (by decide +kernel) rfl (x_nc_le (by decide)) ?_
    have q459 : h453 75 5 = 79 := by have z := jB (e := 5) 0 j454 rg_75_5_0_1 (by decide) (by decide); omega
    refine x_getR (np := 71) (x := 709) (f := 5) (q := 79) (by decide +kernel) (by decide) (by decide +kernel) q459 ?_
    refine x_aload (np := 72) (x := 0) (by decide +kernel) rfl (x_nc_le (by decide)) ?_
    have q460 : h453 75 6 = h408 75 6 := by rw [← e455]; exact x_up_k (by decide)
    have q461 : h408 75 6 = h365 75 6 := by rw [← e410]; exact x_up_k (by decide)
    have q462 : h365 75 6 = h324 75 6 := by rw [← e367]; exact x_up_k (by decide)
    have q463 : h324 75 6 = h285 75 6 := by rw [← e326]; exact x_up_k (by decide)
    have q464 : h285 75 6 = h247 75 6 := by rw [← e287]; exact x_up_k (by decide)
    have q465 : h247 75 6 = h211 75 6 := by rw [← e249]; exact x_up_k (by decide)
    have q466 : h211 75 6 = h177 75 6 := by rw [← e213]; exact x_up_k (by decide)
    have q467 : h177 75 6 = h145 75 6 := by rw [← e179]; exact x_up_k (by decide)
    have q468 : h145 75 6 = h114 75 6 := by rw [← e147]; exact x_up_k (by decide)
    have q469 : h114 75 6 = h85 75 6 := by rw [← e116]; exact x_up_k (by decide)
    have q470 : h85 75 6 = h58 75 6 := by rw [← e87]; exact x_up_k (by decide)
    have q471 : h58 75 6 = h31 75 6 := by rw [← e60]; exact x_up_k (by decide)
    have q472 : h31 75 6 = h26 75 6 := by rw [← e33]; exact x_up_k (by decide)
    have q473 : h26 75 6 = h21 75 6 := by rw [← e28]; exact x_up_k (by decide)
    have q474 : h21 75 6 = h16 75 6 := by rw [← e23]; exact x_up_k (by decide)
    have q475 : h16 75 6 = h11 75 6 := by rw [← e18]; exact x_up_k (by decide)
    have q476 : h11 75 6 = h1 75 6 := by rw [← e13]; exact x_up_k (by decide)
    have q477 : h1 75 6 = h 75 6 := by rw [← e3]; exact x_up_i (by omega)
    refine x_getC (np := 75) (x := 710) (f := 6) (q := (h 75 6)) (by decide +kernel) (by decide) (by decide +kernel) (((((((((((((((((q460.trans q461).trans q462).trans q463).trans q464).trans q465).trans q466).trans q467).trans q468).trans q469).trans q470).trans q471).trans q472).trans q473).trans q474).trans q475).trans q476).trans q477) (fun l478 => ?_)
    refine x_iload (np := 77) (x := 6) (by decide +kernel) rfl (by decide) ?_
    refine x_iadd (np := 78) (x := 0) (v := (12 + (h 75 6))) (by decide +kernel) l7 (by decide) (by omega) (by omega) ?_
    refine x_aload (np := 79) (x := 0) (by decide +kernel) rfl (x_nc_le (by decide)) ?_
    have q479 : h453 75 12 = 80 := by have z := jB (e := 12) 0 j454 rg_75_12_0_1 (by decide) (by decide); omega
    refine x_getR (np := 82) (x := 716) (f := 12) (q := 80) (by decide +kernel) (by decide) (by decide +kernel) q479 ?_
    refine x_iload (np := 84) (x := 6) (by decide +kernel) rfl (by decide) ?_
    refine x_const (np := 85) (x := 9223372056182128644) (a := 2147483652) (by decide +kernel) (by decide) (by decide) ?_
    refine x_div (np := 86) (i := 12) (j := 4) (by decide +kernel) (by omega) (by decide) (by omega) (by decide) ?_
    show X _ _ _ _ _ _ _ _ [iv_c 2147483651, x_r 80, iv_c (12 + (h 75 6)), x_r 79] _
    have q480 : h453 80 3 = h408 80 3 := by rw [← e455]; exact x_up_k (by decide)
    have q481 : h408 80 3 = h365 80 3 := by rw [← e410]; exact x_up_k (by decide)
    have q482 : h365 80 3 = h324 80 3 := by rw [← e367]; exact x_up_k (by decide)
    have q483 : h324 80 3 = h285 80 3 := by rw [← e326]; exact x_up_k (by decide)
    have q484 : h285 80 3 = h247 80 3 := by rw [← e287]; exact x_up_k (by decide)
    have q485 : h247 80 3 = h211 80 3 := by rw [← e249]; exact x_up_k (by decide)
    have q486 : h211 80 3 = h177 80 3 := by rw [← e213]; exact x_up_k (by decide)
    have q487 : h177 80 3 = h145 80 3 := by rw [← e179]; exact x_up_k (by decide)
    have q488 : h145 80 3 = h114 80 3 := by rw [← e147]; exact x_up_k (by decide)
    have q489 : h114 80 3 = h85 80 3 := by rw [← e116]; exact x_up_k (by decide)
    have q490 : h85 80 3 = h58 80 3 := by rw [← e87]; exact x_up_k (by decide)
    have q491 : h58 80 3 = h31 80 3 := by rw [← e60]; exact x_up_k (by decide)
    have q492 : h31 80 3 = h26 80 3 := by rw [← e33]; exact x_up_i (by omega)
    have q493 : h26 80 3 = a4 := by rw [← e28]; exact x_up_at
    refine x_aldC (np := 87) (x := 0) (n := 5) (i := 3) (q := a4) (by decide +kernel) (by decide +kernel) (by omega) (by omega) (by decide) (((((((((((((q480.trans q481).trans q482).trans q483).trans q484).trans q485).trans q486).trans q487).trans q488).trans q489).trans q490).trans q491).trans q492).trans q493) (fun l494 => ?_)
    refine x_const (np := 89) (x := 9223372142081474584) (a := 2147483672) (by decide +kernel) (by decide) (by decide) ?_
    refine x_const (np := 91) (x := 9223372073361997832) (a := 2147483656) (by decide +kernel) (by decide) (by decide) ?_
    refine x_iload (np := 93) (x := 6) (by decide +kernel) rfl (by decide) ?_
    refine x_const (np := 94) (x := 9223372056182128644) (a := 2147483652) (by decide +kernel) (by decide) (by decide) ?_
    refine x_rem (np := 95) (i := 12) (j := 4) (by decide +kernel) (by omega) (by decide) (by omega) (by decide) ?_
    show X _ _ _ _ _ _ _ _ [iv_c 2147483648, iv_c 2147483656, iv_c 2147483672, iv_c a4, iv_c (12 + (h 75 6)), x_r 79] _
    refine x_imul (np := 96) (x := 0) (i := 8) (j := 0) (v := 2147483648) (by decide +kernel) (by omega) (by omega) (by omega) (by omega) (by decide) (by decide) ?_
    refine x_isub (np := 97) (x := 0) (v := 2147483672) (by decide +kernel) (by decide) (by decide) (by omega) (by omega) ?_
    refine x_shrE (np := 98) (by decide +kernel) la4 (by decide) (fun l496 => ?_)
    refine x_b8 (by rw [tb_b165]; decide +kernel) l496 (fun l497 l498 => ?_)
    refine x_ast (np := 100) (x := 0) (kd := 2) (n := 400) (i := (12 + u56)) (by decide +kernel) (Or.inr rfl) (by decide +kernel) (by omega) (by omega) (by decide) (by omega) (fun _ => by omega) ?_
    have j500 := jU (e := (12 + u56)) (v := (b8 (bsh a4 2147483672))) (12 + u56) j454 rg_79_0_1_400 (by omega) (by omega) (by omega)
    have f502 := jF (e := (12 + u56)) (v := (b8 (bsh a4 2147483672))) (12 + u56) f456 rg_79_0_1_400 (by omega) (by omega) (by decide)
    generalize e501 : x_up h453 79 (12 + u56) (b8 (bsh a4 2147483672)) = h499 at j500 f502 ⊢
    refine x_iinc (np := 103) (i := 6) (j := 2147483649) (v := 2147483661) (lo' := [x_r 75, iv_c a1, iv_c a2, iv_c a3, iv_c a4, iv_c a5, iv_c 2147483661]) (by decide +kernel) (by decide) (by decide) rfl (by decide) (by omega) (by omega) rfl ?_
    refine x_goto (np := 106) (x := 60) (by decide +kernel) ?_
    refine x_iload (np := 62) (x := 6) (by decide +kernel) rfl (by decide) ?_
    refine x_const (np := 64) (x := 9223372124901605396) (a := 2147483668) (by decide +kernel) (by decide) (by decide) ?_
    refine x_icmp (k := 3) (tg := 106) (np := 67) (by decide +kernel) (by decide) (by decide) (by decide) (fun q503 => ?_) (fun q504 => ?_)
    · have q503 : 2147483668 ≤ 2147483661 := q503
      exfalso; omega
    have q504 : ¬ (2147483668 ≤ 2147483661) := q504
    refine x_aload (np := 68) (x := 0) (by decide +kernel) rfl (x_nc_le (by decide)) ?_
    have q505 : h499 75 5 = 79 := by have z := jB (e := 5) 0 j500 rg_75_5_0_1 (by decide) (by decide); omega
    refine x_getR (np := 71) (x := 709) (f := 5) (q := 79) (by decide +kernel) (by decide) (by decide +kernel) q505 ?_
    refine x_aload (np := 72) (x := 0) (by decide +kernel) rfl (x_nc_le (by decide)) ?_
    have q506 : h499 75 6 = h453 75 6 := by rw [← e501]; exact x_up_k (by decide)
    have q507 : h453 75 6 = h408 75 6 := by rw [← e455]; exact x_up_k (by decide)
    have q508 : h408 75 6 = h365 75 6 := by rw [← e410]; exact x_up_k (by decide)
    have q509 : h365 75 6 = h324 75 6 := by rw [← e367]; exact x_up_k (by decide)
    have q510 : h324 75 6 = h285 75 6 := by rw [← e326]; exact x_up_k (by decide)
    have q511 : h285 75 6 = h247 75 6 := by rw [← e287]; exact x_up_k (by decide)
    have q512 : h247 75 6 = h211 75 6 := by rw [← e249]; exact x_up_k (by decide)
    have q513 : h211 75 6 = h177 75 6 := by rw [← e213]; exact x_up_k (by decide)
    have q514 : h177 75 6 = h145 75 6 := by rw [← e179]; exact x_up_k (by decide)
    have q515 : h145 75 6 = h114 75 6 := by rw [← e147]; exact x_up_k (by decide)
    have q516 : h114 75 6 = h85 75 6 := by rw [← e116]; exact x_up_k (by decide)
    have q517 : h85 75 6 = h58 75 6 := by rw [← e87]; exact x_up_k (by decide)
    have q518 : h58 75 6 = h31 75 6 := by rw [← e60]; exact x_up_k (by decide)
    have q519 : h31 75 6 = h26 75 6 := by rw [← e33]; exact x_up_k (by decide)
    have q520 : h26 75 6 = h21 75 6 := by rw [← e28]; exact x_up_k (by decide)
    have q521 : h21 75 6 = h16 75 6 := by rw [← e23]; exact x_up_k (by decide)
    have q522 : h16 75 6 = h11 75 6 := by rw [← e18]; exact x_up_k (by decide)
    have q523 : h11 75 6 = h1 75 6 := by rw [← e13]; exact x_up_k (by decide)
    have q524 : h1 75 6 = h 75 6 := by rw [← e3]; exact x_up_i (by omega)
    refine x_getC (np := 75) (x := 710) (f := 6) (q := (h 75 6)) (by decide +kernel) (by decide) (by decide +kernel) ((((((((((((((((((q506.trans q507).trans q508).trans q509).trans q510).trans q511).trans q512).trans q513).trans q514).trans q515).trans q516).trans q517).trans q518).trans q519).trans q520).trans q521).trans q522).trans q523).trans q524) (fun l525 => ?_)
    refine x_iload (np := 77) (x := 6) (by decide +kernel) rfl (by decide) ?_
    refine x_iadd (np := 78) (x := 0) (v := (13 + (h 75 6))) (by decide +kernel) l7 (by decide) (by omega) (by omega) ?_
    refine x_aload (np := 79) (x := 0) (by decide +kernel) rfl (x_nc_le (by decide)) ?_
    have q526 : h499 75 12 = 80 := by have z := jB (e := 12) 0 j500 rg_75_12_0_1 (by decide) (by decide); omega
    refine x_getR (np := 82) (x := 716) (f := 12) (q := 80) (by decide +kernel) (by decide) (by decide +kernel) q526 ?_
    refine x_iload (np := 84) (x := 6) (by decide +kernel) rfl (by decide) ?_
    refine x_const (np := 85) (x := 9223372056182128644) (a := 2147483652) (by decide +kernel) (by decide) (by decide) ?_
    refine x_div (np := 86) (i := 13) (j := 4) (by decide +kernel) (by omega) (by decide) (by omega) (by decide) ?_
    show X _ _ _ _ _ _ _ _ [iv_c 2147483651, x_r 80, iv_c (13 + (h 75 6)), x_r 79] _
    have q527 : h499 80 3 = h453 80 3 := by rw [← e501]; exact x_up_k (by decide)
    have q528 : h453 80 3 = h408 80 3 := by rw [← e455]; exact x_up_k (by decide)
    have q529 : h408 80 3 = h365 80 3 := by rw [← e410]; exact x_up_k (by decide)
    have q530 : h365 80 3 = h324 80 3 := by rw [← e367]; exact x_up_k (by decide)
    have q531 : h324 80 3 = h285 80 3 := by rw [← e326]; exact x_up_k (by decide)
    have q532 : h285 80 3 = h247 80 3 := by rw [← e287]; exact x_up_k (by decide)
    have q533 : h247 80 3 = h211 80 3 := by rw [← e249]; exact x_up_k (by decide)
    have q534 : h211 80 3 = h177 80 3 := by rw [← e213]; exact x_up_k (by decide)
    have q535 : h177 80 3 = h145 80 3 := by rw [← e179]; exact x_up_k (by decide)
    have q536 : h145 80 3 = h114 80 3 := by rw [← e147]; exact x_up_k (by decide)
    have q537 : h114 80 3 = h85 80 3 := by rw [← e116]; exact x_up_k (by decide)
    have q538 : h85 80 3 = h58 80 3 := by rw [← e87]; exact x_up_k (by decide)
    have q539 : h58 80 3 = h31 80 3 := by rw [← e60]; exact x_up_k (by decide)
    have q540 : h31 80 3 = h26 80 3 := by rw [← e33]; exact x_up_i (by omega)
    have q541 : h26 80 3 = a4 := by rw [← e28]; exact x_up_at
    refine x_aldC (np := 87) (x := 0) (n := 5) (i := 3) (q := a4) (by decide +kernel) (by decide +kernel) (by omega) (by omega) (by decide) ((((((((((((((q527.trans q528).trans q529).trans q530).trans q531).trans q532).trans q533).trans q534).trans q535).trans q536).trans q537).trans q538).trans q539).trans q540).trans q541) (fun l542 => ?_)
    refine x_const (np := 89) (x := 9223372142081474584) (a := 2147483672) (by decide +kernel) (by decide) (by decide) ?_
    refine x_const (np := 91) (x := 9223372073361997832) (a := 2147483656) (by decide +kernel) (by decide) (by decide) ?_
    refine x_iload (np := 93) (x := 6) (by decide +kernel) rfl (by decide) ?_
    refine x_const (np := 94) (x := 9223372056182128644) (a := 2147483652) (by decide +kernel) (by decide) (by decide) ?_
    refine x_rem (np := 95) (i := 13) (j := 4) (by decide +kernel) (by omega) (by decide) (by omega) (by decide) ?_
    show X _ _ _ _ _ _ _ _ [iv_c 2147483649, iv_c 2147483656, iv_c 2147483672, iv_c a4, iv_c (13 + (h 75 6)), x_r 79] _
    refine x_imul (np := 96) (x := 0) (i := 8) (j := 1) (v := 2147483656) (by decide +kernel) (by omega) (by omega) (by omega) (by omega) (by decide) (by decide) ?_
    refine x_isub (np := 97) (x := 0) (v := 2147483664) (by decide +kernel) (by decide) (by decide) (by omega) (by omega) ?_
    refine x_shrE (np := 98) (by decide +kernel) la4 (by decide) (fun l544 => ?_)
    refine x_b8 (by rw [tb_b165]; decide +kernel) l544 (fun l545 l546 => ?_)
    refine x_ast (np := 100) (x := 0) (kd := 2) (n := 400) (i := (13 + u56)) (by decide +kernel) (Or.inr rfl) (by decide +kernel) (by omega) (by omega) (by decide) (by omega) (fun _ => by omega) ?_
    have j548 := jU (e := (13 + u56)) (v := (b8 (bsh a4 2147483664))) (13 + u56) j500 rg_79_0_1_400 (by omega) (by omega) (by omega)
    have f550 := jF (e := (13 + u56)) (v := (b8 (bsh a4 2147483664))) (13 + u56) f502 rg_79_0_1_400 (by omega) (by omega) (by decide)
    generalize e549 : x_up h499 79 (13 + u56) (b8 (bsh a4 2147483664)) = h547 at j548 f550 ⊢
    refine x_iinc (np := 103) (i := 6) (j := 2147483649) (v := 2147483662) (lo' := [x_r 75, iv_c a1, iv_c a2, iv_c a3, iv_c a4, iv_c a5, iv_c 2147483662]) (by decide +kernel) (by decide) (by decide) rfl (by decide) (by omega) (by omega) rfl ?_
    refine x_goto (np := 106) (x := 60) (by decide +kernel) ?_
    refine x_iload (np := 62) (x := 6) (by decide +kernel) rfl (by decide) ?_
    refine x_const (np := 64) (x := 9223372124901605396) (a := 2147483668) (by decide +kernel) (by decide) (by decide) ?_
    refine x_icmp (k := 3) (tg := 106) (np := 67) (by decide +kernel) (by decide) (by decide) (by decide) (fun q551 => ?_) (fun q552 => ?_)
    · have q551 : 2147483668 ≤ 2147483662 := q551
      exfalso; omega
    have q552 : ¬ (2147483668 ≤ 2147483662) := q552
    refine x_aload (np := 68) (x := 0) (by decide +kernel) rfl (x_nc_le (by decide)) ?_
    have q553 : h547 75 5 = 79 := by have z := jB (e := 5) 0 j548 rg_75_5_0_1 (by decide) (by decide); omega
    refine x_getR (np := 71) (x := 709) (f := 5) (q := 79) (by decide +kernel) (by decide) (by decide +kernel) q553 ?_
    refine x_aload (np := 72) (x := 0) (by decide +kernel) rfl (x_nc_le (by decide)) ?_
    have q554 : h547 75 6 = h499 75 6 := by rw [← e549]; exact x_up_k (by decide)
    have q555 : h499 75 6 = h453 75 6 := by rw [← e501]; exact x_up_k (by decide)
    have q556 : h453 75 6 = h408 75 6 := by rw [← e455]; exact x_up_k (by decide)
    have q557 : h408 75 6 = h365 75 6 := by rw [← e410]; exact x_up_k (by decide)
    have q558 : h365 75 6 = h324 75 6 := by rw [← e367]; exact x_up_k (by decide)
    have q559 : h324 75 6 = h285 75 6 := by rw [← e326]; exact x_up_k (by decide)
    have q560 : h285 75 6 = h247 75 6 := by rw [← e287]; exact x_up_k (by decide)
    have q561 : h247 75 6 = h211 75 6 := by rw [← e249]; exact x_up_k (by decide)
    have q562 : h211 75 6 = h177 75 6 := by rw [← e213]; exact x_up_k (by decide)
    have q563 : h177 75 6 = h145 75 6 := by rw [← e179]; exact x_up_k (by decide)
    have q564 : h145 75 6 = h114 75 6 := by rw [← e147]; exact x_up_k (by decide)
    have q565 : h114 75 6 = h85 75 6 := by rw [← e116]; exact x_up_k (by decide)
    have q566 : h85 75 6 = h58 75 6 := by rw [← e87]; exact x_up_k (by decide)
    have q567 : h58 75 6 = h31 75 6 := by rw [← e60]; exact x_up_k (by decide)
    have q568 : h31 75 6 = h26 75 6 := by rw [← e33]; exact x_up_k (by decide)
    have q569 : h26 75 6 = h21 75 6 := by rw [← e28]; exact x_up_k (by decide)
    have q570 : h21 75 6 = h16 75 6 := by rw [← e23]; exact x_up_k (by decide)
    have q571 : h16 75 6 = h11 75 6 := by rw [← e18]; exact x_up_k (by decide)
    have q572 : h11 75 6 = h1 75 6 := by rw [← e13]; exact x_up_k (by decide)
    have q573 : h1 75 6 = h 75 6 := by rw [← e3]; exact x_up_i (by omega)
    refine x_getC (np := 75) (x := 710) (f := 6) (q := (h 75 6)) (by decide +kernel) (by decide) (by decide +kernel) (((((((((((((((((((q554.trans q555).trans q556).trans q557).trans q558).trans q559).trans q560).trans q561).trans q562).trans q563).trans q564).trans q565).trans q566).trans q567).trans q568).trans q569).trans q570).trans q571).trans q572).trans q573) (fun l574 => ?_)
    refine x_iload (np := 77) (x := 6) (by decide +kernel) rfl (by decide) ?_
    refine x_iadd (np := 78) (x := 0) (v := (14 + (h 75 6))) (by decide +kernel) l7 (by decide) (by omega) (by omega) ?_
    refine x_aload (np := 79) (x := 0) (by decide +kernel) rfl (x_nc_le (by decide)) ?_
    have q575 : h547 75 12 = 80 := by have z := jB (e := 12) 0 j548 rg_75_12_0_1 (by decide) (by decide); omega
    refine x_getR (np := 82) (x := 716) (f := 12) (q := 80) (by decide +kernel) (by decide) (by decide +kernel) q575 ?_
    refine x_iload (np := 84) (x := 6) (by decide +kernel) rfl (by decide) ?_
    refine x_const (np := 85) (x := 9223372056182128644) (a := 2147483652) (by decide +kernel) (by decide) (by decide) ?_
    refine x_div (np := 86) (i := 14) (j := 4) (by decide +kernel) (by omega) (by decide) (by omega) (by decide) ?_
    show X _ _ _ _ _ _ _ _ [iv_c 2147483651, x_r 80, iv_c (14 + (h 75 6)), x_r 79] _
    have q576 : h547 80 3 = h499 80 3 := by rw [← e549]; exact x_up_k (by decide)
    have q577 : h499 80 3 = h453 80 3 := by rw [← e501]; exact x_up_k (by decide)
    have q578 : h453 80 3 = h408 80 3 := by rw [← e455]; exact x_up_k (by decide)
    have q579 : h408 80 3 = h365 80 3 := by rw [← e410]; exact x_up_k (by decide)
    have q580 : h365 80 3 = h324 80 3 := by rw [← e367]; exact x_up_k (by decide)
    have q581 : h324 80 3 = h285 80 3 := by rw [← e326]; exact x_up_k (by decide)
    have q582 : h285 80 3 = h247 80 3 := by rw [← e287]; exact x_up_k (by decide)
    have q583 : h247 80 3 = h211 80 3 := by rw [← e249]; exact x_up_k (by decide)
    have q584 : h211 80 3 = h177 80 3 := by rw [← e213]; exact x_up_k (by decide)
    have q585 : h177 80 3 = h145 80 3 := by rw [← e179]; exact x_up_k (by decide)
    have q586 : h145 80 3 = h114 80 3 := by rw [← e147]; exact x_up_k (by decide)
    have q587 : h114 80 3 = h85 80 3 := by rw [← e116]; exact x_up_k (by decide)
    have q588 : h85 80 3 = h58 80 3 := by rw [← e87]; exact x_up_k (by decide)
    have q589 : h58 80 3 = h31 80 3 := by rw [← e60]; exact x_up_k (by decide)
    have q590 : h31 80 3 = h26 80 3 := by rw [← e33]; exact x_up_i (by omega)
    have q591 : h26 80 3 = a4 := by rw [← e28]; exact x_up_at
    refine x_aldC (np := 87) (x := 0) (n := 5) (i := 3) (q := a4) (by decide +kernel) (by decide +kernel) (by omega) (by omega) (by decide) (((((((((((((((q576.trans q577).trans q578).trans q579).trans q580).trans q581).trans q582).trans q583).trans q584).trans q585).trans q586).trans q587).trans q588).trans q589).trans q590).trans q591) (fun l592 => ?_)
    refine x_const (np := 89) (x := 9223372142081474584) (a := 2147483672) (by decide +kernel) (by decide) (by decide) ?_
    refine x_const (np := 91) (x := 9223372073361997832) (a := 2147483656) (by decide +kernel) (by decide) (by decide) ?_
    refine x_iload (np := 93) (x := 6) (by decide +kernel) rfl (by decide) ?_
    refine x_const (np := 94) (x := 9223372056182128644) (a := 2147483652) (by decide +kernel) (by decide) (by decide) ?_
    refine x_rem (np := 95) (i := 14) (j := 4) (by decide +kernel) (by omega) (by decide) (by omega) (by decide) ?_
    show X _ _ _ _ _ _ _ _ [iv_c 2147483650, iv_c 2147483656, iv_c 2147483672, iv_c a4, iv_c (14 + (h 75 6)), x_r 79] _
    refine x_imul (np := 96) (x := 0) (i := 8) (j := 2) (v := 2147483664) (by decide +kernel) (by omega) (by omega) (by omega) (by omega) (by decide) (by decide) ?_
    refine x_isub (np := 97) (x := 0) (v := 2147483656) (by decide +kernel) (by decide) (by decide) (by omega) (by omega) ?_
    refine x_shrE (np := 98) (by decide +kernel) la4 (by decide) (fun l594 => ?_)
    refine x_b8 (by rw [tb_b165]; decide +kernel) l594 (fun l595 l596 => ?_)
    refine x_ast (np := 100) (x := 0) (kd := 2) (n := 400) (i := (14 + u56)) (by decide +kernel) (Or.inr rfl) (by decide +kernel) (by omega) (by omega) (by decide) (by omega) (fun _ => by omega) ?_
    have j598 := jU (e := (14 + u56)) (v := (b8 (bsh a4 2147483656))) (14 + u56) j548 rg_79_0_1_400 (by omega) (by omega) (by omega)
    have f600 := jF (e := (14 + u56)) (v := (b8 (bsh a4 2147483656))) (14 + u56) f550 rg_79_0_1_400 (by omega) (by omega) (by decide)
    generalize e599 : x_up h547 79 (14 + u56) (b8 (bsh a4 2147483656)) = h597 at j598 f600 ⊢
    refine x_iinc (np := 103) (i := 6) (j := 2147483649) (v := 2147483663) (lo' := [x_r 75, iv_c a1, iv_c a2, iv_c a3, iv_c a4, iv_c a5, iv_c 2147483663]) (by decide +kernel) (by decide) (by decide) rfl (by decide) (by omega) (by omega) rfl ?_
    refine x_goto (np := 106) (x := 60) (by decide +kernel) ?_
    refine x_iload (np := 62) (x := 6) (by decide +kernel) rfl (by decide) ?_
    refine x_const (np := 64) (x := 9223372124901605396) (a := 2147483668) (by decide +kernel) (by decide) (by decide) ?_
    refine x_icmp (k := 3) (tg := 106) (np := 67) (by decide +kernel) (by decide) (by decide) (by decide) (fun q601 => ?_) (fun q602 => ?_)
    · have q601 : 2147483668 ≤ 2147483663 := q601
      exfalso; omega
    have q602 : ¬ (2147483668 ≤ 2147483663) := q602
    refine x_aload (np := 68) (x := 0) (by decide +kernel) rfl (x_nc_le (by decide)) ?_
    have q603 : h597 75 5 = 79 := by have z := jB (e := 5) 0 j598 rg_75_5_0_1 (by decide) (by decide); omega
    refine x_getR (np := 71) (x := 709) (f := 5) (q := 79) (by decide +kernel) (by decide) (by decide +kernel) q603 ?_
    refine x_aload (np := 72) (x := 0) (by decide +kernel) rfl (x_nc_le (by decide)) ?_
    have q604 : h597 75 6 = h547 75 6 := by rw [← e599]; exact x_up_k (by decide)
    have q605 : h547 75 6 = h499 75 6 := by rw [← e549]; exact x_up_k (by decide)
    have q606 : h499 75 6 = h453 75 6 := by rw [← e501]; exact x_up_k (by decide)
    have q607 : h453 75 6 = h408 75 6 := by rw [← e455]; exact x_up_k (by decide)
    have q608 : h408 75 6 = h365 75 6 := by rw [← e410]; exact x_up_k (by decide)
    have q609 : h365 75 6 = h324 75 6 := by rw [← e367]; exact x_up_k (by decide)
    have q610 : h324 75 6 = h285 75 6 := by rw [← e326]; exact x_up_k (by decide)
    have q611 : h285 75 6 = h247 75 6 := by rw [← e287]; exact x_up_k (by decide)
    have q612 : h247 75 6 = h211 75 6 := by rw [← e249]; exact x_up_k (by decide)
    have q613 : h211 75 6 = h177 75 6 := by rw [← e213]; exact x_up_k (by decide)
    have q614 : h177 75 6 = h145 75 6 := by rw [← e179]; exact x_up_k (by decide)
    have q615 : h145 75 6 = h114 75 6 := by rw [← e147]; exact x_up_k (by decide)
    have q616 : h114 75 6 = h85 75 6 := by rw [← e116]; exact x_up_k (by decide)
    have q617 : h85 75 6 = h58 75 6 := by rw [← e87]; exact x_up_k (by decide)
    have q618 : h58 75 6 = h31 75 6 := by rw [← e60]; exact x_up_k (by decide)
    have q619 : h31 75 6 = h26 75 6 := by rw [← e33]; exact x_up_k (by decide)
    have q620 : h26 75 6 = h21 75 6 := by rw [← e28]; exact x_up_k (by decide)
    have q621 : h21 75 6 = h16 75 6 := by rw [← e23]; exact x_up_k (by decide)
    have q622 : h16 75 6 = h11 75 6 := by rw [← e18]; exact x_up_k (by decide)
    have q623 : h11 75 6 = h1 75 6 := by rw [← e13]; exact x_up_k (by decide)
    have q624 : h1 75 6 = h 75 6 := by rw [← e3]; exact x_up_i (by omega)
    refine x_getC (np := 75) (x := 710) (f := 6) (q := (h 75 6)) (by decide +kernel) (by decide) (by decide +kernel) ((((((((((((((((((((q604.trans q605).trans q606).trans q607).trans q608).trans q609).trans q610).trans q611).trans q612).trans q613).trans q614).trans q615).trans q616).trans q617).trans q618).trans q619).trans q620).trans q621).trans q622).trans q623).trans q624) (fun l625 => ?_)
    refine x_iload (np := 77) (x := 6) (by decide +kernel) rfl (by decide) ?_
    refine x_iadd (np := 78) (x := 0) (v := (15 + (h 75 6))) (by decide +kernel) l7 (by decide) (by omega) (by omega) ?_
    refine x_aload (np := 79) (x := 0) (by decide +kernel) rfl (x_nc_le (by decide)) ?_
    have q626 : h597 75 12 = 80 := by have z := jB (e := 12) 0 j598 rg_75_12_0_1 (by decide) (by decide); omega
    refine x_getR (np := 82) (x := 716) (f := 12) (q := 80) (by decide +kernel) (by decide) (by decide +kernel) q626 ?_
    refine x_iload (np := 84) (x := 6) (by decide +kernel) rfl (by decide) ?_
    refine x_const (np := 85) (x := 9223372056182128644) (a := 2147483652) (by decide +kernel) (by decide) (by decide) ?_
    refine x_div (np := 86) (i := 15) (j := 4) (by decide +kernel) (by omega) (by decide) (by omega) (by decide) ?_
    show X _ _ _ _ _ _ _ _ [iv_c 2147483651, x_r 80, iv_c (15 + (h 75 6)), x_r 79] _
    have q627 : h597 80 3 = h547 80 3 := by rw [← e599]; exact x_up_k (by decide)
    have q628 : h547 80 3 = h499 80 3 := by rw [← e549]; exact x_up_k (by decide)
    have q629 : h499 80 3 = h453 80 3 := by rw [← e501]; exact x_up_k (by decide)
    have q630 : h453 80 3 = h408 80 3 := by rw [← e455]; exact x_up_k (by decide)
    have q631 : h408 80 3 = h365 80 3 := by rw [← e410]; exact x_up_k (by decide)
    have q632 : h365 80 3 = h324 80 3 := by rw [← e367]; exact x_up_k (by decide)
    have q633 : h324 80 3 = h285 80 3 := by rw [← e326]; exact x_up_k (by decide)
    have q634 : h285 80 3 = h247 80 3 := by rw [← e287]; exact x_up_k (by decide)
    have q635 : h247 80 3 = h211 80 3 := by rw [← e249]; exact x_up_k (by decide)
    have q636 : h211 80 3 = h177 80 3 := by rw [← e213]; exact x_up_k (by decide)
    have q637 : h177 80 3 = h145 80 3 := by rw [← e179]; exact x_up_k (by decide)
    have q638 : h145 80 3 = h114 80 3 := by rw [← e147]; exact x_up_k (by decide)
    have q639 : h114 80 3 = h85 80 3 := by rw [← e116]; exact x_up_k (by decide)
    have q640 : h85 80 3 = h58 80 3 := by rw [← e87]; exact x_up_k (by decide)
    have q641 : h58 80 3 = h31 80 3 := by rw [← e60]; exact x_up_k (by decide)
    have q642 : h31 80 3 = h26 80 3 := by rw [← e33]; exact x_up_i (by omega)
    have q643 : h26 80 3 = a4 := by rw [← e28]; exact x_up_at
    refine x_aldC (np := 87) (x := 0) (n := 5) (i := 3) (q := a4) (by decide +kernel) (by decide +kernel) (by omega) (by omega) (by decide) ((((((((((((((((q627.trans q628).trans q629).trans q630).trans q631).trans q632).trans q633).trans q634).trans q635).trans q636).trans q637).trans q638).trans q639).trans q640).trans q641).trans q642).trans q643) (fun l644 => ?_)
    refine x_const (np := 89) (x := 9223372142081474584) (a := 2147483672) (by decide +kernel) (by decide) (by decide) ?_
    refine x_const (np := 91) (x := 9223372073361997832) (a := 2147483656) (by decide +kernel) (by decide) (by decide) ?_
    refine x_iload (np := 93) (x := 6) (by decide +kernel) rfl (by decide) ?_
    refine x_const (np := 94) (x := 9223372056182128644) (a := 2147483652) (by decide +kernel) (by decide) (by decide) ?_
    refine x_rem (np := 95) (i := 15) (j := 4) (by decide +kernel) (by omega) (by decide) (by omega) (by decide) ?_
    show X _ _ _ _ _ _ _ _ [iv_c 2147483651, iv_c 2147483656, iv_c 2147483672, iv_c a4, iv_c (15 + (h 75 6)), x_r 79] _
    refine x_imul (np := 96) (x := 0) (i := 8) (j := 3) (v := 2147483672) (by decide +kernel) (by omega) (by omega) (by omega) (by omega) (by decide) (by decide) ?_
    refine x_isub (np := 97) (x := 0) (v := 2147483648) (by decide +kernel) (by decide) (by decide) (by omega) (by omega) ?_
    refine x_shrE (np := 98) (by decide +kernel) la4 (by decide) (fun l646 => ?_)
    refine x_b8 (by rw [tb_b165]; decide +kernel) l646 (fun l647 l648 => ?_)
    refine x_ast (np := 100) (x := 0) (kd := 2) (n := 400) (i := (15 + u56)) (by decide +kernel) (Or.inr rfl) (by decide +kernel) (by omega) (by omega) (by decide) (by omega) (fun _ => by omega) ?_
    have j650 := jU (e := (15 + u56)) (v := (b8 (bsh a4 2147483648))) (15 + u56) j598 rg_79_0_1_400 (by omega) (by omega) (by omega)
    have f652 := jF (e := (15 + u56)) (v := (b8 (bsh a4 2147483648))) (15 + u56) f600 rg_79_0_1_400 (by omega) (by omega) (by decide)
    generalize e651 : x_up h597 79 (15 + u56) (b8 (bsh a4 2147483648)) = h649 at j650 f652 ⊢
    refine x_iinc (np := 103) (i := 6) (j := 2147483649) (v := 2147483664) (lo' := [x_r 75, iv_c a1, iv_c a2, iv_c a3, iv_c a4, iv_c a5, iv_c 2147483664]) (by decide +kernel) (by decide) (by decide) rfl (by decide) (by omega) (by omega) rfl ?_
    refine x_goto (np := 106) (x := 60) (by decide +kernel) ?_
    refine x_iload (np := 62) (x := 6) (by decide +kernel) rfl (by decide) ?_
    refine x_const (np := 64) (x := 9223372124901605396) (a := 2147483668) (by decide +kernel) (by decide) (by decide) ?_
    refine x_icmp (k := 3) (tg := 106) (np := 67) (by decide +kernel) (by decide) (by decide) (by decide) (fun q653 => ?_) (fun q654 => ?_)
    · have q653 : 2147483668 ≤ 2147483664 := q653
      exfalso; omega
    have q654 : ¬ (2147483668 ≤ 2147483664) := q654
    refine x_aload (np := 68) (x := 0) (by decide +kernel) rfl (x_nc_le (by decide)) ?_
    have q655 : h649 75 5 = 79 := by have z := jB (e := 5) 0 j650 rg_75_5_0_1 (by decide) (by decide); omega
    refine x_getR (np := 71) (x := 709) (f := 5) (q := 79) (by decide +kernel) (by decide) (by decide +kernel) q655 ?_
    refine x_aload (np := 72) (x := 0) (by decide +kernel) rfl (x_nc_le (by decide)) ?_
    have q656 : h649 75 6 = h597 75 6 := by rw [← e651]; exact x_up_k (by decide)
    have q657 : h597 75 6 = h547 75 6 := by rw [← e599]; exact x_up_k (by decide)
    have q658 : h547 75 6 = h499 75 6 := by rw [← e549]; exact x_up_k (by decide)
    have q659 : h499 75 6 = h453 75 6 := by rw [← e501]; exact x_up_k (by decide)
    have q660 : h453 75 6 = h408 75 6 := by rw [← e455]; exact x_up_k (by decide)
    have q661 : h408 75 6 = h365 75 6 := by rw [← e410]; exact x_up_k (by decide)
    have q662 : h365 75 6 = h324 75 6 := by rw [← e367]; exact x_up_k (by decide)
    have q663 : h324 75 6 = h285 75 6 := by rw [← e326]; exact x_up_k (by decide)
    have q664 : h285 75 6 = h247 75 6 := by rw [← e287]; exact x_up_k (by decide)
    have q665 : h247 75 6 = h211 75 6 := by rw [← e249]; exact x_up_k (by decide)
    have q666 : h211 75 6 = h177 75 6 := by rw [← e213]; exact x_up_k (by decide)
    have q667 : h177 75 6 = h145 75 6 := by rw [← e179]; exact x_up_k (by decide)
    have q668 : h145 75 6 = h114 75 6 := by rw [← e147]; exact x_up_k (by decide)
    have q669 : h114 75 6 = h85 75 6 := by rw [← e116]; exact x_up_k (by decide)
    have q670 : h85 75 6 = h58 75 6 := by rw [← e87]; exact x_up_k (by decide)
    have q671 : h58 75 6 = h31 75 6 := by rw [← e60]; exact x_up_k (by decide)
    have q672 : h31 75 6 = h26 75 6 := by rw [← e33]; exact x_up_k (by decide)
    have q673 : h26 75 6 = h21 75 6 := by rw [← e28]; exact x_up_k (by decide)
    have q674 : h21 75 6 = h16 75 6 := by rw [← e23]; exact x_up_k (by decide)
    have q675 : h16 75 6 = h11 75 6 := by rw [← e18]; exact x_up_k (by decide)
    have q676 : h11 75 6 = h1 75 6 := by rw [← e13]; exact x_up_k (by decide)
    have q677 : h1 75 6 = h 75 6 := by rw [← e3]; exact x_up_i (by omega)
    refine x_getC (np := 75) (x := 710) (f := 6) (q := (h 75 6)) (by decide +kernel) (by decide) (by decide +kernel) (((((((((((((((((((((q656.trans q657).trans q658).trans q659).trans q660).trans q661).trans q662).trans q663).trans q664).trans q665).trans q666).trans q667).trans q668).trans q669).trans q670).trans q671).trans q672).trans q673).trans q674).trans q675).trans q676).trans q677) (fun l678 => ?_)
    refine x_iload (np := 77) (x := 6) (by decide +kernel) rfl (by decide) ?_
    refine x_iadd (np := 78) (x := 0) (v := (16 + (h 75 6))) (by decide +kernel) l7 (by decide) (by omega) (by omega) ?_
    refine x_aload (np := 79) (x := 0) (by decide +kernel) rfl (x_nc_le (by decide)) ?_
    have q679 : h649 75 12 = 80 := by have z := jB (e := 12) 0 j650 rg_75_12_0_1 (by decide) (by decide); omega
    refine x_getR (np := 82) (x := 716) (f := 12) (q := 80) (by decide +kernel) (by decide) (by decide +kernel) q679 ?_
    refine x_iload (np := 84) (x := 6) (by decide +kernel) rfl (by decide) ?_
    refine x_const (np := 85) (x := 9223372056182128644) (a := 2147483652) (by decide +kernel) (by decide) (by decide) ?_
    refine x_div (np := 86) (i := 16) (j := 4) (by decide +kernel) (by omega) (by decide) (by omega) (by decide) ?_
    show X _ _ _ _ _ _ _ _ [iv_c 2147483652, x_r 80, iv_c (16 + (h 75 6)), x_r 79] _
    have q680 : h649 80 4 = h597 80 4 := by rw [← e651]; exact x_up_k (by decide)
    have q681 : h597 80 4 = h547 80 4 := by rw [← e599]; exact x_up_k (by decide)
    have q682 : h547 80 4 = h499 80 4 := by rw [← e549]; exact x_up_k (by decide)
    have q683 : h499 80 4 = h453 80 4 := by rw [← e501]; exact x_up_k (by decide)
    have q684 : h453 80 4 = h408 80 4 := by rw [← e455]; exact x_up_k (by decide)
    have q685 : h408 80 4 = h365 80 4 := by rw [← e410]; exact x_up_k (by decide)
    have q686 : h365 80 4 = h324 80 4 := by rw [← e367]; exact x_up_k (by decide)
    have q687 : h324 80 4 = h285 80 4 := by rw [← e326]; exact x_up_k (by decide)
    have q688 : h285 80 4 = h247 80 4 := by rw [← e287]; exact x_up_k (by decide)
    have q689 : h247 80 4 = h211 80 4 := by rw [← e249]; exact x_up_k (by decide)
    have q690 : h211 80 4 = h177 80 4 := by rw [← e213]; exact x_up_k (by decide)
    have q691 : h177 80 4 = h145 80 4 := by rw [← e179]; exact x_up_k (by decide)
    have q692 : h145 80 4 = h114 80 4 := by rw [← e147]; exact x_up_k (by decide)
    have q693 : h114 80 4 = h85 80 4 := by rw [← e116]; exact x_up_k (by decide)
    have q694 : h85 80 4 = h58 80 4 := by rw [← e87]; exact x_up_k (by decide)
    have q695 : h58 80 4 = h31 80 4 := by rw [← e60]; exact x_up_k (by decide)
    have q696 : h31 80 4 = a5 := by rw [← e33]; exact x_up_at
    refine x_aldC (np := 87) (x := 0) (n := 5) (i := 4) (q := a5) (by decide +kernel) (by decide +kernel) (by omega) (by omega) (by decide) ((((((((((((((((q680.trans q681).trans q682).trans q683).trans q684).trans q685).trans q686).trans q687).trans q688).trans q689).trans q690).trans q691).trans q692).trans q693).trans q694).trans q695).trans q696) (fun l697 => ?_)
    refine x_const (np := 89) (x := 9223372142081474584) (a := 2147483672) (by decide +kernel) (by decide) (by decide) ?_
    refine x_const (np := 91) (x := 9223372073361997832) (a := 2147483656) (by decide +kernel) (by decide) (by decide) ?_
    refine x_iload (np := 93) (x := 6) (by decide +kernel) rfl (by decide) ?_
    refine x_const (np := 94) (x := 9223372056182128644) (a := 2147483652) (by decide +kernel) (by decide) (by decide) ?_
    refine x_rem (np := 95) (i := 16) (j := 4) (by decide +kernel) (by omega) (by decide) (by omega) (by decide) ?_
    show X _ _ _ _ _ _ _ _ [iv_c 2147483648, iv_c 2147483656, iv_c 2147483672, iv_c a5, iv_c (16 + (h 75 6)), x_r 79] _
    refine x_imul (np := 96) (x := 0) (i := 8) (j := 0) (v := 2147483648) (by decide +kernel) (by omega) (by omega) (by omega) (by omega) (by decide) (by decide) ?_
    refine x_isub (np := 97) (x := 0) (v := 2147483672) (by decide +kernel) (by decide) (by decide) (by omega) (by omega) ?_
    refine x_shrE (np := 98) (by decide +kernel) la5 (by decide) (fun l699 => ?_)
    refine x_b8 (by rw [tb_b165]; decide +kernel) l699 (fun l700 l701 => ?_)
    refine x_ast (np := 100) (x := 0) (kd := 2) (n := 400) (i := (16 + u56)) (by decide +kernel) (Or.inr rfl) (by decide +kernel) (by omega) (by omega) (by decide) (by omega) (fun _ => by omega) ?_
    have j703 := jU (e := (16 + u56)) (v := (b8 (bsh a5 2147483672))) (16 + u56) j650 rg_79_0_1_400 (by omega) (by omega) (by omega)
    have f705 := jF (e := (16 + u56)) (v := (b8 (bsh a5 2147483672))) (16 + u56) f652 rg_79_0_1_400 (by omega) (by omega) (by decide)
    generalize e704 : x_up h649 79 (16 + u56) (b8 (bsh a5 2147483672)) = h702 at j703 f705 ⊢
    refine x_iinc (np := 103) (i := 6) (j := 2147483649) (v := 2147483665) (lo' := [x_r 75, iv_c a1, iv_c a2, iv_c a3, iv_c a4, iv_c a5, iv_c 2147483665]) (by decide +kernel) (by decide) (by decide) rfl (by decide) (by omega) (by omega) rfl ?_
    refine x_goto (np := 106) (x := 60) (by decide +kernel) ?_
    refine x_iload (np := 62) (x := 6) (by decide +kernel) rfl (by decide) ?_
    refine x_const (np := 64) (x := 9223372124901605396) (a := 2147483668) (by decide +kernel) (by decide) (by decide) ?_
    refine x_icmp (k := 3) (tg := 106) (np := 67) (by decide +kernel) (by decide) (by decide) (by decide) (fun q706 => ?_) (fun q707 => ?_)
    · have q706 : 2147483668 ≤ 2147483665 := q706
      exfalso; omega
    have q707 : ¬ (2147483668 ≤ 2147483665) := q707
    refine x_aload (np := 68) (x := 0) (by decide +kernel) rfl (x_nc_le (by decide)) ?_
    have q708 : h702 75 5 = 79 := by have z := jB (e := 5) 0 j703 rg_75_5_0_1 (by decide) (by decide); omega
    refine x_getR (np := 71) (x := 709) (f := 5) (q := 79) (by decide +kernel) (by decide) (by decide +kernel) q708 ?_
    refine x_aload (np := 72) (x := 0) (by decide +kernel) rfl (x_nc_le (by decide)) ?_
    have q709 : h702 75 6 = h649 75 6 := by rw [← e704]; exact x_up_k (by decide)
    have q710 : h649 75 6 = h597 75 6 := by rw [← e651]; exact x_up_k (by decide)
    have q711 : h597 75 6 = h547 75 6 := by rw [← e599]; exact x_up_k (by decide)
    have q712 : h547 75 6 = h499 75 6 := by rw [← e549]; exact x_up_k (by decide)
    have q713 : h499 75 6 = h453 75 6 := by rw [← e501]; exact x_up_k (by decide)
    have q714 : h453 75 6 = h408 75 6 := by rw [← e455]; exact x_up_k (by decide)
    have q715 : h408 75 6 = h365 75 6 := by rw [← e410]; exact x_up_k (by decide)
    have q716 : h365 75 6 = h324 75 6 := by rw [← e367]; exact x_up_k (by decide)
    have q717 : h324 75 6 = h285 75 6 := by rw [← e326]; exact x_up_k (by decide)
    have q718 : h285 75 6 = h247 75 6 := by rw [← e287]; exact x_up_k (by decide)
    have q719 : h247 75 6 = h211 75 6 := by rw [← e249]; exact x_up_k (by decide)
    have q720 : h211 75 6 = h177 75 6 := by rw [← e213]; exact x_up_k (by decide)
    have q721 : h177 75 6 = h145 75 6 := by rw [← e179]; exact x_up_k (by decide)
    have q722 : h145 75 6 = h114 75 6 := by rw [← e147]; exact x_up_k (by decide)
    have q723 : h114 75 6 = h85 75 6 := by rw [← e116]; exact x_up_k (by decide)
    have q724 : h85 75 6 = h58 75 6 := by rw [← e87]; exact x_up_k (by decide)
    have q725 : h58 75 6 = h31 75 6 := by rw [← e60]; exact x_up_k (by decide)
    have q726 : h31 75 6 = h26 75 6 := by rw [← e33]; exact x_up_k (by decide)
    have q727 : h26 75 6 = h21 75 6 := by rw [← e28]; exact x_up_k (by decide)
    have q728 : h21 75 6 = h16 75 6 := by rw [← e23]; exact x_up_k (by decide)
    have q729 : h16 75 6 = h11 75 6 := by rw [← e18]; exact x_up_k (by decide)
    have q730 : h11 75 6 = h1 75 6 := by rw [← e13]; exact x_up_k (by decide)
    have q731 : h1 75 6 = h 75 6 := by rw [← e3]; exact x_up_i (by omega)
    refine x_getC (np := 75) (x := 710) (f := 6) (q := (h 75 6)) (by decide +kernel) (by decide) (by decide +kernel) ((((((((((((((((((((((q709.trans q710).trans q711).trans q712).trans q713).trans q714).trans q715).trans q716).trans q717).trans q718).trans q719).trans q720).trans q721).trans q722).trans q723).trans q724).trans q725).trans q726).trans q727).trans q728).trans q729).trans q730).trans q731) (fun l732 => ?_)
    refine x_iload (np := 77) (x := 6) (by decide +kernel) rfl (by decide) ?_
    refine x_iadd (np := 78) (x := 0) (v := (17 + (h 75 6))) (by decide +kernel) l7 (by decide) (by omega) (by omega) ?_
    refine x_aload (np := 79) (x := 0) (by decide +kernel) rfl (x_nc_le (by decide)) ?_
    have q733 : h702 75 12 = 80 := by have z := jB (e := 12) 0 j703 rg_75_12_0_1 (by decide) (by decide); omega
    refine x_getR (np := 82) (x := 716) (f := 12) (q := 80) (by decide +kernel) (by decide) (by decide +kernel) q733 ?_
    refine x_iload (np := 84) (x := 6) (by decide +kernel) rfl (by decide) ?_
    refine x_const (np := 85) (x := 9223372056182128644) (a := 2147483652) (by decide +kernel) (by decide) (by decide) ?_
    refine x_div (np := 86) (i := 17) (j := 4) (by decide +kernel) (by omega) (by decide) (by omega) (by decide) ?_
    show X _ _ _ _ _ _ _ _ [iv_c 2147483652, x_r 80, iv_c (17 + (h 75 6)), x_r 79] _
    have q734 : h702 80 4 = h649 80 4 := by rw [← e704]; exact x_up_k (by decide)
    have q735 : h649 80 4 = h597 80 4 := by rw [← e651]; exact x_up_k (by decide)
    have q736 : h597 80 4 = h547 80 4 := by rw [← e599]; exact x_up_k (by decide)
    have q737 : h547 80 4 = h499 80 4 := by rw [← e549]; exact x_up_k (by decide)
    have q738 : h499 80 4 = h453 80 4 := by rw [← e501]; exact x_up_k (by decide)
    have q739 : h453 80 4 = h408 80 4 := by rw [← e455]; exact x_up_k (by decide)
    have q740 : h408 80 4 = h365 80 4 := by rw [← e410]; exact x_up_k (by decide)
    have q741 : h365 80 4 = h324 80 4 := by rw [← e367]; exact x_up_k (by decide)
    have q742 : h324 80 4 = h285 80 4 := by rw [← e326]; exact x_up_k (by decide)
    have q743 : h285 80 4 = h247 80 4 := by rw [← e287]; exact x_up_k (by decide)
    have q744 : h247 80 4 = h211 80 4 := by rw [← e249]; exact x_up_k (by decide)
    have q745 : h211 80 4 = h177 80 4 := by rw [← e213]; exact x_up_k (by decide)
    have q746 : h177 80 4 = h145 80 4 := by rw [← e179]; exact x_up_k (by decide)
    have q747 : h145 80 4 = h114 80 4 := by rw [← e147]; exact x_up_k (by decide)
    have q748 : h114 80 4 = h85 80 4 := by rw [← e116]; exact x_up_k (by decide)
    have q749 : h85 80 4 = h58 80 4 := by rw [← e87]; exact x_up_k (by decide)
    have q750 : h58 80 4 = h31 80 4 := by rw [← e60]; exact x_up_k (by decide)
    have q751 : h31 80 4 = a5 := by rw [← e33]; exact x_up_at
    refine x_aldC (np := 87) (x := 0) (n := 5) (i := 4) (q := a5) (by decide +kernel) (by decide +kernel) (by omega) (by omega) (by decide) (((((((((((((((((q734.trans q735).trans q736).trans q737).trans q738).trans q739).trans q740).trans q741).trans q742).trans q743).trans q744).trans q745).trans q746).trans q747).trans q748).trans q749).trans q750).trans q751) (fun l752 => ?_)
    refine x_const (np := 89) (x := 9223372142081474584) (a := 2147483672) (by decide +kernel) (by decide) (by decide) ?_
    refine x_const (np := 91) (x := 9223372073361997832) (a := 2147483656) (by decide +kernel) (by decide) (by decide) ?_
    refine x_iload (np := 93) (x := 6) (by decide +kernel) rfl (by decide) ?_
    refine x_const (np := 94) (x := 9223372056182128644) (a := 2147483652) (by decide +kernel) (by decide) (by decide) ?_
    refine x_rem (np := 95) (i := 17) (j := 4) (by decide +kernel) (by omega) (by decide) (by omega) (by decide) ?_
    show X _ _ _ _ _ _ _ _ [iv_c 2147483649, iv_c 2147483656, iv_c 2147483672, iv_c a5, iv_c (17 + (h 75 6)), x_r 79] _
    refine x_imul (np := 96) (x := 0) (i := 8) (j := 1) (v := 2147483656) (by decide +kernel) (by omega) (by omega) (by omega) (by omega) (by decide) (by decide) ?_
    refine x_isub (np := 97) (x := 0) (v := 2147483664) (by decide +kernel) (by decide) (by decide) (by omega) (by omega) ?_
    refine x_shrE (np := 98) (by decide +kernel) la5 (by decide) (fun l754 => ?_)
    refine x_b8 (by rw [tb_b165]; decide +kernel) l754 (fun l755 l756 => ?_)
    refine x_ast (np := 100) (x := 0) (kd := 2) (n := 400) (i := (17 + u56)) (by decide +kernel) (Or.inr rfl) (by decide +kernel) (by omega) (by omega) (by decide) (by omega) (fun _ => by omega) ?_
    have j758 := jU (e := (17 + u56)) (v := (b8 (bsh a5 2147483664))) (17 + u56) j703 rg_79_0_1_400 (by omega) (by omega) (by omega)
    have f760 := jF (e := (17 + u56)) (v := (b8 (bsh a5 2147483664))) (17 + u56) f705 rg_79_0_1_400 (by omega) (by omega) (by decide)
    generalize e759 : x_up h702 79 (17 + u56) (b8 (bsh a5 2147483664)) = h757 at j758 f760 ⊢
    refine x_iinc (np := 103) (i := 6) (j := 2147483649) (v := 2147483666) (lo' := [x_r 75, iv_c a1, iv_c a2, iv_c a3, iv_c a4, iv_c a5, iv_c 2147483666]) (by decide +kernel) (by decide) (by decide) rfl (by decide) (by omega) (by omega) rfl ?_
    refine x_goto (np := 106) (x := 60) (by decide +kernel) ?_
    refine x_iload (np := 62) (x := 6) (by decide +kernel) rfl (by decide) ?_
    refine x_const (np := 64) (x := 9223372124901605396) (a := 2147483668) (by decide +kernel) (by decide) (by decide) ?_
    refine x_icmp (k := 3) (tg := 106) (np := 67) (by decide +kernel) (by decide) (by decide) (by decide) (fun q761 => ?_) (fun q762 => ?_)
    · have q761 : 2147483668 ≤ 2147483666 := q761
      exfalso; omega
    have q762 : ¬ (2147483668 ≤ 2147483666) := q762
    refine x_aload (np := 68) (x := 0) (by decide +kernel) rfl (x_nc_le (by decide)) ?_
    have q763 : h757 75 5 = 79 := by have z := jB (e := 5) 0 j758 rg_75_5_0_1 (by decide) (by decide); omega
    refine x_getR (np := 71) (x := 709) (f := 5) (q := 79) (by decide +kernel) (by decide) (by decide +kernel) q763 ?_
    refine x_aload (np := 72) (x := 0) (by decide +kernel) rfl (x_nc_le (by decide)) ?_
    have q764 : h757 75 6 = h702 75 6 := by rw [← e759]; exact x_up_k (by decide)
    have q765 : h702 75 6 = h649 75 6 := by rw [← e704]; exact x_up_k (by decide)
    have q766 : h649 75 6 = h597 75 6 := by rw [← e651]; exact x_up_k (by decide)
    have q767 : h597 75 6 = h547 75 6 := by rw [← e599]; exact x_up_k (by decide)
    have q768 : h547 75 6 = h499 75 6 := by rw [← e549]; exact x_up_k (by decide)
    have q769 : h499 75 6 = h453 75 6 := by rw [← e501]; exact x_up_k (by decide)
    have q770 : h453 75 6 = h408 75 6 := by rw [← e455]; exact x_up_k (by decide)
    have q771 : h408 75 6 = h365 75 6 := by rw [← e410]; exact x_up_k (by decide)
    have q772 : h365 75 6 = h324 75 6 := by rw [← e367]; exact x_up_k (by decide)
    have q773 : h324 75 6 = h285 75 6 := by rw [← e326]; exact x_up_k (by decide)
    have q774 : h285 75 6 = h247 75 6 := by rw [← e287]; exact x_up_k (by decide)
    have q775 : h247 75 6 = h211 75 6 := by rw [← e249]; exact x_up_k (by decide)
    have q776 : h211 75 6 = h177 75 6 := by rw [← e213]; exact x_up_k (by decide)
    have q777 : h177 75 6 = h145 75 6 := by rw [← e179]; exact x_up_k (by decide)
    have q778 : h145 75 6 = h114 75 6 := by rw [← e147]; exact x_up_k (by decide)
    have q779 : h114 75 6 = h85 75 6 := by rw [← e116]; exact x_up_k (by decide)
    have q780 : h85 75 6 = h58 75 6 := by rw [← e87]; exact x_up_k (by decide)
    have q781 : h58 75 6 = h31 75 6 := by rw [← e60]; exact x_up_k (by decide)
    have q782 : h31 75 6 = h26 75 6 := by rw [← e33]; exact x_up_k (by decide)
    have q783 : h26 75 6 = h21 75 6 := by rw [← e28]; exact x_up_k (by decide)
    have q784 : h21 75 6 = h16 75 6 := by rw [← e23]; exact x_up_k (by decide)
    have q785 : h16 75 6 = h11 75 6 := by rw [← e18]; exact x_up_k (by decide)
    have q786 : h11 75 6 = h1 75 6 := by rw [← e13]; exact x_up_k (by decide)
    have q787 : h1 75 6 = h 75 6 := by rw [← e3]; exact x_up_i (by omega)
    refine x_getC (np := 75) (x := 710) (f := 6) (q := (h 75 6)) (by decide +kernel) (by decide) (by decide +kernel) (((((((((((((((((((((((q764.trans q765).trans q766).trans q767).trans q768).trans q769).trans q770).trans q771).trans q772).trans q773).trans q774).trans q775).trans q776).trans q777).trans q778).trans q779).trans q780).trans q781).trans q782).trans q783).trans q784).trans q785).trans q786).trans q787) (fun l788 => ?_)
    refine x_iload (np := 77) (x := 6) (by decide +kernel) rfl (by decide) ?_
    refine x_iadd (np := 78) (x := 0) (v := (18 + (h 75 6))) (by decide +kernel) l7 (by decide) (by omega) (by omega) ?_
    refine x_aload (np := 79) (x := 0) (by decide +kernel) rfl (x_nc_le (by decide)) ?_
    have q789 : h757 75 12 = 80 := by have z := jB (e := 12) 0 j758 rg_75_12_0_1 (by decide) (by decide); omega
    refine x_getR (np := 82) (x := 716) (f := 12) (q := 80) (by decide +kernel) (by decide) (by decide +kernel) q789 ?_
    refine x_iload (np := 84) (x := 6) (by decide +kernel) rfl (by decide) ?_
    refine x_const (np := 85) (x := 9223372056182128644) (a := 2147483652) (by decide +kernel) (by decide) (by decide) ?_
    refine x_div (np := 86) (i := 18) (j := 4) (by decide +kernel) (by omega) (by decide) (by omega) (by decide) ?_
    show X _ _ _ _ _ _ _ _ [iv_c 2147483652, x_r 80, iv_c (18 + (h 75 6)), x_r 79] _
    have q790 : h757 80 4 = h702 80 4 := by rw [← e759]; exact x_up_k (by decide)
    have q791 : h702 80 4 = h649 80 4 := by rw [← e704]; exact x_up_k (by decide)
    have q792 : h649 80 4 = h597 80 4 := by rw [← e651]; exact x_up_k (by decide)
    have q793 : h597 80 4 = h547 80 4 := by rw [← e599]; exact x_up_k (by decide)
    have q794 : h547 80 4 = h499 80 4 := by rw [← e549]; exact x_up_k (by decide)
    have q795 : h499 80 4 = h453 80 4 := by rw [← e501]; exact x_up_k (by decide)
    have q796 : h453 80 4 = h408 80 4 := by rw [← e455]; exact x_up_k (by decide)
    have q797 : h408 80 4 = h365 80 4 := by rw [← e410]; exact x_up_k (by decide)
    have q798 : h365 80 4 = h324 80 4 := by rw [← e367]; exact x_up_k (by decide)
    have q799 : h324 80 4 = h285 80 4 := by rw [← e326]; exact x_up_k (by decide)
    have q800 : h285 80 4 = h247 80 4 := by rw [← e287]; exact x_up_k (by decide)
    have q801 : h247 80 4 = h211 80 4 := by rw [← e249]; exact x_up_k (by decide)
    have q802 : h211 80 4 = h177 80 4 := by rw [← e213]; exact x_up_k (by decide)
    have q803 : h177 80 4 = h145 80 4 := by rw [← e179]; exact x_up_k (by decide)
    have q804 : h145 80 4 = h114 80 4 := by rw [← e147]; exact x_up_k (by decide)
    have q805 : h114 80 4 = h85 80 4 := by rw [← e116]; exact x_up_k (by decide)
    have q806 : h85 80 4 = h58 80 4 := by rw [← e87]; exact x_up_k (by decide)
    have q807 : h58 80 4 = h31 80 4 := by rw [← e60]; exact x_up_k (by decide)
    have q808 : h31 80 4 = a5 := by rw [← e33]; exact x_up_at
    refine x_aldC (np := 87) (x := 0) (n := 5) (i := 4) (q := a5) (by decide +kernel) (by decide +kernel) (by omega) (by omega) (by decide) ((((((((((((((((((q790.trans q791).trans q792).trans q793).trans q794).trans q795).trans q796).trans q797).trans q798).trans q799).trans q800).trans q801).trans q802).trans q803).trans q804).trans q805).trans q806).trans q807).trans q808) (fun l809 => ?_)
    refine x_const (np := 89) (x := 9223372142081474584) (a := 2147483672) (by decide +kernel) (by decide) (by decide) ?_
    refine x_const (np := 91) (x := 9223372073361997832) (a := 2147483656) (by decide +kernel) (by decide) (by decide) ?_
    refine x_iload (np := 93) (x := 6) (by decide +kernel) rfl (by decide) ?_
    refine x_const (np := 94) (x := 9223372056182128644) (a := 2147483652) (by decide +kernel) (by decide) (by decide) ?_
    refine x_rem (np := 95) (i := 18) (j := 4) (by decide +kernel) (by omega) (by decide) (by omega) (by decide) ?_
    show X _ _ _ _ _ _ _ _ [iv_c 2147483650, iv_c 2147483656, iv_c 2147483672, iv_c a5, iv_c (18 + (h 75 6)), x_r 79] _
    refine x_imul (np := 96) (x := 0) (i := 8) (j := 2) (v := 2147483664) (by decide +kernel) (by omega) (by omega) (by omega) (by omega) (by decide) (by decide) ?_
    refine x_isub (np := 97) (x := 0) (v := 2147483656) (by decide +kernel) (by decide) (by decide) (by omega) (by omega) ?_
    refine x_shrE (np := 98) (by decide +kernel) la5 (by decide) (fun l811 => ?_)
    refine x_b8 (by rw [tb_b165]; decide +kernel) l811 (fun l812 l813 => ?_)
    refine x_ast (np := 100) (x := 0) (kd := 2) (n := 400) (i := (18 + u56)) (by decide +kernel) (Or.inr rfl) (by decide +kernel) (by omega) (by omega) (by decide) (by omega) (fun _ => by omega) ?_
    have j815 := jU (e := (18 + u56)) (v := (b8 (bsh a5 2147483656))) (18 + u56) j758 rg_79_0_1_400 (by omega) (by omega) (by omega)
    have f817 := jF (e := (18 + u56)) (v := (b8 (bsh a5 2147483656))) (18 + u56) f760 rg_79_0_1_400 (by omega) (by omega) (by decide)
    generalize e816 : x_up h757 79 (18 + u56) (b8 (bsh a5 2147483656)) = h814 at j815 f817 ⊢
    refine x_iinc (np := 103) (i := 6) (j := 2147483649) (v := 2147483667) (lo' := [x_r 75, iv_c a1, iv_c a2, iv_c a3, iv_c a4, iv_c a5, iv_c 2147483667]) (by decide +kernel) (by decide) (by decide) rfl (by decide) (by omega) (by omega) rfl ?_
    refine x_goto (np := 106) (x := 60) (by decide +kernel) ?_
    refine x_iload (np := 62) (x := 6) (by decide +kernel) rfl (by decide) ?_
    refine x_const (np := 64) (x := 9223372124901605396) (a := 2147483668) (by decide +kernel) (by decide) (by decide) ?_
    refine x_icmp (k := 3) (tg := 106) (np := 67) (by decide +kernel) (by decide) (by decide) (by decide) (fun q818 => ?_) (fun q819 => ?_)
    · have q818 : 2147483668 ≤ 2147483667 := q818
      exfalso; omega
    have q819 : ¬ (2147483668 ≤ 2147483667) := q819
    refine x_aload (np := 68) (x := 0) (by decide +kernel) rfl (x_nc_le (by decide)) ?_
    have q820 : h814 75 5 = 79 := by have z := jB (e := 5) 0 j815 rg_75_5_0_1 (by decide) (by decide); omega
    refine x_getR (np := 71) (x := 709) (f := 5) (q := 79) (by decide +kernel) (by decide) (by decide +kernel) q820 ?_
    refine x_aload (np := 72) (x := 0) (by decide +kernel) rfl (x_nc_le (by decide)) ?_
    have q821 : h814 75 6 = h757 75 6 := by rw [← e816]; exact x_up_k (by decide)
    have q822 : h757 75 6 = h702 75 6 := by rw [← e759]; exact x_up_k (by decide)
    have q823 : h702 75 6 = h649 75 6 := by rw [← e704]; exact x_up_k (by decide)
    have q824 : h649 75 6 = h597 75 6 := by rw [← e651]; exact x_up_k (by decide)
    have q825 : h597 75 6 = h547 75 6 := by rw [← e599]; exact x_up_k (by decide)
    have q826 : h547 75 6 = h499 75 6 := by rw [← e549]; exact x_up_k (by decide)
    have q827 : h499 75 6 = h453 75 6 := by rw [← e501]; exact x_up_k (by decide)
    have q828 : h453 75 6 = h408 75 6 := by rw [← e455]; exact x_up_k (by decide)
    have q829 : h408 75 6 = h365 75 6 := by rw [← e410]; exact x_up_k (by decide)
    have q830 : h365 75 6 = h324 75 6 := by rw [← e367]; exact x_up_k (by decide)
    have q831 : h324 75 6 = h285 75 6 := by rw [← e326]; exact x_up_k (by decide)
    have q832 : h285 75 6 = h247 75 6 := by rw [← e287]; exact x_up_k (by decide)
    have q833 : h247 75 6 = h211 75 6 := by rw [← e249]; exact x_up_k (by decide)
    have q834 : h211 75 6 = h177 75 6 := by rw [← e213]; exact x_up_k (by decide)
    have q835 : h177 75 6 = h145 75 6 := by rw [← e179]; exact x_up_k (by decide)
    have q836 : h145 75 6 = h114 75 6 := by rw [← e147]; exact x_up_k (by decide)
    have q837 : h114 75 6 = h85 75 6 := by rw [← e116]; exact x_up_k (by decide)
    have q838 : h85 75 6 = h58 75 6 := by rw [← e87]; exact x_up_k (by decide)
    have q839 : h58 75 6 = h31 75 6 := by rw [← e60]; exact x_up_k (by decide)
    have q840 : h31 75 6 = h26 75 6 := by rw [← e33]; exact x_up_k (by decide)
    have q841 : h26 75 6 = h21 75 6 := by rw [← e28]; exact x_up_k (by decide)
    have q842 : h21 75 6 = h16 75 6 := by rw [← e23]; exact x_up_k (by decide)
    have q843 : h16 75 6 = h11 75 6 := by rw [← e18]; exact x_up_k (by decide)
    have q844 : h11 75 6 = h1 75 6 := by rw [← e13]; exact x_up_k (by decide)
    have q845 : h1 75 6 = h 75 6 := by rw [← e3]; exact x_up_i (by omega)
    refine x_getC (np := 75) (x := 710) (f := 6) (q := (h 75 6)) (by decide +kernel) (by decide) (by decide +kernel) ((((((((((((((((((((((((q821.trans q822).trans q823).trans q824).trans q825).trans q826).trans q827).trans q828).trans q829).trans q830).trans q831).trans q832).trans q833).trans q834).trans q835).trans q836).trans q837).trans q838).trans q839).trans q840).trans q841).trans q842).trans q843).trans q844).trans q845) (fun l846 => ?_)
    refine x_iload (np := 77) (x := 6) (by decide +kernel) rfl (by decide) ?_
    refine x_iadd (np := 78) (x := 0) (v := (19 + (h 75 6))) (by decide +kernel) l7 (by decide) (by omega) (by omega) ?_
    refine x_aload (np := 79) (x := 0) (by decide +kernel) rfl (x_nc_le (by decide)) ?_
    have q847 : h814 75 12 = 80 := by have z := jB (e := 12) 0 j815 rg_75_12_0_1 (by decide) (by decide); omega
    refine x_getR (np := 82) (x := 716) (f := 12) (q := 80) (by decide +kernel) (by decide) (by decide +kernel) q847 ?_
    refine x_iload (np := 84) (x := 6) (by decide +kernel) rfl (by decide) ?_
    refine x_const (np := 85) (x := 9223372056182128644) (a := 2147483652) (by decide +kernel) (by decide) (by decide) ?_
    refine x_div (np := 86) (i := 19) (j := 4) (by decide +kernel) (by omega) (by decide) (by omega) (by decide) ?_
    show X _ _ _ _ _ _ _ _ [iv_c 2147483652, x_r 80, iv_c (19 + (h 75 6)), x_r 79] _
    have q848 : h814 80 4 = h757 80 4 := by rw [← e816]; exact x_up_k (by decide)
    have q849 : h757 80 4 = h702 80 4 := by rw [← e759]; exact x_up_k (by decide)
    have q850 : h702 80 4 = h649 80 4 := by rw [← e704]; exact x_up_k (by decide)
    have q851 : h649 80 4 = h597 80 4 := by rw [← e651]; exact x_up_k (by decide)
    have q852 : h597 80 4 = h547 80 4 := by rw [← e599]; exact x_up_k (by decide)
    have q853 : h547 80 4 = h499 80 4 := by rw [← e549]; exact x_up_k (by decide)
    have q854 : h499 80 4 = h453 80 4 := by rw [← e501]; exact x_up_k (by decide)
    have q855 : h453 80 4 = h408 80 4 := by rw [← e455]; exact x_up_k (by decide)
    have q856 : h408 80 4 = h365 80 4 := by rw [← e410]; exact x_up_k (by decide)
    have q857 : h365 80 4 = h324 80 4 := by rw [← e367]; exact x_up_k (by decide)
    have q858 : h324 80 4 = h285 80 4 := by rw [← e326]; exact x_up_k (by decide)
    have q859 : h285 80 4 = h247 80 4 := by rw [← e287]; exact x_up_k (by decide)
    have q860 : h247 80 4 = h211 80 4 := by rw [← e249]; exact x_up_k (by decide)
    have q861 : h211 80 4 = h177 80 4 := by rw [← e213]; exact x_up_k (by decide)
    have q862 : h177 80 4 = h145 80 4 := by rw [← e179]; exact x_up_k (by decide)
    have q863 : h145 80 4 = h114 80 4 := by rw [← e147]; exact x_up_k (by decide)
    have q864 : h114 80 4 = h85 80 4 := by rw [← e116]; exact x_up_k (by decide)
    have q865 : h85 80 4 = h58 80 4 := by rw [← e87]; exact x_up_k (by decide)
    have q866 : h58 80 4 = h31 80 4 := by rw [← e60]; exact x_up_k (by decide)
    have q867 : h31 80 4 = a5 := by rw [← e33]; exact x_up_at
    refine x_aldC (np := 87) (x := 0) (n := 5) (i := 4) (q := a5) (by decide +kernel) (by decide +kernel) (by omega) (by omega) (by decide) (((((((((((((((((((q848.trans q849).trans q850).trans q851).trans q852).trans q853).trans q854).trans q855).trans q856).trans q857).trans q858).trans q859).trans q860).trans q861).trans q862).trans q863).trans q864).trans q865).trans q866).trans q867) (fun l868 => ?_)
    refine x_const (np := 89) (x := 9223372142081474584) (a := 2147483672) (by decide +kernel) (by decide) (by decide) ?_
    refine x_const (np := 91) (x := 9223372073361997832) (a := 2147483656) (by decide +kernel) (by decide) (by decide) ?_
    refine x_iload (np := 93) (x := 6) (by decide +kernel) rfl (by decide) ?_
    refine x_const (np := 94) (x := 9223372056182128644) (a := 2147483652) (by decide +kernel) (by decide) (by decide) ?_
    refine x_rem (np := 95) (i := 19) (j := 4) (by decide +kernel) (by omega) (by decide) (by omega) (by decide) ?_
    show X _ _ _ _ _ _ _ _ [iv_c 2147483651, iv_c 2147483656, iv_c 2147483672, iv_c a5, iv_c (19 + (h 75 6)), x_r 79] _
    refine x_imul (np := 96) (x := 0) (i := 8) (j := 3) (v := 2147483672) (by decide +kernel) (by omega) (by omega) (by omega) (by omega) (by decide) (by decide) ?_
    refine x_isub (np := 97) (x := 0) (v := 2147483648) (by decide +kernel) (by decide) (by decide) (by omega) (by omega) ?_
    refine x_shrE (np := 98) (by decide +kernel) la5 (by decide) (fun l870 => ?_)
    refine x_b8 (by rw [tb_b165]; decide +kernel) l870 (fun l871 l872 => ?_)
    refine x_ast (np := 100) (x := 0) (kd := 2) (n := 400) (i := (19 + u56)) (by decide +kernel) (Or.inr rfl) (by decide +kernel) (by omega) (by omega) (by decide) (by omega) (fun _ => by omega) ?_
    have j874 := jU (e := (19 + u56)) (v := (b8 (bsh a5 2147483648))) (19 + u56) j815 rg_79_0_1_400 (by omega) (by omega) (by omega)
    have f876 := jF (e := (19 + u56)) (v := (b8 (bsh a5 2147483648))) (19 + u56) f817 rg_79_0_1_400 (by omega) (by omega) (by decide)
    generalize e875 : x_up h814 79 (19 + u56) (b8 (bsh a5 2147483648)) = h873 at j874 f876 ⊢
    refine x_iinc (np := 103) (i := 6) (j := 2147483649) (v := 2147483668) (lo' := [x_r 75, iv_c a1, iv_c a2, iv_c a3, iv_c a4, iv_c a5, iv_c 2147483668]) (by decide +kernel) (by decide) (by decide) rfl (by decide) (by omega) (by omega) rfl ?_
    refine x_goto (np := 106) (x := 60) (by decide +kernel) ?_
    refine x_iload (np := 62) (x := 6) (by decide +kernel) rfl (by decide) ?_
    refine x_const (np := 64) (x := 9223372124901605396) (a := 2147483668) (by decide +kernel) (by decide) (by decide) ?_
    refine x_icmp (k := 3) (tg := 106) (np := 67) (by decide +kernel) (by decide) (by decide) (by decide) (fun q877 => ?_) (fun q878 => ?_)
    · have q877 : 2147483668 ≤ 2147483668 := q877
      refine x_aload (np := 107) (x := 0) (by decide +kernel) rfl (x_nc_le (by decide)) ?_
      refine x_dup (np := 108) (x := 0) (by decide +kernel) (by have z := x_nc_le (k := 75) (by decide); unfold x_r; omega) ?_
      have q879 : h873 75 6 = h814 75 6 := by rw [← e875]; exact x_up_k (by decide)
      have q880 : h814 75 6 = h757 75 6 := by rw [← e816]; exact x_up_k (by decide)
      have q881 : h757 75 6 = h702 75 6 := by rw [← e759]; exact x_up_k (by decide)
      have q882 : h702 75 6 = h649 75 6 := by rw [← e704]; exact x_up_k (by decide)
      have q883 : h649 75 6 = h597 75 6 := by rw [← e651]; exact x_up_k (by decide)
      have q884 : h597 75 6 = h547 75 6 := by rw [← e599]; exact x_up_k (by decide)
      have q885 : h547 75 6 = h499 75 6 := by rw [← e549]; exact x_up_k (by decide)
      have q886 : h499 75 6 = h453 75 6 := by rw [← e501]; exact x_up_k (by decide)
      have q887 : h453 75 6 = h408 75 6 := by rw [← e455]; exact x_up_k (by decide)
      have q888 : h408 75 6 = h365 75 6 := by rw [← e410]; exact x_up_k (by decide)
      have q889 : h365 75 6 = h324 75 6 := by rw [← e367]; exact x_up_k (by decide)
      have q890 : h324 75 6 = h285 75 6 := by rw [← e326]; exact x_up_k (by decide)
      have q891 : h285 75 6 = h247 75 6 := by rw [← e287]; exact x_up_k (by decide)
      have q892 : h247 75 6 = h211 75 6 := by rw [← e249]; exact x_up_k (by decide)
      have q893 : h211 75 6 = h177 75 6 := by rw [← e213]; exact x_up_k (by decide)
      have q894 : h177 75 6 = h145 75 6 := by rw [← e179]; exact x_up_k (by decide)
      have q895 : h145 75 6 = h114 75 6 := by rw [← e147]; exact x_up_k (by decide)
      have q896 : h114 75 6 = h85 75 6 := by rw [← e116]; exact x_up_k (by decide)
      have q897 : h85 75 6 = h58 75 6 := by rw [← e87]; exact x_up_k (by decide)
      have q898 : h58 75 6 = h31 75 6 := by rw [← e60]; exact x_up_k (by decide)
      have q899 : h31 75 6 = h26 75 6 := by rw [← e33]; exact x_up_k (by decide)
      have q900 : h26 75 6 = h21 75 6 := by rw [← e28]; exact x_up_k (by decide)
      have q901 : h21 75 6 = h16 75 6 := by rw [← e23]; exact x_up_k (by decide)
      have q902 : h16 75 6 = h11 75 6 := by rw [← e18]; exact x_up_k (by decide)
      have q903 : h11 75 6 = h1 75 6 := by rw [← e13]; exact x_up_k (by decide)
      have q904 : h1 75 6 = h 75 6 := by rw [← e3]; exact x_up_i (by omega)
      refine x_getC (np := 111) (x := 710) (f := 6) (q := (h 75 6)) (by decide +kernel) (by decide) (by decide +kernel) (((((((((((((((((((((((((q879.trans q880).trans q881).trans q882).trans q883).trans q884).trans q885).trans q886).trans q887).trans q888).trans q889).trans q890).trans q891).trans q892).trans q893).trans q894).trans q895).trans q896).trans q897).trans q898).trans q899).trans q900).trans q901).trans q902).trans q903).trans q904) (fun l905 => ?_)
      refine x_const (np := 113) (x := 9223372124901605396) (a := 2147483668) (by decide +kernel) (by decide) (by decide) ?_
      refine x_iadd (np := 114) (x := 0) (v := (20 + (h 75 6))) (by decide +kernel) l7 (by decide) (by omega) (by omega) ?_
      refine x_putI (np := 117) (x := 710) (f := 6) (by decide +kernel) (by decide +kernel) (by omega) (Or.inl (by decide)) ?_
      have j907 := jU (e := 6) (v := (20 + (h 75 6))) 0 j874 rg_75_6_0_1 (by omega) (by omega) (by omega)
      have f909 := jF (e := 6) (v := (20 + (h 75 6))) 0 f876 rg_75_6_0_1 (by omega) (by omega) (by decide)
      generalize e908 : x_up h873 75 6 (20 + (h 75 6)) = h906 at j907 f909 ⊢
      refine x_aload (np := 118) (x := 0) (by decide +kernel) rfl (x_nc_le (by decide)) ?_
      have q910 : h906 75 6 = (20 + (h 75 6)) := by rw [← e908]; exact x_up_at
      refine x_getC (np := 121) (x := 710) (f := 6) (q := (20 + (h 75 6))) (by decide +kernel) (by decide) (by decide +kernel) q910 (fun l911 => ?_)
      have q912 : h906 75 6 = (20 + (h 75 6)) := by rw [← e908]; exact x_up_at
      have q913 : h906 75 6 = (20 + (h 75 6)) := by rw [← e908]; exact x_up_at
      have m914 : Ap 79 h h1 u56 0 (g20 a1 a2 a3 a4 a5) := by rw [← e3]; exact Ap.oth (Ap.zero (c := 79) (s := u56) (f := (g20 a1 a2 a3 a4 a5))) (by decide)
      have m915 : Ap 79 h h11 u56 0 (g20 a1 a2 a3 a4 a5) := by rw [← e13]; exact Ap.oth m914 (by decide)
      have m916 : Ap 79 h h16 u56 0 (g20 a1 a2 a3 a4 a5) := by rw [← e18]; exact Ap.oth m915 (by decide)
      have m917 : Ap 79 h h21 u56 0 (g20 a1 a2 a3 a4 a5) := by rw [← e23]; exact Ap.oth m916 (by decide)
      have m918 : Ap 79 h h26 u56 0 (g20 a1 a2 a3 a4 a5) := by rw [← e28]; exact Ap.oth m917 (by decide)
      have m919 : Ap 79 h h31 u56 0 (g20 a1 a2 a3 a4 a5) := by rw [← e33]; exact Ap.oth m918 (by decide)
      have m920 : Ap 79 h h58 u56 1 (g20 a1 a2 a3 a4 a5) := by rw [← e60]; exact Ap.put m919 (by omega) rfl
      have m921 : Ap 79 h h85 u56 2 (g20 a1 a2 a3 a4 a5) := by rw [← e87]; exact Ap.put m920 (by omega) rfl
      have m922 : Ap 79 h h114 u56 3 (g20 a1 a2 a3 a4 a5) := by rw [← e116]; exact Ap.put m921 (by omega) rfl
      have m923 : Ap 79 h h145 u56 4 (g20 a1 a2 a3 a4 a5) := by rw [← e147]; exact Ap.put m922 (by omega) rfl
      have m924 : Ap 79 h h177 u56 5 (g20 a1 a2 a3 a4 a5) := by rw [← e179]; exact Ap.put m923 (by omega) rfl
      have m925 : Ap 79 h h211 u56 6 (g20 a1 a2 a3 a4 a5) := by rw [← e213]; exact Ap.put m924 (by omega) rfl
      have m926 : Ap 79 h h247 u56 7 (g20 a1 a2 a3 a4 a5) := by rw [← e249]; exact Ap.put m925 (by omega) rfl
      have m927 : Ap 79 h h285 u56 8 (g20 a1 a2 a3 a4 a5) := by rw [← e287]; exact Ap.put m926 (by omega) rfl
      have m928 : Ap 79 h h324 u56 9 (g20 a1 a2 a3 a4 a5) := by rw [← e326]; exact Ap.put m927 (by omega) rfl
      have m929 : Ap 79 h h365 u56 10 (g20 a1 a2 a3 a4 a5) := by rw [← e367]; exact Ap.put m928 (by omega) rfl
      have m930 : Ap 79 h h408 u56 11 (g20 a1 a2 a3 a4 a5) := by rw [← e410]; exact Ap.put m929 (by omega) rfl
      have m931 : Ap 79 h h453 u56 12 (g20 a1 a2 a3 a4 a5) := by rw [← e455]; exact Ap.put m930 (by omega) rfl
      have m932 : Ap 79 h h499 u56 13 (g20 a1 a2 a3 a4 a5) := by rw [← e501]; exact Ap.put m931 (by omega) rfl
      have m933 : Ap 79 h h547 u56 14 (g20 a1 a2 a3 a4 a5) := by rw [← e549]; exact Ap.put m932 (by omega) rfl
      have m934 : Ap 79 h h597 u56 15 (g20 a1 a2 a3 a4 a5) := by rw [← e599]; exact Ap.put m933 (by omega) rfl
      have m935 : Ap 79 h h649 u56 16 (g20 a1 a2 a3 a4 a5) := by rw [← e651]; exact Ap.put m934 (by omega) rfl
      have m936 : Ap 79 h h702 u56 17 (g20 a1 a2 a3 a4 a5) := by rw [← e704]; exact Ap.put m935 (by omega) rfl
      have m937 : Ap 79 h h757 u56 18 (g20 a1 a2 a3 a4 a5) := by rw [← e759]; exact Ap.put m936 (by omega) rfl
      have m938 : Ap 79 h h814 u56 19 (g20 a1 a2 a3 a4 a5) := by rw [← e816]; exact Ap.put m937 (by omega) rfl
      have m939 : Ap 79 h h873 u56 20 (g20 a1 a2 a3 a4 a5) := by rw [← e875]; exact Ap.put m938 (by omega) rfl
      have m940 : Ap 79 h h906 u56 20 (g20 a1 a2 a3 a4 a5) := by rw [← e908]; exact Ap.oth m939 (by decide)
      refine x_retI (np := 122) (x := 0) (by decide +kernel) (by omega) (Or.inl (by decide +kernel)) ⟨_, rfl, (by omega), ?_⟩
      exact ⟨j907, f909, (by omega), (fun z => by omega), (fun z => by omega), (fun _ => Ap.cast m940 (by omega)), (fun z => absurd z (by omega))⟩
    have q878 : ¬ (2147483668 ≤ 2147483668) := q878
    exfalso; omega
  have q9 : ¬ ((20 + (h 75 6)) ≤ 2147484048) := q9
  refine x_const (np := 19) (x := 9223372034707292159) (a := 2147483647) (by decide +kernel) (by decide) (by decide) ?_
  have q941 : h1 75 6 = h 75 6 := by rw [← e3]; exact x_up_i (by omega)
  have q942 : h1 75 6 = h 75 6 := by rw [← e3]; exact x_up_i (by omega)
  refine x_retI (np := 20) (x := 0) (by decide +kernel) (by decide) (Or.inl (by decide +kernel)) ⟨_, rfl, (by decide), ?_⟩
  exact ⟨j2, f4, (by omega), (fun z => by omega), (fun z => by omega), (fun z => absurd z (by omega)), (fun _ u => by rw [← e3, x_up_k (by decide)])⟩
set_option maxHeartbeats 0 in
/-- LentNames$Tape.moveTo(I)V -/
theorem c80_1nn {sc : Nat × Nat} {d a1 : Nat} {h : xh} {tB : Nat → Nat} {tN : Nat} (hJ : J h) (ba1 : 2147483648 ≤ a1 ∧ a1 ≤ 2147484048) (hT : Tp tB tN h) : X sc 80 d (xV fun h' => J h' ∧ Fr 33 h h' ∧ (a1 ≤ h' 1 2) ∧ h' 1 2 = sk tB tN a1) 0 0 0 [x_r 1, iv_c a1] [] h := by
  have la1 : a1 < 4294967296 := by omega
  have hF := Fr.refl 33 h
  refine x_aload (np := 1) (x := 0) (by decide +kernel) rfl (x_nc_le (by decide)) ?_
  refine x_iload (np := 2) (x := 1) (by decide +kernel) rfl la1 ?_
  refine x_putI (np := 5) (x := 450) (f := 2) (by decide +kernel) (by decide +kernel) la1 (Or.inl (by decide)) ?_
  have j2 := jU (e := 2) (v := a1) 0 hJ rg_1_2_0_1 (by omega) (by omega) (by omega)
  have f4 := jF (e := 2) (v := a1) 0 hF rg_1_2_0_1 (by omega) (by omega) (by decide)
  generalize e3 : x_up h 1 2 a1 = h1 at j2 f4 ⊢
  have p57 : ∀ (n : Nat) (h54 : xh), 4294967296 - h54 1 2 < n → a1 ≤ h54 1 2 → J h54 → Fr 32 h1 h54 → sk tB tN a1 = sk tB tN (h54 1 2) → X sc 80 d (xV fun h' => J h' ∧ Fr 33 h h' ∧ (a1 ≤ h' 1 2) ∧ h' 1 2 = sk tB tN a1) 0 0 5 [x_r 1, iv_c a1] [] h54 := by
    intro n
    induction n with
    | zero => intro h54 q60; exact absurd q60 (Nat.not_lt_zero _)
    | succ n i61 =>
      intro h54 q60 b58 j56 f55 m59
      have f62 := Fr.trans f4 f55 (by decide)
      refine x_aload (np := 6) (x := 0) (by decide +kernel) rfl (x_nc_le (by decide)) ?_
      have b63 := jB (e := 2) 0 j56 rg_1_2_0_1 (by omega) (by omega)
      refine x_getC (np := 9) (x := 450) (f := 2) (q := (h54 1 2)) (by decide +kernel) (by decide) (by decide +kernel) rfl (fun l64 => ?_)
      refine x_aload (np := 10) (x := 0) (by decide +kernel) rfl (x_nc_le (by decide)) ?_
      have q65 : h54 1 1 = h1 1 1 := jK 0 f55 rg_1_1_0_1 (by omega) (by omega) (by decide)
      have q66 : h1 1 1 = h 1 1 := by rw [← e3]; exact x_up_i (by omega)
      have b67 := jB (e := 1) 0 hJ rg_1_1_0_1 (by omega) (by omega)
      refine x_getC (np := 13) (x := 449) (f := 1) (q := (h 1 1)) (by decide +kernel) (by decide) (by decide +kernel) (q65.trans q66) (fun l68 => ?_)
      refine x_icmp (k := 3) (tg := 43) (np := 16) (by decide +kernel) (by decide) l64 l68 (fun q69 => ?_) (fun q70 => ?_)
      · have q69 : (h 1 1) ≤ (h54 1 2) := q69
        have q71 : h54 1 1 = h1 1 1 := jK 0 f55 rg_1_1_0_1 (by omega) (by omega) (by decide)
        have q72 : h1 1 1 = h 1 1 := by rw [← e3]; exact x_up_i (by omega)
        have m75 : Tp tB tN h1 := by rw [← e3]; exact Tp.oth hT (by decide) (by decide)
        have m74 := Tp.fr m75 f55 (by decide) (by decide)
        have z73 := m74.1
        refine x_retV (np := 44) (x := 0) (by decide +kernel) (by decide +kernel) ⟨rfl, ?_⟩
        exact ⟨j56, f62, (by omega), ((m59.trans (sk_stop (by omega))).symm)⟩
      have q70 : ¬ ((h 1 1) ≤ (h54 1 2)) := q70
      refine x_aload (np := 17) (x := 0) (by decide +kernel) rfl (x_nc_le (by decide)) ?_
      have q76 : h54 1 0 = 2 := by have z := jB (e := 0) 0 j56 rg_1_0_0_1 (by decide) (by decide); omega
      refine x_getR (np := 20) (x := 448) (f := 0) (q := 2) (by decide +kernel) (by decide) (by decide +kernel) q76 ?_
      refine x_aload (np := 21) (x := 0) (by decide +kernel) rfl (x_nc_le (by decide)) ?_
      refine x_getC (np := 24) (x := 450) (f := 2) (q := (h54 1 2)) (by decide +kernel) (by decide) (by decide +kernel) rfl (fun l77 => ?_)
      obtain ⟨u78, q79⟩ : ∃ z, (h54 1 2) = 2147483648 + z := ⟨(h54 1 2) - 2147483648, by omega⟩
      have q80 : h54 2 u78 = h1 2 u78 := jK u78 f55 rg_2_0_1_400 (by omega) (by omega) (by decide)
      have q81 : h1 2 u78 = h 2 u78 := by rw [← e3]; exact x_up_k (by decide)
      refine x_aldC (np := 25) (x := 0) (n := 400) (i := u78) (q := (h 2 u78)) (by decide +kernel) (by decide +kernel) (by omega) (by omega) (by decide) (q80.trans q81) (fun l82 => ?_)
      refine x_const (np := 27) (x := 9223372176441212960) (a := 2147483680) (by decide +kernel) (by decide) (by decide) ?_
      refine x_icmp (k := 1) (tg := 43) (np := 30) (by decide +kernel) (by decide) l82 (by decide) (fun q83 => ?_) (fun q84 => ?_)
      · have q83 : (h 2 u78) ≠ 2147483680 := q83
        have q85 : h54 1 1 = h1 1 1 := jK 0 f55 rg_1_1_0_1 (by omega) (by omega) (by decide)
        have q86 : h1 1 1 = h 1 1 := by rw [← e3]; exact x_up_i (by omega)
        have m89 : Tp tB tN h1 := by rw [← e3]; exact Tp.oth hT (by decide) (by decide)
        have m88 := Tp.fr m89 f55 (by decide) (by decide)
        have z87 := m88.1
        have q90 : h54 2 u78 = h1 2 u78 := jK u78 f55 rg_2_0_1_400 (by omega) (by omega) (by decide)
        have q91 : h1 2 u78 = h 2 u78 := by rw [← e3]; exact x_up_k (by decide)
        have z92 := Tp.at (p := (h54 1 2)) (u := u78) m88 (by omega) (by omega)
        refine x_retV (np := 44) (x := 0) (by decide +kernel) (by decide +kernel) ⟨rfl, ?_⟩
        exact ⟨j56, f62, (by omega), ((m59.trans (sk_stop (by omega))).symm)⟩
      have q84 : ¬ ((h 2 u78) ≠ 2147483680) := q84
      refine x_aload (np := 31) (x := 0) (by decide +kernel) rfl (x_nc_le (by decide)) ?_
      refine x_dup (np := 32) (x := 0) (by decide +kernel) (by have z := x_nc_le (k := 1) (by decide); unfold x_r; omega) ?_
      refine x_getC (np := 35) (x := 450) (f := 2) (q := (h54 1 2)) (by decide +kernel) (by decide) (by decide +kernel) rfl (fun l93 => ?_)
      refine x_const (np := 36) (x := 9223372043297226753) (a := 2147483649) (by decide +kernel) (by decide) (by decide) ?_
      refine x_iadd (np := 37) (x := 0) (v := (1 + (h54 1 2))) (by decide +kernel) l64 (by decide) (by omega) (by omega) ?_
      refine x_putI (np := 40) (x := 450) (f := 2) (by decide +kernel) (by decide +kernel) (by omega) (Or.inl (by decide)) ?_
      have j95 := jU (e := 2) (v := (1 + (h54 1 2))) 0 j56 rg_1_2_0_1 (by omega) (by omega) (by omega)
      have f97 := jF (e := 2) (v := (1 + (h54 1 2))) 0 f62 rg_1_2_0_1 (by omega) (by omega) (by decide)
      have f98 := jF (e := 2) (v := (1 + (h54 1 2))) 0 f55 rg_1_2_0_1 (by omega) (by omega) (by decide)
      generalize e96 : x_up h54 1 2 (1 + (h54 1 2)) = h94 at j95 f97 f98 ⊢
      refine x_goto (np := 43) (x := 5) (by decide +kernel) ?_
      have q99 : h94 1 2 = (1 + (h54 1 2)) := by rw [← e96]; exact x_up_at
      have q100 : h94 1 2 = (1 + (h54 1 2)) := by rw [← e96]; exact x_up_at
      have q101 : h54 1 1 = h1 1 1 := jK 0 f55 rg_1_1_0_1 (by omega) (by omega) (by decide)
      have q102 : h1 1 1 = h 1 1 := by rw [← e3]; exact x_up_i (by omega)
      have m105 : Tp tB tN h1 := by rw [← e3]; exact Tp.oth hT (by decide) (by decide)
      have m104 := Tp.fr m105 f55 (by decide) (by decide)
      have z103 := m104.1
      have q106 : h54 2 u78 = h1 2 u78 := jK u78 f55 rg_2_0_1_400 (by omega) (by omega) (by decide)
      have q107 : h1 2 u78 = h 2 u78 := by rw [← e3]; exact x_up_k (by decide)
      have z108 := Tp.at (p := (h54 1 2)) (u := u78) m104 (by omega) (by omega)
      have q109 : h94 1 2 = (1 + (h54 1 2)) := by rw [← e96]; exact x_up_at
      exact i61  h94 (by omega) (by omega) j95 f98 (m59.trans ((sk_step (by omega) (by omega)).trans (congrArg (sk tB tN) (show h54 1 2 + 1 = h94 1 2 by omega))))
  have q110 : h1 1 2 = a1 := by rw [← e3]; exact x_up_at
  have q111 : h1 1 2 = a1 := by rw [← e3]; exact x_up_at
  exact p57 _  h1 (Nat.lt_succ_self _) (by omega) j2 (Fr.refl _ _) (congrArg (sk tB tN) (show a1 = h1 1 2 by omega))
set_option maxHeartbeats 0 in
/-- LentNames$Tape.isWord(Ljava/lang/String;)Z -/
theorem c77_1_S0n {sc : Nat × Nat} {d ia1 : Nat} {h : xh} {tB : Nat → Nat} {tN : Nat} (hJ : J h) (hia1 : ia1 < 32) (hT : Tp tB tN h) : X sc 77 (d + 4) (xI fun r h' => h' = h ∧ (2147483648 ≤ r ∧ r ≤ 2147483649) ∧ (r = 2147483649 → h 1 2 + iv_tl ia1 ≤ 2147484048) ∧ Is (Wd tB tN ia1 (h 1 2)) r) 0 0 0 [x_r 1, x_b (ia1 + 1), 147573952589676412928, 147573952589676412928] [] h := by
  refine x_aload (np := 1) (x := 0) (by decide +kernel) rfl (x_nc_le (by decide)) ?_
  have b1 := jB (e := 2) 0 hJ rg_1_2_0_1 (by omega) (by omega)
  refine x_getC (np := 4) (x := 450) (f := 2) (q := (h 1 2)) (by decide +kernel) (by decide) (by decide +kernel) rfl (fun l2 => ?_)
  refine x_aloadB (i := ia1) (k4 := 1) rfl hia1 (by rw [tb_b77]; decide +kernel) ?_
  have b3 := (iv_tl_lt ia1 hia1).1
  have b4 := iv_tl_ge ia1 hia1
  refine x_len (by decide +kernel) (by rw [tb_y77]; exact sl_Tl) hia1 (by rw [tb_b77]; decide +kernel) (Nat.le_trans (x_wi l2 x_wn) (by decide)) ?_
  refine x_iadd (np := 9) (x := 0) (v := ((h 1 2) + (iv_tl ia1))) (by decide +kernel) l2 (by omega) (by omega) (by omega) ?_
  refine x_istore (np := 10) (x := 2) (lo' := [x_r 1, x_b (ia1 + 1), iv_c ((h 1 2) + (iv_tl ia1)), 147573952589676412928]) (by decide +kernel) (by omega) (Nat.le_of_ble_eq_true rfl) rfl ?_
  refine x_iload (np := 11) (x := 2) (by decide +kernel) rfl (by omega) ?_
  refine x_aload (np := 12) (x := 0) (by decide +kernel) rfl (x_nc_le (by decide)) ?_
  have b5 := jB (e := 1) 0 hJ rg_1_1_0_1 (by omega) (by omega)
  refine x_getC (np := 15) (x := 449) (f := 1) (q := (h 1 1)) (by decide +kernel) (by decide) (by decide +kernel) rfl (fun l6 => ?_)
  refine x_icmp (k := 5) (tg := 20) (np := 18) (by decide +kernel) (by decide) (by omega) l6 (fun q7 => ?_) (fun q8 => ?_)
  · have q7 : ((h 1 2) + (iv_tl ia1)) ≤ (h 1 1) := q7
    refine x_aload (np := 21) (x := 0) (by decide +kernel) rfl (x_nc_le (by decide)) ?_
    refine x_getC (np := 24) (x := 450) (f := 2) (q := (h 1 2)) (by decide +kernel) (by decide) (by decide +kernel) rfl (fun l9 => ?_)
    refine x_istore (np := 25) (x := 3) (lo' := [x_r 1, x_b (ia1 + 1), iv_c ((h 1 2) + (iv_tl ia1)), iv_c (h 1 2)]) (by decide +kernel) l2 (Nat.le_of_ble_eq_true rfl) rfl ?_
    have p76 : ∀ (n : Nat) (v74 : Nat), 4294967296 - v74 < n → (2147483648 ≤ v74 ∧ v74 ≤ 2147484479) → (h 1 2) ≤ v74 → (∀ j, j < v74 - h 1 2 → tB (h 1 2 + j) = 2147483648 + iv_tc ia1 j) → X sc 77 (d + 4) (xI fun r h' => h' = h ∧ (2147483648 ≤ r ∧ r ≤ 2147483649) ∧ (r = 2147483649 → h 1 2 + iv_tl ia1 ≤ 2147484048) ∧ Is (Wd tB tN ia1 (h 1 2)) r) 0 0 25 [x_r 1, x_b (ia1 + 1), iv_c ((h 1 2) + (iv_tl ia1)), iv_c v74] [] h := by
      intro n
      induction n with
      | zero => intro v74 q79; exact absurd q79 (Nat.not_lt_zero _)
      | succ n i80 =>
        intro v74 q79 b75 b77 m78
        refine x_iload (np := 26) (x := 3) (by decide +kernel) rfl (by omega) ?_
        refine x_iload (np := 27) (x := 2) (by decide +kernel) rfl (by omega) ?_
        refine x_icmp (k := 3) (tg := 57) (np := 30) (by decide +kernel) (by decide) (by omega) (by omega) (fun q81 => ?_) (fun q82 => ?_)
        · have q81 : ((h 1 2) + (iv_tl ia1)) ≤ v74 := q81
          refine x_iload (np := 58) (x := 2) (by decide +kernel) rfl (by omega) ?_
          refine x_aload (np := 59) (x := 0) (by decide +kernel) rfl (x_nc_le (by decide)) ?_
          refine x_getC (np := 62) (x := 449) (f := 1) (q := (h 1 1)) (by decide +kernel) (by decide) (by decide +kernel) rfl (fun l83 => ?_)
          refine x_icmp (k := 0) (tg := 87) (np := 65) (by decide +kernel) (by decide) (by omega) l6 (fun q84 => ?_) (fun q85 => ?_)
          · have q84 : ((h 1 2) + (iv_tl ia1)) = (h 1 1) := q84
            refine x_const (np := 88) (x := 9223372043297226753) (a := 2147483649) (by decide +kernel) (by decide) (by decide) ?_
            refine x_goto (np := 91) (x := 92) (by decide +kernel) ?_
            have z86 := hT.1
            refine x_retI (np := 93) (x := 0) (by decide +kernel) (by decide) (Or.inr ⟨by decide +kernel, by omega, by omega⟩) ⟨_, rfl, (by decide), ?_⟩
            exact ⟨rfl, (by omega), (fun z => by omega), (Is.mk1 (by omega) ⟨by omega, fun j hj => m78 j (by omega), fun z => by have z1 := z.1; have z2 := z.2.1; have z3 := z.2.2; omega⟩)⟩
          have q85 : ¬ (((h 1 2) + (iv_tl ia1)) = (h 1 1)) := q85
          refine x_aload (np := 66) (x := 0) (by decide +kernel) rfl (x_nc_le (by decide)) ?_
          have q87 : h 1 0 = 2 := by have z := jB (e := 0) 0 hJ rg_1_0_0_1 (by decide) (by decide); omega
          refine x_getR (np := 69) (x := 448) (f := 0) (q := 2) (by decide +kernel) (by decide) (by decide +kernel) q87 ?_
          refine x_iload (np := 70) (x := 2) (by decide +kernel) rfl (by omega) ?_
          obtain ⟨u88, q89⟩ : ∃ z, (h 1 2) = 2147483648 + z := ⟨(h 1 2) - 2147483648, by omega⟩
          refine x_aldC (np := 71) (x := 0) (n := 400) (i := ((iv_tl ia1) + u88)) (q := (h 2 ((iv_tl ia1) + u88))) (by decide +kernel) (by decide +kernel) (by omega) (by omega) (by decide) rfl (fun l90 => ?_)
          refine x_const (np := 73) (x := 9223372455614087265) (a := 2147483745) (by decide +kernel) (by decide) (by decide) ?_
          refine x_icmp (k := 2) (tg := 87) (np := 76) (by decide +kernel) (by decide) l90 (by decide) (fun q91 => ?_) (fun q92 => ?_)
          · have q91 : (h 2 ((iv_tl ia1) + u88)) < 2147483745 := q91
            refine x_const (np := 88) (x := 9223372043297226753) (a := 2147483649) (by decide +kernel) (by decide) (by decide) ?_
            refine x_goto (np := 91) (x := 92) (by decide +kernel) ?_
            have z93 := hT.1
            have z94 := Tp.at (p := (h 1 2 + iv_tl ia1)) (u := ((iv_tl ia1) + u88)) hT (by omega) (by omega)
            refine x_retI (np := 93) (x := 0) (by decide +kernel) (by decide) (Or.inr ⟨by decide +kernel, by omega, by omega⟩) ⟨_, rfl, (by decide), ?_⟩
            exact ⟨rfl, (by omega), (fun z => by omega), (Is.mk1 (by omega) ⟨by omega, fun j hj => m78 j (by omega), fun z => by have z1 := z.1; have z2 := z.2.1; have z3 := z.2.2; omega⟩)⟩
          have q92 : ¬ ((h 2 ((iv_tl ia1) + u88)) < 2147483745) := q92
          refine x_aload (np := 77) (x := 0) (by decide +kernel) rfl (x_nc_le (by decide)) ?_
          have q95 : h 1 0 = 2 := by have z := jB (e := 0) 0 hJ rg_1_0_0_1 (by decide) (by decide); omega
          refine x_getR (np := 80) (x := 448) (f := 0) (q := 2) (by decide +kernel) (by decide) (by decide +kernel) q95 ?_
          refine x_iload (np := 81) (x := 2) (by decide +kernel) rfl (by omega) ?_
          refine x_aldC (np := 82) (x := 0) (n := 400) (i := ((iv_tl ia1) + u88)) (q := (h 2 ((iv_tl ia1) + u88))) (by decide +kernel) (by decide +kernel) (by omega) (by omega) (by decide) rfl (fun l96 => ?_)
          refine x_const (np := 84) (x := 9223372562988269690) (a := 2147483770) (by decide +kernel) (by decide) (by decide) ?_
          refine x_icmp (k := 5) (tg := 91) (np := 87) (by decide +kernel) (by decide) l90 (by decide) (fun q97 => ?_) (fun q98 => ?_)
          · have q97 : (h 2 ((iv_tl ia1) + u88)) ≤ 2147483770 := q97
            refine x_const (np := 92) (x := 9223372039002259456) (a := 2147483648) (by decide +kernel) (by decide) (by decide) ?_
            have z99 := hT.1
            have z100 := Tp.at (p := (h 1 2 + iv_tl ia1)) (u := ((iv_tl ia1) + u88)) hT (by omega) (by omega)
            refine x_retI (np := 93) (x := 0) (by decide +kernel) (by decide) (Or.inr ⟨by decide +kernel, by omega, by omega⟩) ⟨_, rfl, (by decide), ?_⟩
            exact ⟨rfl, (by omega), (fun z => by omega), (Is.mk0 (by omega) (fun z => z.2.2 ⟨by omega, by omega, by omega⟩))⟩
          have q98 : ¬ ((h 2 ((iv_tl ia1) + u88)) ≤ 2147483770) := q98
          refine x_const (np := 88) (x := 9223372043297226753) (a := 2147483649) (by decide +kernel) (by decide) (by decide) ?_
          refine x_goto (np := 91) (x := 92) (by decide +kernel) ?_
          have z101 := hT.1
          have z102 := Tp.at (p := (h 1 2 + iv_tl ia1)) (u := ((iv_tl ia1) + u88)) hT (by omega) (by omega)
          refine x_retI (np := 93) (x := 0) (by decide +kernel) (by decide) (Or.inr ⟨by decide +kernel, by omega, by omega⟩) ⟨_, rfl, (by decide), ?_⟩
          exact ⟨rfl, (by omega), (fun z => by omega), (Is.mk1 (by omega) ⟨by omega, fun j hj => m78 j (by omega), fun z => by have z1 := z.1; have z2 := z.2.1; have z3 := z.2.2; omega⟩)⟩
        have q82 : ¬ (((h 1 2) + (iv_tl ia1)) ≤ v74) := q82
        refine x_aload (np := 31) (x := 0) (by decide +kernel) rfl (x_nc_le (by decide)) ?_
        have q103 : h 1 0 = 2 := by have z := jB (e := 0) 0 hJ rg_1_0_0_1 (by decide) (by decide); omega
        refine x_getR (np := 34) (x := 448) (f := 0) (q := 2) (by decide +kernel) (by decide) (by decide +kernel) q103 ?_
        refine x_iload (np := 35) (x := 3) (by decide +kernel) rfl (by omega) ?_
        obtain ⟨u104, q105⟩ : ∃ z, v74 = 2147483648 + z := ⟨v74 - 2147483648, by omega⟩
        refine x_aldC (np := 36) (x := 0) (n := 400) (i := u104) (q := (h 2 u104)) (by decide +kernel) (by decide +kernel) (by omega) (by omega) (by decide) rfl (fun l106 => ?_)
        refine x_aloadB (i := ia1) (k4 := 1) rfl hia1 (by rw [tb_b77]; decide +kernel) ?_
        refine x_iload (np := 38) (x := 3) (by decide +kernel) rfl (by omega) ?_
        refine x_aload (np := 39) (x := 0) (by decide +kernel) rfl (x_nc_le (by decide)) ?_
        refine x_getC (np := 42) (x := 450) (f := 2) (q := (h 1 2)) (by decide +kernel) (by decide) (by decide +kernel) rfl (fun l107 => ?_)
        obtain ⟨v108, q109⟩ : ∃ z, z + (h 1 2) = v74 + 2147483648 := ⟨v74 + 2147483648 - (h 1 2), by omega⟩
        refine x_isub (np := 43) (x := 0) (v := v108) (by decide +kernel) (by omega) l2 (by omega) (by omega) ?_
        obtain ⟨u111, q112⟩ : ∃ z, v108 = 2147483648 + z := ⟨v108 - 2147483648, by omega⟩
        have b110 := (iv_tl_lt ia1 hia1).2 u111 (by omega)
        refine x_chr (j := u111) (by decide +kernel) (by rw [tb_y77]; exact sl_Tc) hia1 (by omega) (by omega) (by rw [tb_b77]; decide +kernel) (Nat.le_trans (x_wi l106 x_wn) (by decide)) ?_
        refine x_icmp (k := 0) (tg := 51) (np := 49) (by decide +kernel) (by decide) l106 (by omega) (fun q113 => ?_) (fun q114 => ?_)
        · have q113 : (h 2 u104) = (2147483648 + (iv_tc ia1 u111)) := q113
          refine x_iinc (np := 54) (i := 3) (j := 2147483649) (v := (1 + v74)) (lo' := [x_r 1, x_b (ia1 + 1), iv_c ((h 1 2) + (iv_tl ia1)), iv_c (1 + v74)]) (by decide +kernel) (by decide) (by decide) rfl (by omega) (by omega) (by omega) rfl ?_
          refine x_goto (np := 57) (x := 25) (by decide +kernel) ?_
          have z115 := Tp.at (p := (h 1 2 + u111)) (u := u104) hT (by omega) (by omega)
          exact i80 (1 + v74) (by omega) (by omega) (by omega) (wIn_st (x := u111) m78 (by omega) (by omega) (by omega))
        have q114 : ¬ ((h 2 u104) = (2147483648 + (iv_tc ia1 u111))) := q114
        refine x_const (np := 50) (x := 9223372039002259456) (a := 2147483648) (by decide +kernel) (by decide) (by decide) ?_
        have z116 := hT.1
        have z117 := Tp.at (p := (h 1 2 + u111)) (u := u104) hT (by omega) (by omega)
        refine x_retI (np := 51) (x := 0) (by decide +kernel) (by decide) (Or.inr ⟨by decide +kernel, by omega, by omega⟩) ⟨_, rfl, (by decide), ?_⟩
        exact ⟨rfl, (by omega), (fun z => by omega), (Is.mk0 (by omega) (fun z => by have z1 := z.2.1 u111 (by omega); omega))⟩
    exact p76 _ (h 1 2) (Nat.lt_succ_self _) (by omega) (by omega) (fun j hj => absurd hj (by omega))
  have q8 : ¬ (((h 1 2) + (iv_tl ia1)) ≤ (h 1 1)) := q8
  refine x_const (np := 19) (x := 9223372039002259456) (a := 2147483648) (by decide +kernel) (by decide) (by decide) ?_
  have z118 := hT.1
  refine x_retI (np := 20) (x := 0) (by decide +kernel) (by decide) (Or.inr ⟨by decide +kernel, by omega, by omega⟩) ⟨_, rfl, (by decide), ?_⟩
  exact ⟨rfl, (by omega), (fun z => by omega), (Is.mk0 (by omega) (fun z => by have z1 := z.1; omega))⟩
