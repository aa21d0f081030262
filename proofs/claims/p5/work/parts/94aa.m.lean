/-! ===== methods ===== -/
set_option maxHeartbeats 0 in
/-- LentNames$Tape.append(I)V -/
theorem c72_1 {sc : Nat × Nat} {d a1 : Nat} {h : xh} (hJ : J h) (ba1 : 0 ≤ a1 ∧ a1 ≤ 4294967295) (hr0 : (h 1 1) + 4 ≤ 2147484048) : X sc 72 d (xV fun h' => J h' ∧ Fr 81 h h' ∧ (h' 1 1 = h 1 1 + 4) ∧ Ap 2 h h' (h 1 1 - 2147483648) 4 (f4 a1)) 0 0 0 [x_r 1, iv_c a1, 147573952589676412928] [] h := by
  have la1 : a1 < 4294967296 := by first | decide | omega
  have hF := Fr.refl 81 h
  have b1 := jB (e := 1) 0 hJ rg_1_1_0_1 (by first | decide | omega) (by first | decide | omega)
  refine x_const (np := 2) (x := 9223372142081474584) (a := 2147483672) (by decide +kernel) (by decide) (by decide) ?_
  refine x_istore (np := 3) (x := 2) (lo' := [x_r 1, iv_c a1, iv_c 2147483672]) (by decide +kernel) (by decide) (Nat.le_of_ble_eq_true rfl) rfl ?_
  refine x_iload (np := 4) (x := 2) (by decide +kernel) rfl (by decide) ?_
  refine x_ifz (k := 2) (tg := 49) (np := 7) (by decide +kernel) (by decide) (by decide) (fun q2 => ?_) (fun q3 => ?_)
  · have q2 : 2147483672 < 2147483648 := q2
    exfalso; omega
  have q3 : ¬ (2147483672 < 2147483648) := q3
  refine x_aload (np := 8) (x := 0) (by decide +kernel) rfl (x_nc_le (by decide)) ?_
  refine x_getC (np := 11) (x := 449) (f := 1) (q := (h 1 1)) (by decide +kernel) (by decide) (by decide +kernel) rfl (fun l4 => ?_)
  refine x_const (np := 14) (x := 9223373756989178256) (a := 2147484048) (by decide +kernel) (by decide) (by decide) ?_
  refine x_icmp (k := 3) (tg := 49) (np := 17) (by decide +kernel) (by decide) l4 (by decide) (fun q5 => ?_) (fun q6 => ?_)
  · have q5 : 2147484048 ≤ (h 1 1) := q5
    exfalso; omega
  have q6 : ¬ (2147484048 ≤ (h 1 1)) := q6
  refine x_aload (np := 18) (x := 0) (by decide +kernel) rfl (x_nc_le (by decide)) ?_
  have q7 : h 1 0 = 2 := by have z := jB (e := 0) 0 hJ rg_1_0_0_1 (by decide) (by decide); omega
  refine x_getR (np := 21) (x := 448) (f := 0) (q := 2) (by decide +kernel) (by decide) (by decide +kernel) q7 ?_
  refine x_aload (np := 22) (x := 0) (by decide +kernel) rfl (x_nc_le (by decide)) ?_
  refine x_getC (np := 25) (x := 449) (f := 1) (q := (h 1 1)) (by decide +kernel) (by decide) (by decide +kernel) rfl (fun l8 => ?_)
  refine x_iload (np := 26) (x := 1) (by decide +kernel) rfl la1 ?_
  refine x_iload (np := 27) (x := 2) (by decide +kernel) rfl (by decide) ?_
  refine x_shrE (np := 28) (by decide +kernel) la1 (by decide) (fun l9 => ?_)
  refine x_const (np := 31) (x := 9223373134218920191) (a := 2147483903) (by decide +kernel) (by decide) (by decide) ?_
  refine x_b255 (np := 32) (by decide +kernel) l9 (fun l10 l11 => ?_)
  obtain ⟨u12, q13⟩ : ∃ z, (h 1 1) = 2147483648 + z := ⟨(h 1 1) - 2147483648, by first | decide | omega⟩
  refine x_ast (np := 33) (x := 0) (kd := 1) (n := 400) (i := u12) (by decide +kernel) (Or.inl rfl) (by decide +kernel) (by first | decide | omega) (by first | decide | omega) (by decide) (by first | decide | omega) (fun z => absurd z (by decide)) ?_
  have j15 := jU (e := u12) (v := (b255 (bsh a1 2147483672))) u12 hJ rg_2_0_1_400 (by first | decide | omega) (by first | decide | omega) (by first | decide | omega)
  have f17 := jF (e := u12) (v := (b255 (bsh a1 2147483672))) u12 hF rg_2_0_1_400 (by first | decide | omega) (by first | decide | omega) (by decide)
  generalize e16 : x_up h 2 u12 (b255 (bsh a1 2147483672)) = h14 at j15 f17 ⊢
  refine x_aload (np := 34) (x := 0) (by decide +kernel) rfl (x_nc_le (by decide)) ?_
  refine x_dup (np := 35) (x := 0) (by decide +kernel) (by have z := x_nc_le (k := 1) (by decide); unfold x_r; omega) ?_
  have q18 : h14 1 1 = h 1 1 := by rw [← e16]; exact x_up_k (by decide)
  refine x_getC (np := 38) (x := 449) (f := 1) (q := (h 1 1)) (by decide +kernel) (by decide) (by decide +kernel) q18 (fun l19 => ?_)
  refine x_const (np := 39) (x := 9223372043297226753) (a := 2147483649) (by decide +kernel) (by decide) (by decide) ?_
  refine x_iadd (np := 40) (x := 0) (v := (1 + (h 1 1))) (by decide +kernel) l4 (by decide) (by first | decide | omega) (by first | decide | omega) ?_
  refine x_putI (np := 43) (x := 449) (f := 1) (by decide +kernel) (by decide +kernel) (by first | decide | omega) (Or.inl (by decide)) ?_
  have j21 := jU (e := 1) (v := (1 + (h 1 1))) 0 j15 rg_1_1_0_1 (by first | decide | omega) (by first | decide | omega) (by first | decide | omega)
  have f23 := jF (e := 1) (v := (1 + (h 1 1))) 0 f17 rg_1_1_0_1 (by first | decide | omega) (by first | decide | omega) (by decide)
  generalize e22 : x_up h14 1 1 (1 + (h 1 1)) = h20 at j21 f23 ⊢
  refine x_iinc (np := 46) (i := 2) (j := 2147483640) (v := 2147483664) (lo' := [x_r 1, iv_c a1, iv_c 2147483664]) (by decide +kernel) (by decide) (by decide) rfl (by decide) (by first | decide | omega) (by first | decide | omega) rfl ?_
  refine x_goto (np := 49) (x := 3) (by decide +kernel) ?_
  refine x_iload (np := 4) (x := 2) (by decide +kernel) rfl (by decide) ?_
  refine x_ifz (k := 2) (tg := 49) (np := 7) (by decide +kernel) (by decide) (by decide) (fun q24 => ?_) (fun q25 => ?_)
  · have q24 : 2147483664 < 2147483648 := q24
    exfalso; omega
  have q25 : ¬ (2147483664 < 2147483648) := q25
  refine x_aload (np := 8) (x := 0) (by decide +kernel) rfl (x_nc_le (by decide)) ?_
  have q26 : h20 1 1 = (1 + (h 1 1)) := by rw [← e22]; exact x_up_at
  refine x_getC (np := 11) (x := 449) (f := 1) (q := (1 + (h 1 1))) (by decide +kernel) (by decide) (by decide +kernel) q26 (fun l27 => ?_)
  refine x_const (np := 14) (x := 9223373756989178256) (a := 2147484048) (by decide +kernel) (by decide) (by decide) ?_
  refine x_icmp (k := 3) (tg := 49) (np := 17) (by decide +kernel) (by decide) (by first | decide | omega) (by decide) (fun q28 => ?_) (fun q29 => ?_)
  · have q28 : 2147484048 ≤ (1 + (h 1 1)) := q28
    exfalso; omega
  have q29 : ¬ (2147484048 ≤ (1 + (h 1 1))) := q29
  refine x_aload (np := 18) (x := 0) (by decide +kernel) rfl (x_nc_le (by decide)) ?_
  have q30 : h20 1 0 = 2 := by have z := jB (e := 0) 0 j21 rg_1_0_0_1 (by decide) (by decide); omega
  refine x_getR (np := 21) (x := 448) (f := 0) (q := 2) (by decide +kernel) (by decide) (by decide +kernel) q30 ?_
  refine x_aload (np := 22) (x := 0) (by decide +kernel) rfl (x_nc_le (by decide)) ?_
  have q31 : h20 1 1 = (1 + (h 1 1)) := by rw [← e22]; exact x_up_at
  refine x_getC (np := 25) (x := 449) (f := 1) (q := (1 + (h 1 1))) (by decide +kernel) (by decide) (by decide +kernel) q31 (fun l32 => ?_)
  refine x_iload (np := 26) (x := 1) (by decide +kernel) rfl la1 ?_
  refine x_iload (np := 27) (x := 2) (by decide +kernel) rfl (by decide) ?_
  refine x_shrE (np := 28) (by decide +kernel) la1 (by decide) (fun l33 => ?_)
  refine x_const (np := 31) (x := 9223373134218920191) (a := 2147483903) (by decide +kernel) (by decide) (by decide) ?_
  refine x_b255 (np := 32) (by decide +kernel) l33 (fun l34 l35 => ?_)
  refine x_ast (np := 33) (x := 0) (kd := 1) (n := 400) (i := (1 + u12)) (by decide +kernel) (Or.inl rfl) (by decide +kernel) (by first | decide | omega) (by first | decide | omega) (by decide) (by first | decide | omega) (fun z => absurd z (by decide)) ?_
  have j37 := jU (e := (1 + u12)) (v := (b255 (bsh a1 2147483664))) (1 + u12) j21 rg_2_0_1_400 (by first | decide | omega) (by first | decide | omega) (by first | decide | omega)
  have f39 := jF (e := (1 + u12)) (v := (b255 (bsh a1 2147483664))) (1 + u12) f23 rg_2_0_1_400 (by first | decide | omega) (by first | decide | omega) (by decide)
  generalize e38 : x_up h20 2 (1 + u12) (b255 (bsh a1 2147483664)) = h36 at j37 f39 ⊢
  refine x_aload (np := 34) (x := 0) (by decide +kernel) rfl (x_nc_le (by decide)) ?_
  refine x_dup (np := 35) (x := 0) (by decide +kernel) (by have z := x_nc_le (k := 1) (by decide); unfold x_r; omega) ?_
  have q40 : h36 1 1 = h20 1 1 := by rw [← e38]; exact x_up_k (by decide)
  have q41 : h20 1 1 = (1 + (h 1 1)) := by rw [← e22]; exact x_up_at
  refine x_getC (np := 38) (x := 449) (f := 1) (q := (1 + (h 1 1))) (by decide +kernel) (by decide) (by decide +kernel) (q40.trans q41) (fun l42 => ?_)
  refine x_const (np := 39) (x := 9223372043297226753) (a := 2147483649) (by decide +kernel) (by decide) (by decide) ?_
  refine x_iadd (np := 40) (x := 0) (v := (2 + (h 1 1))) (by decide +kernel) (by first | decide | omega) (by decide) (by first | decide | omega) (by first | decide | omega) ?_
  refine x_putI (np := 43) (x := 449) (f := 1) (by decide +kernel) (by decide +kernel) (by first | decide | omega) (Or.inl (by decide)) ?_
  have j44 := jU (e := 1) (v := (2 + (h 1 1))) 0 j37 rg_1_1_0_1 (by first | decide | omega) (by first | decide | omega) (by first | decide | omega)
  have f46 := jF (e := 1) (v := (2 + (h 1 1))) 0 f39 rg_1_1_0_1 (by first | decide | omega) (by first | decide | omega) (by decide)
  generalize e45 : x_up h36 1 1 (2 + (h 1 1)) = h43 at j44 f46 ⊢
  refine x_iinc (np := 46) (i := 2) (j := 2147483640) (v := 2147483656) (lo' := [x_r 1, iv_c a1, iv_c 2147483656]) (by decide +kernel) (by decide) (by decide) rfl (by decide) (by first | decide | omega) (by first | decide | omega) rfl ?_
  refine x_goto (np := 49) (x := 3) (by decide +kernel) ?_
  refine x_iload (np := 4) (x := 2) (by decide +kernel) rfl (by decide) ?_
  refine x_ifz (k := 2) (tg := 49) (np := 7) (by decide +kernel) (by decide) (by decide) (fun q47 => ?_) (fun q48 => ?_)
  · have q47 : 2147483656 < 2147483648 := q47
    exfalso; omega
  have q48 : ¬ (2147483656 < 2147483648) := q48
  refine x_aload (np := 8) (x := 0) (by decide +kernel) rfl (x_nc_le (by decide)) ?_
  have q49 : h43 1 1 = (2 + (h 1 1)) := by rw [← e45]; exact x_up_at
  refine x_getC (np := 11) (x := 449) (f := 1) (q := (2 + (h 1 1))) (by decide +kernel) (by decide) (by decide +kernel) q49 (fun l50 => ?_)
  refine x_const (np := 14) (x := 9223373756989178256) (a := 2147484048) (by decide +kernel) (by decide) (by decide) ?_
  refine x_icmp (k := 3) (tg := 49) (np := 17) (by decide +kernel) (by decide) (by first | decide | omega) (by decide) (fun q51 => ?_) (fun q52 => ?_)
  · have q51 : 2147484048 ≤ (2 + (h 1 1)) := q51
    exfalso; omega
  have q52 : ¬ (2147484048 ≤ (2 + (h 1 1))) := q52
  refine x_aload (np := 18) (x := 0) (by decide +kernel) rfl (x_nc_le (by decide)) ?_
  have q53 : h43 1 0 = 2 := by have z := jB (e := 0) 0 j44 rg_1_0_0_1 (by decide) (by decide); omega
  refine x_getR (np := 21) (x := 448) (f := 0) (q := 2) (by decide +kernel) (by decide) (by decide +kernel) q53 ?_
  refine x_aload (np := 22) (x := 0) (by decide +kernel) rfl (x_nc_le (by decide)) ?_
  have q54 : h43 1 1 = (2 + (h 1 1)) := by rw [← e45]; exact x_up_at
  refine x_getC (np := 25) (x := 449) (f := 1) (q := (2 + (h 1 1))) (by decide +kernel) (by decide) (by decide +kernel) q54 (fun l55 => ?_)
  refine x_iload (np := 26) (x := 1) (by decide +kernel) rfl la1 ?_
  refine x_iload (np := 27) (x := 2) (by decide +kernel) rfl (by decide) ?_
  refine x_shrE (np := 28) (by decide +kernel) la1 (by decide) (fun l56 => ?_)
  refine x_const (np := 31) (x := 9223373134218920191) (a := 2147483903) (by decide +kernel) (by decide) (by decide) ?_
  refine x_b255 (np := 32) (by decide +kernel) l56 (fun l57 l58 => ?_)
  refine x_ast (np := 33) (x := 0) (kd := 1) (n := 400) (i := (2 + u12)) (by decide +kernel) (Or.inl rfl) (by decide +kernel) (by first | decide | omega) (by first | decide | omega) (by decide) (by first | decide | omega) (fun z => absurd z (by decide)) ?_
  have j60 := jU (e := (2 + u12)) (v := (b255 (bsh a1 2147483656))) (2 + u12) j44 rg_2_0_1_400 (by first | decide | omega) (by first | decide | omega) (by first | decide | omega)
  have f62 := jF (e := (2 + u12)) (v := (b255 (bsh a1 2147483656))) (2 + u12) f46 rg_2_0_1_400 (by first | decide | omega) (by first | decide | omega) (by decide)
  generalize e61 : x_up h43 2 (2 + u12) (b255 (bsh a1 2147483656)) = h59 at j60 f62 ⊢
  refine x_aload (np := 34) (x := 0) (by decide +kernel) rfl (x_nc_le (by decide)) ?_
  refine x_dup (np := 35) (x := 0) (by decide +kernel) (by have z := x_nc_le (k := 1) (by decide); unfold x_r; omega) ?_
  have q63 : h59 1 1 = h43 1 1 := by rw [← e61]; exact x_up_k (by decide)
  have q64 : h43 1 1 = (2 + (h 1 1)) := by rw [← e45]; exact x_up_at
  refine x_getC (np := 38) (x := 449) (f := 1) (q := (2 + (h 1 1))) (by decide +kernel) (by decide) (by decide +kernel) (q63.trans q64) (fun l65 => ?_)
  refine x_const (np := 39) (x := 9223372043297226753) (a := 2147483649) (by decide +kernel) (by decide) (by decide) ?_
  refine x_iadd (np := 40) (x := 0) (v := (3 + (h 1 1))) (by decide +kernel) (by first | decide | omega) (by decide) (by first | decide | omega) (by first | decide | omega) ?_
  refine x_putI (np := 43) (x := 449) (f := 1) (by decide +kernel) (by decide +kernel) (by first | decide | omega) (Or.inl (by decide)) ?_
  have j67 := jU (e := 1) (v := (3 + (h 1 1))) 0 j60 rg_1_1_0_1 (by first | decide | omega) (by first | decide | omega) (by first | decide | omega)
  have f69 := jF (e := 1) (v := (3 + (h 1 1))) 0 f62 rg_1_1_0_1 (by first | decide | omega) (by first | decide | omega) (by decide)
  generalize e68 : x_up h59 1 1 (3 + (h 1 1)) = h66 at j67 f69 ⊢
  refine x_iinc (np := 46) (i := 2) (j := 2147483640) (v := 2147483648) (lo' := [x_r 1, iv_c a1, iv_c 2147483648]) (by decide +kernel) (by decide) (by decide) rfl (by decide) (by first | decide | omega) (by first | decide | omega) rfl ?_
  refine x_goto (np := 49) (x := 3) (by decide +kernel) ?_
  refine x_iload (np := 4) (x := 2) (by decide +kernel) rfl (by decide) ?_
  refine x_ifz (k := 2) (tg := 49) (np := 7) (by decide +kernel) (by decide) (by decide) (fun q70 => ?_) (fun q71 => ?_)
  · have q70 : 2147483648 < 2147483648 := q70
    exfalso; omega
  have q71 : ¬ (2147483648 < 2147483648) := q71
  refine x_aload (np := 8) (x := 0) (by decide +kernel) rfl (x_nc_le (by decide)) ?_
  have q72 : h66 1 1 = (3 + (h 1 1)) := by rw [← e68]; exact x_up_at
  refine x_getC (np := 11) (x := 449) (f := 1) (q := (3 + (h 1 1))) (by decide +kernel) (by decide) (by decide +kernel) q72 (fun l73 => ?_)
  refine x_const (np := 14) (x := 9223373756989178256) (a := 2147484048) (by decide +kernel) (by decide) (by decide) ?_
  refine x_icmp (k := 3) (tg := 49) (np := 17) (by decide +kernel) (by decide) (by first | decide | omega) (by decide) (fun q74 => ?_) (fun q75 => ?_)
  · have q74 : 2147484048 ≤ (3 + (h 1 1)) := q74
    exfalso; omega
  have q75 : ¬ (2147484048 ≤ (3 + (h 1 1))) := q75
  refine x_aload (np := 18) (x := 0) (by decide +kernel) rfl (x_nc_le (by decide)) ?_
  have q76 : h66 1 0 = 2 := by have z := jB (e := 0) 0 j67 rg_1_0_0_1 (by decide) (by decide); omega
  refine x_getR (np := 21) (x := 448) (f := 0) (q := 2) (by decide +kernel) (by decide) (by decide +kernel) q76 ?_
  refine x_aload (np := 22) (x := 0) (by decide +kernel) rfl (x_nc_le (by decide)) ?_
  have q77 : h66 1 1 = (3 + (h 1 1)) := by rw [← e68]; exact x_up_at
  refine x_getC (np := 25) (x := 449) (f := 1) (q := (3 + (h 1 1))) (by decide +kernel) (by decide) (by decide +kernel) q77 (fun l78 => ?_)
  refine x_iload (np := 26) (x := 1) (by decide +kernel) rfl la1 ?_
  refine x_iload (np := 27) (x := 2) (by decide +kernel) rfl (by decide) ?_
  refine x_shrE (np := 28) (by decide +kernel) la1 (by decide) (fun l79 => ?_)
  refine x_const (np := 31) (x := 9223373134218920191) (a := 2147483903) (by decide +kernel) (by decide) (by decide) ?_
  refine x_b255 (np := 32) (by decide +kernel) l79 (fun l80 l81 => ?_)
  refine x_ast (np := 33) (x := 0) (kd := 1) (n := 400) (i := (3 + u12)) (by decide +kernel) (Or.inl rfl) (by decide +kernel) (by first | decide | omega) (by first | decide | omega) (by decide) (by first | decide | omega) (fun z => absurd z (by decide)) ?_
  have j83 := jU (e := (3 + u12)) (v := (b255 (bsh a1 2147483648))) (3 + u12) j67 rg_2_0_1_400 (by first | decide | omega) (by first | decide | omega) (by first | decide | omega)
  have f85 := jF (e := (3 + u12)) (v := (b255 (bsh a1 2147483648))) (3 + u12) f69 rg_2_0_1_400 (by first | decide | omega) (by first | decide | omega) (by decide)
  generalize e84 : x_up h66 2 (3 + u12) (b255 (bsh a1 2147483648)) = h82 at j83 f85 ⊢
  refine x_aload (np := 34) (x := 0) (by decide +kernel) rfl (x_nc_le (by decide)) ?_
  refine x_dup (np := 35) (x := 0) (by decide +kernel) (by have z := x_nc_le (k := 1) (by decide); unfold x_r; omega) ?_
  have q86 : h82 1 1 = h66 1 1 := by rw [← e84]; exact x_up_k (by decide)
  have q87 : h66 1 1 = (3 + (h 1 1)) := by rw [← e68]; exact x_up_at
  refine x_getC (np := 38) (x := 449) (f := 1) (q := (3 + (h 1 1))) (by decide +kernel) (by decide) (by decide +kernel) (q86.trans q87) (fun l88 => ?_)
  refine x_const (np := 39) (x := 9223372043297226753) (a := 2147483649) (by decide +kernel) (by decide) (by decide) ?_
  refine x_iadd (np := 40) (x := 0) (v := (4 + (h 1 1))) (by decide +kernel) (by first | decide | omega) (by decide) (by first | decide | omega) (by first | decide | omega) ?_
  refine x_putI (np := 43) (x := 449) (f := 1) (by decide +kernel) (by decide +kernel) (by first | decide | omega) (Or.inl (by decide)) ?_
  have j90 := jU (e := 1) (v := (4 + (h 1 1))) 0 j83 rg_1_1_0_1 (by first | decide | omega) (by first | decide | omega) (by first | decide | omega)
  have f92 := jF (e := 1) (v := (4 + (h 1 1))) 0 f85 rg_1_1_0_1 (by first | decide | omega) (by first | decide | omega) (by decide)
  generalize e91 : x_up h82 1 1 (4 + (h 1 1)) = h89 at j90 f92 ⊢
  refine x_iinc (np := 46) (i := 2) (j := 2147483640) (v := 2147483640) (lo' := [x_r 1, iv_c a1, iv_c 2147483640]) (by decide +kernel) (by decide) (by decide) rfl (by decide) (by first | decide | omega) (by first | decide | omega) rfl ?_
  refine x_goto (np := 49) (x := 3) (by decide +kernel) ?_
  refine x_iload (np := 4) (x := 2) (by decide +kernel) rfl (by decide) ?_
  refine x_ifz (k := 2) (tg := 49) (np := 7) (by decide +kernel) (by decide) (by decide) (fun q93 => ?_) (fun q94 => ?_)
  · have q93 : 2147483640 < 2147483648 := q93
    have q95 : h89 1 1 = (4 + (h 1 1)) := by rw [← e91]; exact x_up_at
    have m96 : Ap 2 h h14 u12 1 (f4 a1) := by rw [← e16]; exact Ap.put (Ap.zero (c := 2) (s := u12) (f := (f4 a1))) (by first | decide | omega) rfl
    have m97 : Ap 2 h h20 u12 1 (f4 a1) := by rw [← e22]; exact Ap.oth m96 (by decide)
    have m98 : Ap 2 h h36 u12 2 (f4 a1) := by rw [← e38]; exact Ap.put m97 (by first | decide | omega) rfl
    have m99 : Ap 2 h h43 u12 2 (f4 a1) := by rw [← e45]; exact Ap.oth m98 (by decide)
    have m100 : Ap 2 h h59 u12 3 (f4 a1) := by rw [← e61]; exact Ap.put m99 (by first | decide | omega) rfl
    have m101 : Ap 2 h h66 u12 3 (f4 a1) := by rw [← e68]; exact Ap.oth m100 (by decide)
    have m102 : Ap 2 h h82 u12 4 (f4 a1) := by rw [← e84]; exact Ap.put m101 (by first | decide | omega) rfl
    have m103 : Ap 2 h h89 u12 4 (f4 a1) := by rw [← e91]; exact Ap.oth m102 (by decide)
    refine x_retV (np := 50) (x := 0) (by decide +kernel) (by decide +kernel) ⟨rfl, ?_⟩
    exact ⟨j90, f92, (by first | decide | omega), (Ap.cast m103 (by first | decide | omega))⟩
  have q94 : ¬ (2147483640 < 2147483648) := q94
  exfalso; omega
set_option maxHeartbeats 0 in
/-- LentNames.feed(IIIII)I -/
theorem c104_0 {sc : Nat × Nat} {d a1 a2 a3 a4 a5 : Nat} {h : xh} (hJ : J h) (ba1 : 0 ≤ a1 ∧ a1 ≤ 4294967295) (ba2 : 0 ≤ a2 ∧ a2 ≤ 4294967295) (ba3 : 0 ≤ a3 ∧ a3 ≤ 4294967295) (ba4 : 0 ≤ a4 ∧ a4 ≤ 4294967295) (ba5 : 0 ≤ a5 ∧ a5 ≤ 4294967295) : X sc 104 (d + 1) (xI fun r h' => J h' ∧ Fr 81 h h' ∧ (2147483647 ≤ r ∧ r ≤ 2147484048) ∧ (h 1 1 + 20 ≤ 2147484048 → h' 1 1 = h 1 1 + 20 ∧ r = h 1 1 + 20) ∧ (2147484048 < h 1 1 + 20 → h' 1 1 = h 1 1 ∧ r = 2147483647) ∧ (h 1 1 + 20 ≤ 2147484048 → Ap 2 h h' (h 1 1 - 2147483648) 20 (f20 a1 a2 a3 a4 a5)) ∧ (2147484048 < h 1 1 + 20 → ∀ u, h' 2 u = h 2 u)) 0 0 0 [x_r 0, iv_c a1, iv_c a2, iv_c a3, iv_c a4, iv_c a5] [] h := by
  have la1 : a1 < 4294967296 := by first | decide | omega
  have la2 : a2 < 4294967296 := by first | decide | omega
  have la3 : a3 < 4294967296 := by first | decide | omega
  have la4 : a4 < 4294967296 := by first | decide | omega
  have la5 : a5 < 4294967296 := by first | decide | omega
  have hF := Fr.refl 81 h
  refine x_aload (np := 1) (x := 0) (by decide +kernel) rfl (x_nc_le (by decide)) ?_
  have q1 : h 0 0 = 1 := by have z := jB (e := 0) 0 hJ rg_0_0_0_1 (by decide) (by decide); omega
  refine x_getR (np := 4) (x := 640) (f := 0) (q := 1) (by decide +kernel) (by decide) (by decide +kernel) q1 ?_
  have b2 := jB (e := 1) 0 hJ rg_1_1_0_1 (by first | decide | omega) (by first | decide | omega)
  refine x_getC (np := 7) (x := 449) (f := 1) (q := (h 1 1)) (by decide +kernel) (by decide) (by decide +kernel) rfl (fun l3 => ?_)
  refine x_const (np := 9) (x := 9223372124901605396) (a := 2147483668) (by decide +kernel) (by decide) (by decide) ?_
  refine x_iadd (np := 10) (x := 0) (v := (20 + (h 1 1))) (by decide +kernel) l3 (by decide) (by first | decide | omega) (by first | decide | omega) ?_
  refine x_const (np := 13) (x := 9223373756989178256) (a := 2147484048) (by decide +kernel) (by decide) (by decide) ?_
  refine x_icmp (k := 5) (tg := 18) (np := 16) (by decide +kernel) (by decide) (by first | decide | omega) (by decide) (fun q4 => ?_) (fun q5 => ?_)
  · have q4 : (20 + (h 1 1)) ≤ 2147484048 := q4
    refine x_aload (np := 19) (x := 0) (by decide +kernel) rfl (x_nc_le (by decide)) ?_
    have q6 : h 0 0 = 1 := by have z := jB (e := 0) 0 hJ rg_0_0_0_1 (by decide) (by decide); omega
    refine x_getR (np := 22) (x := 640) (f := 0) (q := 1) (by decide +kernel) (by decide) (by decide +kernel) q6 ?_
    refine x_iload (np := 23) (x := 1) (by decide +kernel) rfl la1 ?_
    refine x_cV (t := 6) (mj := 72) (n := 2) (rc := 8) (ml := 3) (nr := 0) (np := 26) (as := [x_r 1, iv_c a1]) (rest := []) (lo1 := [x_r 1, iv_c a1, 147573952589676412928]) (by decide +kernel) (by decide) (by decide +kernel) (x_rb_of (by decide +kernel)) rfl rfl (x_wr (by decide) (x_wi la1 x_wn)) x_wn (by decide) rfl (c72_1 hJ  (by first | decide | omega) (by first | decide | omega)) (fun h10 q9 => ?_)
    obtain ⟨j11, f12, c15, c16⟩ := q9
    have f17 := Fr.trans hF f12 (by decide)
    have b18 := jB (e := 1) 0 j11 rg_1_1_0_1 (by first | decide | omega) (by first | decide | omega)
    refine x_aload (np := 27) (x := 0) (by decide +kernel) rfl (x_nc_le (by decide)) ?_
    have q19 : h10 0 0 = 1 := by have z := jB (e := 0) 0 j11 rg_0_0_0_1 (by decide) (by decide); omega
    refine x_getR (np := 30) (x := 640) (f := 0) (q := 1) (by decide +kernel) (by decide) (by decide +kernel) q19 ?_
    refine x_iload (np := 31) (x := 2) (by decide +kernel) rfl la2 ?_
    refine x_cV (t := 6) (mj := 72) (n := 2) (rc := 8) (ml := 3) (nr := 0) (np := 34) (as := [x_r 1, iv_c a2]) (rest := []) (lo1 := [x_r 1, iv_c a2, 147573952589676412928]) (by decide +kernel) (by decide) (by decide +kernel) (x_rb_of (by decide +kernel)) rfl rfl (x_wr (by decide) (x_wi la2 x_wn)) x_wn (by decide) rfl (c72_1 j11  (by first | decide | omega) (by first | decide | omega)) (fun h23 q22 => ?_)
    obtain ⟨j24, f25, c28, c29⟩ := q22
    have f30 := Fr.trans f17 f25 (by decide)
    have b31 := jB (e := 1) 0 j24 rg_1_1_0_1 (by first | decide | omega) (by first | decide | omega)
    refine x_aload (np := 35) (x := 0) (by decide +kernel) rfl (x_nc_le (by decide)) ?_
    have q32 : h23 0 0 = 1 := by have z := jB (e := 0) 0 j24 rg_0_0_0_1 (by decide) (by decide); omega
    refine x_getR (np := 38) (x := 640) (f := 0) (q := 1) (by decide +kernel) (by decide) (by decide +kernel) q32 ?_
    refine x_iload (np := 39) (x := 3) (by decide +kernel) rfl la3 ?_
    refine x_cV (t := 6) (mj := 72) (n := 2) (rc := 8) (ml := 3) (nr := 0) (np := 42) (as := [x_r 1, iv_c a3]) (rest := []) (lo1 := [x_r 1, iv_c a3, 147573952589676412928]) (by decide +kernel) (by decide) (by decide +kernel) (x_rb_of (by decide +kernel)) rfl rfl (x_wr (by decide) (x_wi la3 x_wn)) x_wn (by decide) rfl (c72_1 j24  (by first | decide | omega) (by first | decide | omega)) (fun h36 q35 => ?_)
    obtain ⟨j37, f38, c41, c42⟩ := q35
    have f43 := Fr.trans f30 f38 (by decide)
    have b44 := jB (e := 1) 0 j37 rg_1_1_0_1 (by first | decide | omega) (by first | decide | omega)
    refine x_aload (np := 43) (x := 0) (by decide +kernel) rfl (x_nc_le (by decide)) ?_
    have q45 : h36 0 0 = 1 := by have z := jB (e := 0) 0 j37 rg_0_0_0_1 (by decide) (by decide); omega
    refine x_getR (np := 46) (x := 640) (f := 0) (q := 1) (by decide +kernel) (by decide) (by decide +kernel) q45 ?_
    refine x_iload (np := 48) (x := 4) (by decide +kernel) rfl la4 ?_
    refine x_cV (t := 6) (mj := 72) (n := 2) (rc := 8) (ml := 3) (nr := 0) (np := 51) (as := [x_r 1, iv_c a4]) (rest := []) (lo1 := [x_r 1, iv_c a4, 147573952589676412928]) (by decide +kernel) (by decide) (by decide +kernel) (x_rb_of (by decide +kernel)) rfl rfl (x_wr (by decide) (x_wi la4 x_wn)) x_wn (by decide) rfl (c72_1 j37  (by first | decide | omega) (by first | decide | omega)) (fun h49 q48 => ?_)
    obtain ⟨j50, f51, c54, c55⟩ := q48
    have f56 := Fr.trans f43 f51 (by decide)
    have b57 := jB (e := 1) 0 j50 rg_1_1_0_1 (by first | decide | omega) (by first | decide | omega)
    refine x_aload (np := 52) (x := 0) (by decide +kernel) rfl (x_nc_le (by decide)) ?_
    have q58 : h49 0 0 = 1 := by have z := jB (e := 0) 0 j50 rg_0_0_0_1 (by decide) (by decide); omega
    refine x_getR (np := 55) (x := 640) (f := 0) (q := 1) (by decide +kernel) (by decide) (by decide +kernel) q58 ?_
    refine x_iload (np := 57) (x := 5) (by decide +kernel) rfl la5 ?_
    refine x_cV (t := 6) (mj := 72) (n := 2) (rc := 8) (ml := 3) (nr := 0) (np := 60) (as := [x_r 1, iv_c a5]) (rest := []) (lo1 := [x_r 1, iv_c a5, 147573952589676412928]) (by decide +kernel) (by decide) (by decide +kernel) (x_rb_of (by decide +kernel)) rfl rfl (x_wr (by decide) (x_wi la5 x_wn)) x_wn (by decide) rfl (c72_1 j50  (by first | decide | omega) (by first | decide | omega)) (fun h62 q61 => ?_)
    obtain ⟨j63, f64, c67, c68⟩ := q61
    have f69 := Fr.trans f56 f64 (by decide)
    have b70 := jB (e := 1) 0 j63 rg_1_1_0_1 (by first | decide | omega) (by first | decide | omega)
    refine x_aload (np := 61) (x := 0) (by decide +kernel) rfl (x_nc_le (by decide)) ?_
    have q71 : h62 0 0 = 1 := by have z := jB (e := 0) 0 j63 rg_0_0_0_1 (by decide) (by decide); omega
    refine x_getR (np := 64) (x := 640) (f := 0) (q := 1) (by decide +kernel) (by decide) (by decide +kernel) q71 ?_
    refine x_getC (np := 67) (x := 449) (f := 1) (q := (h62 1 1)) (by decide +kernel) (by decide) (by decide +kernel) rfl (fun l72 => ?_)
    obtain ⟨u73, q74⟩ : ∃ z, (h 1 1) = 2147483648 + z := ⟨(h 1 1) - 2147483648, by first | decide | omega⟩
    have m75 : Ap 2 h h10 u73 4 (f20 a1 a2 a3 a4 a5) := Ap.app (Ap.zero (c := 2) (s := u73) (f := (f20 a1 a2 a3 a4 a5))) c16 (by first | decide | omega) (f20_q 0 (by decide))
    have m76 : Ap 2 h h23 u73 8 (f20 a1 a2 a3 a4 a5) := Ap.app m75 c29 (by first | decide | omega) (f20_q 1 (by decide))
    have m77 : Ap 2 h h36 u73 12 (f20 a1 a2 a3 a4 a5) := Ap.app m76 c42 (by first | decide | omega) (f20_q 2 (by decide))
    have m78 : Ap 2 h h49 u73 16 (f20 a1 a2 a3 a4 a5) := Ap.app m77 c55 (by first | decide | omega) (f20_q 3 (by decide))
    have m79 : Ap 2 h h62 u73 20 (f20 a1 a2 a3 a4 a5) := Ap.app m78 c68 (by first | decide | omega) (f20_q 4 (by decide))
    refine x_retI (np := 68) (x := 0) (by decide +kernel) l72 (Or.inl (by decide +kernel)) ⟨_, rfl, l72, ?_⟩
    exact ⟨j63, f69, (by first | decide | omega), (fun z => by first | decide | omega), (fun z => by first | decide | omega), (fun _ => Ap.cast m79 (by first | decide | omega)), (fun z => absurd z (by first | decide | omega))⟩
  have q5 : ¬ ((20 + (h 1 1)) ≤ 2147484048) := q5
  refine x_const (np := 17) (x := 9223372034707292159) (a := 2147483647) (by decide +kernel) (by decide) (by decide) ?_
  refine x_retI (np := 18) (x := 0) (by decide +kernel) (by decide) (Or.inl (by decide +kernel)) ⟨_, rfl, (by decide), ?_⟩
  exact ⟨hJ, hF, (by first | decide | omega), (fun z => by first | decide | omega), (fun z => by first | decide | omega), (fun z => absurd z (by first | decide | omega)), (fun _ u => rfl)⟩
set_option maxHeartbeats 0 in
/-- LentNames.end(I)Z -/
theorem c105_0 {sc : Nat × Nat} {d a1 : Nat} {h : xh} (hJ : J h) (ba1 : 0 ≤ a1 ∧ a1 ≤ 4294967295) : X sc 105 d (xI fun r h' => J h' ∧ Fr 16 h h' ∧ (2147483648 ≤ r ∧ r ≤ 2147483649) ∧ ((a1 < 2147483648 ∨ h 1 1 < a1) → r = 2147483648 ∧ h' 1 1 = h 1 1) ∧ ((2147483648 ≤ a1 ∧ a1 ≤ h 1 1) → r = 2147483649 ∧ h' 1 1 = a1)) 0 0 0 [x_r 0, iv_c a1] [] h := by
  have la1 : a1 < 4294967296 := by first | decide | omega
  have hF := Fr.refl 16 h
  refine x_iload (np := 1) (x := 1) (by decide +kernel) rfl la1 ?_
  refine x_ifz (k := 2) (tg := 15) (np := 4) (by decide +kernel) (by decide) la1 (fun q1 => ?_) (fun q2 => ?_)
  · have q1 : a1 < 2147483648 := q1
    refine x_const (np := 16) (x := 9223372039002259456) (a := 2147483648) (by decide +kernel) (by decide) (by decide) ?_
    have b3 := jB (e := 1) 0 hJ rg_1_1_0_1 (by first | decide | omega) (by first | decide | omega)
    refine x_retI (np := 17) (x := 0) (by decide +kernel) (by decide) (Or.inr ⟨by decide +kernel, by first | decide | omega, by first | decide | omega⟩) ⟨_, rfl, (by decide), ?_⟩
    exact ⟨hJ, hF, (by first | decide | omega), (fun z => by first | decide | omega), (fun z => by first | decide | omega)⟩
  have q2 : ¬ (a1 < 2147483648) := q2
  refine x_iload (np := 5) (x := 1) (by decide +kernel) rfl la1 ?_
  refine x_aload (np := 6) (x := 0) (by decide +kernel) rfl (x_nc_le (by decide)) ?_
  have q4 : h 0 0 = 1 := by have z := jB (e := 0) 0 hJ rg_0_0_0_1 (by decide) (by decide); omega
  refine x_getR (np := 9) (x := 640) (f := 0) (q := 1) (by decide +kernel) (by decide) (by decide +kernel) q4 ?_
  have b5 := jB (e := 1) 0 hJ rg_1_1_0_1 (by first | decide | omega) (by first | decide | omega)
  refine x_getC (np := 12) (x := 449) (f := 1) (q := (h 1 1)) (by decide +kernel) (by decide) (by decide +kernel) rfl (fun l6 => ?_)
  refine x_icmp (k := 5) (tg := 17) (np := 15) (by decide +kernel) (by decide) la1 l6 (fun q7 => ?_) (fun q8 => ?_)
  · have q7 : a1 ≤ (h 1 1) := q7
    refine x_aload (np := 18) (x := 0) (by decide +kernel) rfl (x_nc_le (by decide)) ?_
    have q9 : h 0 0 = 1 := by have z := jB (e := 0) 0 hJ rg_0_0_0_1 (by decide) (by decide); omega
    refine x_getR (np := 21) (x := 640) (f := 0) (q := 1) (by decide +kernel) (by decide) (by decide +kernel) q9 ?_
    refine x_iload (np := 22) (x := 1) (by decide +kernel) rfl la1 ?_
    refine x_putI (np := 25) (x := 449) (f := 1) (by decide +kernel) (by decide +kernel) la1 (Or.inl (by decide)) ?_
    have j11 := jU (e := 1) (v := a1) 0 hJ rg_1_1_0_1 (by first | decide | omega) (by first | decide | omega) (by first | decide | omega)
    have f13 := jF (e := 1) (v := a1) 0 hF rg_1_1_0_1 (by first | decide | omega) (by first | decide | omega) (by decide)
    generalize e12 : x_up h 1 1 a1 = h10 at j11 f13 ⊢
    refine x_const (np := 26) (x := 9223372043297226753) (a := 2147483649) (by decide +kernel) (by decide) (by decide) ?_
    have q14 : h10 1 1 = a1 := by rw [← e12]; exact x_up_at
    have q15 : h10 1 1 = a1 := by rw [← e12]; exact x_up_at
    refine x_retI (np := 27) (x := 0) (by decide +kernel) (by decide) (Or.inr ⟨by decide +kernel, by first | decide | omega, by first | decide | omega⟩) ⟨_, rfl, (by decide), ?_⟩
    exact ⟨j11, f13, (by first | decide | omega), (fun z => by first | decide | omega), (fun z => by first | decide | omega)⟩
  have q8 : ¬ (a1 ≤ (h 1 1)) := q8
  refine x_const (np := 16) (x := 9223372039002259456) (a := 2147483648) (by decide +kernel) (by decide) (by decide) ?_
  refine x_retI (np := 17) (x := 0) (by decide +kernel) (by decide) (Or.inr ⟨by decide +kernel, by first | decide | omega, by first | decide | omega⟩) ⟨_, rfl, (by decide), ?_⟩
  exact ⟨hJ, hF, (by first | decide | omega), (fun z => by first | decide | omega), (fun z => by first | decide | omega)⟩
set_option maxHeartbeats 0 in
/-- LentNames.fault()I -/
theorem c107_0 {sc : Nat × Nat} {d  : Nat} {h : xh} (hJ : J h) : X sc 107 d (xI fun r h' => h' = h ∧ (0 ≤ r ∧ r ≤ 4294967295) ∧ (r = h 0 11)) 0 0 0 [x_r 0] [] h := by
  refine x_aload (np := 1) (x := 0) (by decide +kernel) rfl (x_nc_le (by decide)) ?_
  refine x_getC (np := 4) (x := 651) (f := 11) (q := (h 0 11)) (by decide +kernel) (by decide) (by decide +kernel) rfl (fun l1 => ?_)
  refine x_retI (np := 5) (x := 0) (by decide +kernel) l1 (Or.inl (by decide +kernel)) ⟨_, rfl, l1, ?_⟩
  exact ⟨rfl, (by first | decide | omega), (by first | decide | omega)⟩
set_option maxHeartbeats 0 in
/-- LentNames$Calendar.bearerOf(II)I -/
theorem c5_45 {sc : Nat × Nat} {d a1 a2 : Nat} {h : xh} (hJ : J h) (ba1 : 0 ≤ a1 ∧ a1 ≤ 4294967295) (ba2 : 0 ≤ a2 ∧ a2 ≤ 4294967295) : X sc 5 (d + 1) (xI fun r h' => h' = h ∧ (2147483647 ≤ r ∧ r ≤ 2147483653)) 0 0 0 [x_r 45, iv_c a1, iv_c a2] [] h := by
  have la1 : a1 < 4294967296 := by first | decide | omega
  have la2 : a2 < 4294967296 := by first | decide | omega
  refine x_aload (np := 1) (x := 0) (by decide +kernel) rfl (x_nc_le (by decide)) ?_
  refine x_iload (np := 2) (x := 1) (by decide +kernel) rfl la1 ?_
  refine x_iload (np := 3) (x := 2) (by decide +kernel) rfl la2 ?_
  refine x_nI (t := 6) (mj := 15) (n := 3) (rc := 2) (ml := 3) (nr := 0) (np := 6) (as := [x_r 45, iv_c a1, iv_c a2]) (rest := []) (lo1 := [x_r 45, iv_c a1, iv_c a2]) (by decide +kernel) (by decide) (by decide +kernel) (x_rb_of (by decide +kernel)) rfl rfl (x_wr (by decide) (x_wi la1 (x_wi la2 x_wn))) x_wn (by decide) rfl ?_
  refine x_iload (np := 1) (x := 1) (by decide +kernel) rfl la1 ?_
  refine x_ifz (k := 2) (tg := 24) (np := 4) (by decide +kernel) (by decide) la1 (fun q1 => ?_) (fun q2 => ?_)
  · have q1 : a1 < 2147483648 := q1
    refine x_const (np := 25) (x := 9223372039002259456) (a := 2147483648) (by decide +kernel) (by decide) (by decide) ?_
    refine x_retI (np := 26) (x := 0) (by decide +kernel) (by decide) (Or.inr ⟨by decide +kernel, by first | decide | omega, by first | decide | omega⟩) ⟨_, rfl, (by decide), ?_⟩
    refine x_ifz (k := 0) (tg := 22) (np := 9) (by decide +kernel) (by decide) (by decide) (fun q3 => ?_) (fun q4 => ?_)
    · have q3 : 2147483648 = 2147483648 := q3
      refine x_const (np := 23) (x := 9223372034707292159) (a := 2147483647) (by decide +kernel) (by decide) (by decide) ?_
      refine x_retI (np := 24) (x := 0) (by decide +kernel) (by decide) (Or.inl (by decide +kernel)) ⟨_, rfl, (by decide), ?_⟩
      exact ⟨rfl, (by first | decide | omega)⟩
    have q4 : ¬ (2147483648 = 2147483648) := q4
    exfalso; omega
  have q2 : ¬ (a1 < 2147483648) := q2
  refine x_iload (np := 5) (x := 1) (by decide +kernel) rfl la1 ?_
  refine x_const (np := 7) (x := 9223372064772063238) (a := 2147483654) (by decide +kernel) (by decide) (by decide) ?_
  refine x_icmp (k := 3) (tg := 24) (np := 10) (by decide +kernel) (by decide) la1 (by decide) (fun q5 => ?_) (fun q6 => ?_)
  · have q5 : 2147483654 ≤ a1 := q5
    refine x_const (np := 25) (x := 9223372039002259456) (a := 2147483648) (by decide +kernel) (by decide) (by decide) ?_
    refine x_retI (np := 26) (x := 0) (by decide +kernel) (by decide) (Or.inr ⟨by decide +kernel, by first | decide | omega, by first | decide | omega⟩) ⟨_, rfl, (by decide), ?_⟩
    refine x_ifz (k := 0) (tg := 22) (np := 9) (by decide +kernel) (by decide) (by decide) (fun q7 => ?_) (fun q8 => ?_)
    · have q7 : 2147483648 = 2147483648 := q7
      refine x_const (np := 23) (x := 9223372034707292159) (a := 2147483647) (by decide +kernel) (by decide) (by decide) ?_
      refine x_retI (np := 24) (x := 0) (by decide +kernel) (by decide) (Or.inl (by decide +kernel)) ⟨_, rfl, (by decide), ?_⟩
      exact ⟨rfl, (by first | decide | omega)⟩
    have q8 : ¬ (2147483648 = 2147483648) := q8
    exfalso; omega
  have q6 : ¬ (2147483654 ≤ a1) := q6
  refine x_iload (np := 11) (x := 2) (by decide +kernel) rfl la2 ?_
  refine x_ifz (k := 2) (tg := 24) (np := 14) (by decide +kernel) (by decide) la2 (fun q9 => ?_) (fun q10 => ?_)
  · have q9 : a2 < 2147483648 := q9
    refine x_const (np := 25) (x := 9223372039002259456) (a := 2147483648) (by decide +kernel) (by decide) (by decide) ?_
    refine x_retI (np := 26) (x := 0) (by decide +kernel) (by decide) (Or.inr ⟨by decide +kernel, by first | decide | omega, by first | decide | omega⟩) ⟨_, rfl, (by decide), ?_⟩
    refine x_ifz (k := 0) (tg := 22) (np := 9) (by decide +kernel) (by decide) (by decide) (fun q11 => ?_) (fun q12 => ?_)
    · have q11 : 2147483648 = 2147483648 := q11
      refine x_const (np := 23) (x := 9223372034707292159) (a := 2147483647) (by decide +kernel) (by decide) (by decide) ?_
      refine x_retI (np := 24) (x := 0) (by decide +kernel) (by decide) (Or.inl (by decide +kernel)) ⟨_, rfl, (by decide), ?_⟩
      exact ⟨rfl, (by first | decide | omega)⟩
    have q12 : ¬ (2147483648 = 2147483648) := q12
    exfalso; omega
  have q10 : ¬ (a2 < 2147483648) := q10
  refine x_iload (np := 15) (x := 2) (by decide +kernel) rfl la2 ?_
  refine x_const (np := 17) (x := 9223372090541867020) (a := 2147483660) (by decide +kernel) (by decide) (by decide) ?_
  refine x_icmp (k := 3) (tg := 24) (np := 20) (by decide +kernel) (by decide) la2 (by decide) (fun q13 => ?_) (fun q14 => ?_)
  · have q13 : 2147483660 ≤ a2 := q13
    refine x_const (np := 25) (x := 9223372039002259456) (a := 2147483648) (by decide +kernel) (by decide) (by decide) ?_
    refine x_retI (np := 26) (x := 0) (by decide +kernel) (by decide) (Or.inr ⟨by decide +kernel, by first | decide | omega, by first | decide | omega⟩) ⟨_, rfl, (by decide), ?_⟩
    refine x_ifz (k := 0) (tg := 22) (np := 9) (by decide +kernel) (by decide) (by decide) (fun q15 => ?_) (fun q16 => ?_)
    · have q15 : 2147483648 = 2147483648 := q15
      refine x_const (np := 23) (x := 9223372034707292159) (a := 2147483647) (by decide +kernel) (by decide) (by decide) ?_
      refine x_retI (np := 24) (x := 0) (by decide +kernel) (by decide) (Or.inl (by decide +kernel)) ⟨_, rfl, (by decide), ?_⟩
      exact ⟨rfl, (by first | decide | omega)⟩
    have q16 : ¬ (2147483648 = 2147483648) := q16
    exfalso; omega
  have q14 : ¬ (2147483660 ≤ a2) := q14
  refine x_const (np := 21) (x := 9223372043297226753) (a := 2147483649) (by decide +kernel) (by decide) (by decide) ?_
  refine x_goto (np := 24) (x := 25) (by decide +kernel) ?_
  refine x_retI (np := 26) (x := 0) (by decide +kernel) (by decide) (Or.inr ⟨by decide +kernel, by first | decide | omega, by first | decide | omega⟩) ⟨_, rfl, (by decide), ?_⟩
  refine x_ifz (k := 0) (tg := 22) (np := 9) (by decide +kernel) (by decide) (by decide) (fun q17 => ?_) (fun q18 => ?_)
  · have q17 : 2147483649 = 2147483648 := q17
    exfalso; omega
  have q18 : ¬ (2147483649 = 2147483648) := q18
  refine x_aload (np := 10) (x := 0) (by decide +kernel) rfl (x_nc_le (by decide)) ?_
  have q19 : h 45 6 = 51 := by have z := jB (e := 6) 0 hJ rg_45_6_0_1 (by decide) (by decide); omega
  refine x_getR (np := 13) (x := 70) (f := 6) (q := 51) (by decide +kernel) (by decide) (by decide +kernel) q19 ?_
  refine x_iload (np := 14) (x := 1) (by decide +kernel) rfl la1 ?_
  refine x_iload (np := 15) (x := 2) (by decide +kernel) rfl la2 ?_
  refine x_nI (t := 7) (mj := 150) (n := 2) (rc := 0) (ml := 2) (nr := 1) (np := 18) (as := [iv_c a1, iv_c a2]) (rest := [x_r 51]) (lo1 := [iv_c a1, iv_c a2]) (by decide +kernel) (by decide) (by decide +kernel) (Or.inl rfl) rfl rfl (x_wi la1 (x_wi la2 x_wn)) (x_wr (by decide) x_wn) (by decide) rfl ?_
  refine x_iload (np := 1) (x := 0) (by decide +kernel) rfl la1 ?_
  refine x_const (np := 3) (x := 9223372090541867020) (a := 2147483660) (by decide +kernel) (by decide) (by decide) ?_
  obtain ⟨u20, q21⟩ : ∃ z, a1 = 2147483648 + z := ⟨a1 - 2147483648, by first | decide | omega⟩
  refine x_imul (np := 4) (x := 0) (i := u20) (j := 12) (v := (2147483648 + 12 * u20)) (by decide +kernel) (by first | decide | omega) (by first | decide | omega) (by first | decide | omega) (by first | decide | omega) la1 (by decide) ?_
  refine x_iload (np := 5) (x := 1) (by decide +kernel) rfl la2 ?_
  refine x_iadd (np := 6) (x := 0) (v := (12 * u20 + a2)) (by decide +kernel) (by first | decide | omega) la2 (by first | decide | omega) (by first | decide | omega) ?_
  refine x_retI (np := 7) (x := 0) (by decide +kernel) (by first | decide | omega) (Or.inl (by decide +kernel)) ⟨_, rfl, (by first | decide | omega), ?_⟩
  obtain ⟨u23, q24⟩ : ∃ z, a2 = 2147483648 + z := ⟨a2 - 2147483648, by first | decide | omega⟩
  have b25 := jB (e := (12 * u20 + u23)) (12 * u20 + u23) hJ rg_51_0_1_72 (by first | decide | omega) (by first | decide | omega)
  refine x_aldC (np := 19) (x := 0) (n := 72) (i := (12 * u20 + u23)) (q := ((h 51 (12 * u20 + u23)))) (by decide +kernel) (by decide +kernel) (by first | decide | omega) (by first | decide | omega) (by decide) rfl (fun l26 => ?_)
  refine x_goto (np := 22) (x := 23) (by decide +kernel) ?_
  refine x_retI (np := 24) (x := 0) (by decide +kernel) l26 (Or.inl (by decide +kernel)) ⟨_, rfl, l26, ?_⟩
  exact ⟨rfl, (by first | decide | omega)⟩
set_option maxHeartbeats 0 in
/-- LentNames$Calendar.handsOf(I)I -/
theorem c10_45 {sc : Nat × Nat} {d a1 : Nat} {h : xh} (hJ : J h) (ba1 : 2147483648 ≤ a1 ∧ a1 ≤ 2147483653) : X sc 10 (d + 2) (xI fun r h' => h' = h ∧ (0 ≤ r ∧ r ≤ 4294967295)) 0 0 0 [x_r 45, iv_c a1, 147573952589676412928, 147573952589676412928] [] h := by
  have la1 : a1 < 4294967296 := by first | decide | omega
  refine x_const (np := 1) (x := 9223372039002259456) (a := 2147483648) (by decide +kernel) (by decide) (by decide) ?_
  refine x_istore (np := 2) (x := 2) (lo' := [x_r 45, iv_c a1, iv_c 2147483648, 147573952589676412928]) (by decide +kernel) (by decide) (Nat.le_of_ble_eq_true rfl) rfl ?_
  refine x_const (np := 3) (x := 9223372043297226753) (a := 2147483649) (by decide +kernel) (by decide) (by decide) ?_
  refine x_istore (np := 4) (x := 3) (lo' := [x_r 45, iv_c a1, iv_c 2147483648, iv_c 2147483649]) (by decide +kernel) (by decide) (Nat.le_of_ble_eq_true rfl) rfl ?_
  have p505 : ∀ (n : Nat) (v501 : Nat) (v503 : Nat), 4294967296 - v503 < n → (0 ≤ v501 ∧ v501 ≤ 4294967295) → (2147483649 ≤ v503 ∧ v503 ≤ 2147483660) → X sc 10 (d + 2) (xI fun r h' => h' = h ∧ (0 ≤ r ∧ r ≤ 4294967295)) 0 0 4 [x_r 45, iv_c a1, iv_c v501, iv_c v503] [] h := by
    intro n
    induction n with
    | zero => intro v501 v503 q506; exact absurd q506 (Nat.not_lt_zero _)
    | succ n i507 =>
      intro v501 v503 q506 b502 b504
      refine x_iload (np := 5) (x := 3) (by decide +kernel) rfl (by first | decide | omega) ?_
      refine x_const (np := 7) (x := 9223372090541867020) (a := 2147483660) (by decide +kernel) (by decide) (by decide) ?_
      refine x_icmp (k := 3) (tg := 36) (np := 10) (by decide +kernel) (by decide) (by first | decide | omega) (by decide) (fun q508 => ?_) (fun q509 => ?_)
      · have q508 : 2147483660 ≤ v503 := q508
        refine x_iload (np := 37) (x := 2) (by decide +kernel) rfl (by first | decide | omega) ?_
        refine x_retI (np := 38) (x := 0) (by decide +kernel) (by first | decide | omega) (Or.inl (by decide +kernel)) ⟨_, rfl, (by first | decide | omega), ?_⟩
        exact ⟨rfl, (by first | decide | omega)⟩
      have q509 : ¬ (2147483660 ≤ v503) := q509
      refine x_aload (np := 11) (x := 0) (by decide +kernel) rfl (x_nc_le (by decide)) ?_
      refine x_iload (np := 12) (x := 1) (by decide +kernel) rfl la1 ?_
      refine x_iload (np := 13) (x := 3) (by decide +kernel) rfl (by first | decide | omega) ?_
      refine x_cP (t := 6) (mj := 5) (n := 3) (rc := 2) (ml := 3) (nr := 0) (np := 16) (as := [x_r 45, iv_c a1, iv_c v503]) (rest := []) (lo1 := [x_r 45, iv_c a1, iv_c v503]) (by decide +kernel) (by decide) (by decide +kernel) (x_rb_of (by decide +kernel)) rfl rfl (x_wr (by decide) (x_wi la1 (x_wi (by first | decide | omega) x_wn))) x_wn (by decide) rfl (c5_45 hJ  (by first | decide | omega) (by first | decide | omega)) (fun v510 l511 q512 => ?_)
      refine x_aload (np := 17) (x := 0) (by decide +kernel) rfl (x_nc_le (by decide)) ?_
      refine x_iload (np := 18) (x := 1) (by decide +kernel) rfl la1 ?_
      refine x_iload (np := 19) (x := 3) (by decide +kernel) rfl (by first | decide | omega) ?_
      refine x_const (np := 20) (x := 9223372043297226753) (a := 2147483649) (by decide +kernel) (by decide) (by decide) ?_
      obtain ⟨v513, q514⟩ : ∃ z, z + 2147483649 = v503 + 2147483648 := ⟨v503 + 2147483648 - 2147483649, by first | decide | omega⟩
      refine x_isub (np := 21) (x := 0) (v := v513) (by decide +kernel) (by first | decide | omega) (by decide) (by first | decide | omega) (by first | decide | omega) ?_
      refine x_cP (t := 6) (mj := 5) (n := 3) (rc := 2) (ml := 3) (nr := 1) (np := 24) (as := [x_r 45, iv_c a1, iv_c v513]) (rest := [iv_c v510]) (lo1 := [x_r 45, iv_c a1, iv_c v513]) (by decide +kernel) (by decide) (by decide +kernel) (x_rb_of (by decide +kernel)) rfl rfl (x_wr (by decide) (x_wi la1 (x_wi (by first | decide | omega) x_wn))) (x_wi l511 x_wn) (by decide) rfl (c5_45 hJ  (by first | decide | omega) (by first | decide | omega)) (fun v515 l516 q517 => ?_)
      refine x_icmp (k := 0) (tg := 30) (np := 27) (by decide +kernel) (by decide) l511 l516 (fun q518 => ?_) (fun q519 => ?_)
      · have q518 : v510 = v515 := q518
        refine x_iinc (np := 33) (i := 3) (j := 2147483649) (v := (1 + v503)) (lo' := [x_r 45, iv_c a1, iv_c v501, iv_c (1 + v503)]) (by decide +kernel) (by decide) (by decide) rfl (by first | decide | omega) (by first | decide | omega) (by first | decide | omega) rfl ?_
        refine x_goto (np := 36) (x := 4) (by decide +kernel) ?_
        exact i507 v501 (1 + v503) (by first | decide | omega) (by first | decide | omega) (by first | decide | omega)
      have q519 : ¬ (v510 = v515) := q519
      refine x_incA (i := 2) (n := 1) (by rw [tb_b10]; decide +kernel) rfl (by first | decide | omega) (fun v520 l521 => ?_)
      show X _ _ _ _ _ _ _ [x_r 45, iv_c a1, iv_c v520, iv_c v503] _ _
      refine x_iinc (np := 33) (i := 3) (j := 2147483649) (v := (1 + v503)) (lo' := [x_r 45, iv_c a1, iv_c v520, iv_c (1 + v503)]) (by decide +kernel) (by decide) (by decide) rfl (by first | decide | omega) (by first | decide | omega) (by first | decide | omega) rfl ?_
      refine x_goto (np := 36) (x := 4) (by decide +kernel) ?_
      exact i507 v520 (1 + v503) (by first | decide | omega) (by first | decide | omega) (by first | decide | omega)
  exact p505 _ 2147483648 2147483649 (Nat.lt_succ_self _) (by first | decide | omega) (by first | decide | omega)
set_option maxHeartbeats 0 in
/-- LentNames.busiest()I -/
theorem c121_0 {sc : Nat × Nat} {d  : Nat} {h : xh} (hJ : J h) : X sc 121 (d + 3) (xI fun r h' => h' = h ∧ (2147483648 ≤ r ∧ r ≤ 2147483653)) 0 0 0 [x_r 0, 147573952589676412928, 147573952589676412928] [] h := by
  refine x_const (np := 1) (x := 9223372039002259456) (a := 2147483648) (by decide +kernel) (by decide) (by decide) ?_
  refine x_istore (np := 2) (x := 1) (lo' := [x_r 0, iv_c 2147483648, 147573952589676412928]) (by decide +kernel) (by decide) (Nat.le_of_ble_eq_true rfl) rfl ?_
  refine x_const (np := 3) (x := 9223372043297226753) (a := 2147483649) (by decide +kernel) (by decide) (by decide) ?_
  refine x_istore (np := 4) (x := 2) (lo' := [x_r 0, iv_c 2147483648, iv_c 2147483649]) (by decide +kernel) (by decide) (Nat.le_of_ble_eq_true rfl) rfl ?_
  have p100 : ∀ (n : Nat) (v96 : Nat) (v98 : Nat), 4294967296 - v98 < n → (2147483648 ≤ v96 ∧ v96 ≤ 2147483653) → (2147483649 ≤ v98 ∧ v98 ≤ 2147483654) → X sc 121 (d + 3) (xI fun r h' => h' = h ∧ (2147483648 ≤ r ∧ r ≤ 2147483653)) 0 0 4 [x_r 0, iv_c v96, iv_c v98] [] h := by
    intro n
    induction n with
    | zero => intro v96 v98 q101; exact absurd q101 (Nat.not_lt_zero _)
    | succ n i102 =>
      intro v96 v98 q101 b97 b99
      refine x_iload (np := 5) (x := 2) (by decide +kernel) rfl (by first | decide | omega) ?_
      refine x_aload (np := 6) (x := 0) (by decide +kernel) rfl (x_nc_le (by decide)) ?_
      have t103 : tw (h 0 8) := hJ.2.1
      refine x_getR (np := 9) (x := 648) (f := 8) (q := (h 0 8)) (by decide +kernel) (by decide) (by decide +kernel) rfl ?_
      have b104 := jB (e := 7) 0 hJ (rg_T0_7_0_1 t103) (by first | decide | omega) (by first | decide | omega)
      refine x_getC (np := 12) (x := 519) (f := 7) (q := (h (h 0 8) 7)) (by decide +kernel) (by decide) (tg_0_519_7_0 t103) rfl (fun l105 => ?_)
      refine x_icmp (k := 3) (tg := 42) (np := 15) (by decide +kernel) (by decide) (by first | decide | omega) l105 (fun q106 => ?_) (fun q107 => ?_)
      · have q106 : (h (h 0 8) 7) ≤ v98 := q106
        refine x_iload (np := 43) (x := 1) (by decide +kernel) rfl (by first | decide | omega) ?_
        refine x_retI (np := 44) (x := 0) (by decide +kernel) (by first | decide | omega) (Or.inl (by decide +kernel)) ⟨_, rfl, (by first | decide | omega), ?_⟩
        exact ⟨rfl, (by first | decide | omega)⟩
      have q107 : ¬ ((h (h 0 8) 7) ≤ v98) := q107
      refine x_aload (np := 16) (x := 0) (by decide +kernel) rfl (x_nc_le (by decide)) ?_
      have q108 : h 0 1 = 45 := by have z := jB (e := 1) 0 hJ rg_0_1_0_1 (by decide) (by decide); omega
      refine x_getR (np := 19) (x := 641) (f := 1) (q := 45) (by decide +kernel) (by decide) (by decide +kernel) q108 ?_
      refine x_iload (np := 20) (x := 2) (by decide +kernel) rfl (by first | decide | omega) ?_
      refine x_cP (t := 6) (mj := 10) (n := 2) (rc := 2) (ml := 4) (nr := 0) (np := 23) (as := [x_r 45, iv_c v98]) (rest := []) (lo1 := [x_r 45, iv_c v98, 147573952589676412928, 147573952589676412928]) (by decide +kernel) (by decide) (by decide +kernel) (x_rb_of (by decide +kernel)) rfl rfl (x_wr (by decide) (x_wi (by first | decide | omega) x_wn)) x_wn (by decide) rfl (c10_45 hJ  (by first | decide | omega)) (fun v109 l110 q111 => ?_)
      refine x_aload (np := 24) (x := 0) (by decide +kernel) rfl (x_nc_le (by decide)) ?_
      have q112 : h 0 1 = 45 := by have z := jB (e := 1) 0 hJ rg_0_1_0_1 (by decide) (by decide); omega
      refine x_getR (np := 27) (x := 641) (f := 1) (q := 45) (by decide +kernel) (by decide) (by decide +kernel) q112 ?_
      refine x_iload (np := 28) (x := 1) (by decide +kernel) rfl (by first | decide | omega) ?_
      refine x_cP (t := 6) (mj := 10) (n := 2) (rc := 2) (ml := 4) (nr := 1) (np := 31) (as := [x_r 45, iv_c v96]) (rest := [iv_c v109]) (lo1 := [x_r 45, iv_c v96, 147573952589676412928, 147573952589676412928]) (by decide +kernel) (by decide) (by decide +kernel) (x_rb_of (by decide +kernel)) rfl rfl (x_wr (by decide) (x_wi (by first | decide | omega) x_wn)) (x_wi l110 x_wn) (by decide) rfl (c10_45 hJ  (by first | decide | omega)) (fun v113 l114 q115 => ?_)
      refine x_icmp (k := 5) (tg := 36) (np := 34) (by decide +kernel) (by decide) l110 l114 (fun q116 => ?_) (fun q117 => ?_)
      · have q116 : v109 ≤ v113 := q116
        refine x_iinc (np := 39) (i := 2) (j := 2147483649) (v := (1 + v98)) (lo' := [x_r 0, iv_c v96, iv_c (1 + v98)]) (by decide +kernel) (by decide) (by decide) rfl (by first | decide | omega) (by first | decide | omega) (by first | decide | omega) rfl ?_
        refine x_goto (np := 42) (x := 4) (by decide +kernel) ?_
        exact i102 v96 (1 + v98) (by first | decide | omega) (by first | decide | omega) (by first | decide | omega)
      have q117 : ¬ (v109 ≤ v113) := q117
      refine x_iload (np := 35) (x := 2) (by decide +kernel) rfl (by first | decide | omega) ?_
      refine x_istore (np := 36) (x := 1) (lo' := [x_r 0, iv_c v98, iv_c v98]) (by decide +kernel) (by first | decide | omega) (Nat.le_of_ble_eq_true rfl) rfl ?_
      refine x_iinc (np := 39) (i := 2) (j := 2147483649) (v := (1 + v98)) (lo' := [x_r 0, iv_c v98, iv_c (1 + v98)]) (by decide +kernel) (by decide) (by decide) rfl (by first | decide | omega) (by first | decide | omega) (by first | decide | omega) rfl ?_
      refine x_goto (np := 42) (x := 4) (by decide +kernel) ?_
      exact i102 v98 (1 + v98) (by first | decide | omega) (by first | decide | omega) (by first | decide | omega)
  exact p100 _ 2147483648 2147483649 (Nat.lt_succ_self _) (by first | decide | omega) (by first | decide | omega)
set_option maxHeartbeats 0 in
/-- LentNames.home()I -/
theorem c126_0 {sc : Nat × Nat} {d  : Nat} {h : xh} (hJ : J h) : X sc 126 (d + 2) (xI fun r h' => h' = h ∧ (0 ≤ r ∧ r ≤ 4294967295)) 0 0 0 [x_r 0, 147573952589676412928, 147573952589676412928, 147573952589676412928, 147573952589676412928, 147573952589676412928] [] h := by
  refine x_const (np := 1) (x := 9223372039002259456) (a := 2147483648) (by decide +kernel) (by decide) (by decide) ?_
  refine x_istore (np := 2) (x := 1) (lo' := [x_r 0, iv_c 2147483648, 147573952589676412928, 147573952589676412928, 147573952589676412928, 147573952589676412928]) (by decide +kernel) (by decide) (Nat.le_of_ble_eq_true rfl) rfl ?_
  refine x_const (np := 3) (x := 9223372039002259456) (a := 2147483648) (by decide +kernel) (by decide) (by decide) ?_
  refine x_istore (np := 4) (x := 2) (lo' := [x_r 0, iv_c 2147483648, iv_c 2147483648, 147573952589676412928, 147573952589676412928, 147573952589676412928]) (by decide +kernel) (by decide) (Nat.le_of_ble_eq_true rfl) rfl ?_
  have p746 : ∀ (n : Nat) (v739 : Nat) (v741 : Nat) (w743 : Nat) (w744 : Nat) (w745 : Nat), 4294967296 - v741 < n → (0 ≤ v739 ∧ v739 ≤ 4294967295) → (2147483648 ≤ v741 ∧ v741 ≤ 2147483658) → X sc 126 (d + 2) (xI fun r h' => h' = h ∧ (0 ≤ r ∧ r ≤ 4294967295)) 0 0 4 [x_r 0, iv_c v739, iv_c v741, w743, w744, w745] [] h := by
    intro n
    induction n with
    | zero => intro v739 v741 w743 w744 w745 q747; exact absurd q747 (Nat.not_lt_zero _)
    | succ n i748 =>
      intro v739 v741 w743 w744 w745 q747 b740 b742
      refine x_iload (np := 5) (x := 2) (by decide +kernel) rfl (by first | decide | omega) ?_
      refine x_aload (np := 6) (x := 0) (by decide +kernel) rfl (x_nc_le (by decide)) ?_
      have t749 : tw (h 0 8) := hJ.2.1
      refine x_getR (np := 9) (x := 648) (f := 8) (q := (h 0 8)) (by decide +kernel) (by decide) (by decide +kernel) rfl ?_
      have q750 : h (h 0 8) 1 = ((h 0 8) + 3) := tf_0_1 hJ t749
      refine x_getR (np := 12) (x := 513) (f := 1) (q := ((h 0 8) + 3)) (by decide +kernel) (by decide) (tg_0_513_1_1 t749) q750 ?_
      have b751 := jB (e := 2) 0 hJ (rg_T3_2_0_1 t749) (by first | decide | omega) (by first | decide | omega)
      refine x_getC (np := 15) (x := 386) (f := 2) (q := (h ((h 0 8) + 3) 2)) (by decide +kernel) (by decide) (tg_3_386_2_0 t749) rfl (fun l752 => ?_)
      refine x_icmp (k := 3) (tg := 91) (np := 18) (by decide +kernel) (by decide) (by first | decide | omega) l752 (fun q753 => ?_) (fun q754 => ?_)
      · have q753 : (h ((h 0 8) + 3) 2) ≤ v741 := q753
        refine x_iload (np := 92) (x := 1) (by decide +kernel) rfl (by first | decide | omega) ?_
        refine x_retI (np := 93) (x := 0) (by decide +kernel) (by first | decide | omega) (Or.inl (by decide +kernel)) ⟨_, rfl, (by first | decide | omega), ?_⟩
        exact ⟨rfl, (by first | decide | omega)⟩
      have q754 : ¬ ((h ((h 0 8) + 3) 2) ≤ v741) := q754
      refine x_aload (np := 19) (x := 0) (by decide +kernel) rfl (x_nc_le (by decide)) ?_
      refine x_getR (np := 22) (x := 648) (f := 8) (q := (h 0 8)) (by decide +kernel) (by decide) (by decide +kernel) rfl ?_
      have q755 : h (h 0 8) 1 = ((h 0 8) + 3) := tf_0_1 hJ t749
      refine x_getR (np := 25) (x := 513) (f := 1) (q := ((h 0 8) + 3)) (by decide +kernel) (by decide) (tg_0_513_1_1 t749) q755 ?_
      refine x_iload (np := 26) (x := 2) (by decide +kernel) rfl (by first | decide | omega) ?_
      refine x_const (np := 27) (x := 9223372051887161347) (a := 2147483651) (by decide +kernel) (by decide) (by decide) ?_
      refine x_nI (t := 6) (mj := 68) (n := 3) (rc := 7) (ml := 4) (nr := 0) (np := 30) (as := [x_r ((h 0 8) + 3), iv_c v741, iv_c 2147483651]) (rest := []) (lo1 := [x_r ((h 0 8) + 3), iv_c v741, iv_c 2147483651, 147573952589676412928]) (by decide +kernel) (by decide) (by decide +kernel) (x_rb_of (tr_3_7 t749)) rfl rfl (x_wr (tn_3 t749) (x_wi (by first | decide | omega) (x_wi (by decide) x_wn))) x_wn (by decide) rfl ?_
      refine x_iload (np := 1) (x := 1) (by decide +kernel) rfl (by first | decide | omega) ?_
      refine x_ifz (k := 2) (tg := 28) (np := 4) (by decide +kernel) (by decide) (by first | decide | omega) (fun q756 => ?_) (fun q757 => ?_)
      · have q756 : v741 < 2147483648 := q756
        exfalso; omega
      have q757 : ¬ (v741 < 2147483648) := q757
      refine x_iload (np := 5) (x := 1) (by decide +kernel) rfl (by first | decide | omega) ?_
      refine x_aload (np := 6) (x := 0) (by decide +kernel) rfl (x_nc_le (tn_3 t749)) ?_
      refine x_getC (np := 9) (x := 386) (f := 2) (q := (h ((h 0 8) + 3) 2)) (by decide +kernel) (by decide) (tg_3_386_2_0 t749) rfl (fun l758 => ?_)
      refine x_icmp (k := 3) (tg := 28) (np := 12) (by decide +kernel) (by decide) (by first | decide | omega) l752 (fun q759 => ?_) (fun q760 => ?_)
      · have q759 : (h ((h 0 8) + 3) 2) ≤ v741 := q759
        exfalso; omega
      have q760 : ¬ ((h ((h 0 8) + 3) 2) ≤ v741) := q760
      refine x_iload (np := 13) (x := 2) (by decide +kernel) rfl (by decide) ?_
      refine x_ifz (k := 2) (tg := 28) (np := 16) (by decide +kernel) (by decide) (by decide) (fun q761 => ?_) (fun q762 => ?_)
      · have q761 : 2147483651 < 2147483648 := q761
        exfalso; omega
      have q762 : ¬ (2147483651 < 2147483648) := q762
      refine x_iload (np := 17) (x := 2) (by decide +kernel) rfl (by decide) ?_
      refine x_aload (np := 18) (x := 0) (by decide +kernel) rfl (x_nc_le (tn_3 t749)) ?_
      have b763 := jB (e := 0) 0 hJ (rg_T3_0_0_1 t749) (by first | decide | omega) (by first | decide | omega)
      have q764 : (h ((h 0 8) + 3) 0) = 2147483652 := by first | decide | omega
      refine x_getC (np := 21) (x := 384) (f := 0) (q := 2147483652) (by decide +kernel) (by decide) (tg_3_384_0_0 t749) q764 (fun l765 => ?_)
      refine x_icmp (k := 3) (tg := 28) (np := 24) (by decide +kernel) (by decide) (by decide) (by decide) (fun q766 => ?_) (fun q767 => ?_)
      · have q766 : 2147483652 ≤ 2147483651 := q766
        exfalso; omega
      have q767 : ¬ (2147483652 ≤ 2147483651) := q767
      refine x_const (np := 25) (x := 9223372043297226753) (a := 2147483649) (by decide +kernel) (by decide) (by decide) ?_
      refine x_goto (np := 28) (x := 29) (by decide +kernel) ?_
      refine x_istore (np := 30) (x := 3) (lo' := [x_r ((h 0 8) + 3), iv_c v741, iv_c 2147483651, iv_c 2147483649]) (by decide +kernel) (by decide) (Nat.le_of_ble_eq_true rfl) rfl ?_
      refine x_iload (np := 31) (x := 3) (by decide +kernel) rfl (by decide) ?_
      refine x_ifz (k := 0) (tg := 50) (np := 34) (by decide +kernel) (by decide) (by decide) (fun q768 => ?_) (fun q769 => ?_)
      · have q768 : 2147483649 = 2147483648 := q768
        exfalso; omega
      have q769 : ¬ (2147483649 = 2147483648) := q769
      refine x_aload (np := 35) (x := 0) (by decide +kernel) rfl (x_nc_le (tn_3 t749)) ?_
      have q770 : h ((h 0 8) + 3) 1 = ((h 0 8) + 4) := tf_3_1 hJ t749
      refine x_getR (np := 38) (x := 385) (f := 1) (q := ((h 0 8) + 4)) (by decide +kernel) (by decide) (tg_3_385_1_1 t749) q770 ?_
      refine x_iload (np := 39) (x := 1) (by decide +kernel) rfl (by first | decide | omega) ?_
      refine x_aload (np := 40) (x := 0) (by decide +kernel) rfl (x_nc_le (tn_3 t749)) ?_
      refine x_getC (np := 43) (x := 384) (f := 0) (q := 2147483652) (by decide +kernel) (by decide) (tg_3_384_0_0 t749) q764 (fun l771 => ?_)
      obtain ⟨u772, q773⟩ : ∃ z, v741 = 2147483648 + z := ⟨v741 - 2147483648, by first | decide | omega⟩
      refine x_imul (np := 44) (x := 0) (i := u772) (j := 4) (v := (2147483648 + 4 * u772)) (by decide +kernel) (by first | decide | omega) (by first | decide | omega) (by first | decide | omega) (by first | decide | omega) (by first | decide | omega) (by decide) ?_
      refine x_iload (np := 45) (x := 2) (by decide +kernel) rfl (by decide) ?_
      refine x_iadd (np := 46) (x := 0) (v := (2147483651 + 4 * u772)) (by decide +kernel) (by first | decide | omega) (by decide) (by first | decide | omega) (by first | decide | omega) ?_
      have b775 := jB (e := (3 + 4 * u772)) u772 hJ (rg_T4_3_4_10 t749) (by first | decide | omega) (by first | decide | omega)
      refine x_aldC (np := 47) (x := 0) (n := 40) (i := (3 + 4 * u772)) (q := ((h ((h 0 8) + 4) (3 + 4 * u772)))) (by decide +kernel) (ta_4_40 t749) (by first | decide | omega) (by first | decide | omega) (by decide) rfl (fun l776 => ?_)
      refine x_goto (np := 50) (x := 51) (by decide +kernel) ?_
      refine x_retI (np := 52) (x := 0) (by decide +kernel) l776 (Or.inl (by decide +kernel)) ⟨_, rfl, l776, ?_⟩
      refine x_istore (np := 31) (x := 3) (lo' := [x_r 0, iv_c v739, iv_c v741, iv_c ((h ((h 0 8) + 4) (3 + 4 * u772))), w744, w745]) (by decide +kernel) l776 (Nat.le_of_ble_eq_true rfl) rfl ?_
      refine x_aload (np := 32) (x := 0) (by decide +kernel) rfl (x_nc_le (by decide)) ?_
      refine x_getR (np := 35) (x := 648) (f := 8) (q := (h 0 8)) (by decide +kernel) (by decide) (by decide +kernel) rfl ?_
      have q777 : h (h 0 8) 1 = ((h 0 8) + 3) := tf_0_1 hJ t749
      refine x_getR (np := 38) (x := 513) (f := 1) (q := ((h 0 8) + 3)) (by decide +kernel) (by decide) (tg_0_513_1_1 t749) q777 ?_
      refine x_iload (np := 39) (x := 2) (by decide +kernel) rfl (by first | decide | omega) ?_
      refine x_const (np := 40) (x := 9223372039002259456) (a := 2147483648) (by decide +kernel) (by decide) (by decide) ?_
      refine x_nI (t := 6) (mj := 68) (n := 3) (rc := 7) (ml := 4) (nr := 0) (np := 43) (as := [x_r ((h 0 8) + 3), iv_c v741, iv_c 2147483648]) (rest := []) (lo1 := [x_r ((h 0 8) + 3), iv_c v741, iv_c 2147483648, 147573952589676412928]) (by decide +kernel) (by decide) (by decide +kernel) (x_rb_of (tr_3_7 t749)) rfl rfl (x_wr (tn_3 t749) (x_wi (by first | decide | omega) (x_wi (by decide) x_wn))) x_wn (by decide) rfl ?_
      refine x_iload (np := 1) (x := 1) (by decide +kernel) rfl (by first | decide | omega) ?_
      refine x_ifz (k := 2) (tg := 28) (np := 4) (by decide +kernel) (by decide) (by first | decide | omega) (fun q778 => ?_) (fun q779 => ?_)
      · have q778 : v741 < 2147483648 := q778
        exfalso; omega
      have q779 : ¬ (v741 < 2147483648) := q779
      refine x_iload (np := 5) (x := 1) (by decide +kernel) rfl (by first | decide | omega) ?_
      refine x_aload (np := 6) (x := 0) (by decide +kernel) rfl (x_nc_le (tn_3 t749)) ?_
      refine x_getC (np := 9) (x := 386) (f := 2) (q := (h ((h 0 8) + 3) 2)) (by decide +kernel) (by decide) (tg_3_386_2_0 t749) rfl (fun l780 => ?_)
      refine x_icmp (k := 3) (tg := 28) (np := 12) (by decide +kernel) (by decide) (by first | decide | omega) l752 (fun q781 => ?_) (fun q782 => ?_)
      · have q781 : (h ((h 0 8) + 3) 2) ≤ v741 := q781
        exfalso; omega
      have q782 : ¬ ((h ((h 0 8) + 3) 2) ≤ v741) := q782
      refine x_iload (np := 13) (x := 2) (by decide +kernel) rfl (by decide) ?_
      refine x_ifz (k := 2) (tg := 28) (np := 16) (by decide +kernel) (by decide) (by decide) (fun q783 => ?_) (fun q784 => ?_)
      · have q783 : 2147483648 < 2147483648 := q783
        exfalso; omega
      have q784 : ¬ (2147483648 < 2147483648) := q784
      refine x_iload (np := 17) (x := 2) (by decide +kernel) rfl (by decide) ?_
      refine x_aload (np := 18) (x := 0) (by decide +kernel) rfl (x_nc_le (tn_3 t749)) ?_
      refine x_getC (np := 21) (x := 384) (f := 0) (q := 2147483652) (by decide +kernel) (by decide) (tg_3_384_0_0 t749) q764 (fun l785 => ?_)
      refine x_icmp (k := 3) (tg := 28) (np := 24) (by decide +kernel) (by decide) (by decide) (by decide) (fun q786 => ?_) (fun q787 => ?_)
      · have q786 : 2147483652 ≤ 2147483648 := q786
        exfalso; omega
      have q787 : ¬ (2147483652 ≤ 2147483648) := q787
      refine x_const (np := 25) (x := 9223372043297226753) (a := 2147483649) (by decide +kernel) (by decide) (by decide) ?_
      refine x_goto (np := 28) (x := 29) (by decide +kernel) ?_
      refine x_istore (np := 30) (x := 3) (lo' := [x_r ((h 0 8) + 3), iv_c v741, iv_c 2147483648, iv_c 2147483649]) (by decide +kernel) (by decide) (Nat.le_of_ble_eq_true rfl) rfl ?_
      refine x_iload (np := 31) (x := 3) (by decide +kernel) rfl (by decide) ?_
      refine x_ifz (k := 0) (tg := 50) (np := 34) (by decide +kernel) (by decide) (by decide) (fun q788 => ?_) (fun q789 => ?_)
      · have q788 : 2147483649 = 2147483648 := q788
        exfalso; omega
      have q789 : ¬ (2147483649 = 2147483648) := q789
      refine x_aload (np := 35) (x := 0) (by decide +kernel) rfl (x_nc_le (tn_3 t749)) ?_
      have q790 : h ((h 0 8) + 3) 1 = ((h 0 8) + 4) := tf_3_1 hJ t749
      refine x_getR (np := 38) (x := 385) (f := 1) (q := ((h 0 8) + 4)) (by decide +kernel) (by decide) (tg_3_385_1_1 t749) q790 ?_
      refine x_iload (np := 39) (x := 1) (by decide +kernel) rfl (by first | decide | omega) ?_
      refine x_aload (np := 40) (x := 0) (by decide +kernel) rfl (x_nc_le (tn_3 t749)) ?_
      refine x_getC (np := 43) (x := 384) (f := 0) (q := 2147483652) (by decide +kernel) (by decide) (tg_3_384_0_0 t749) q764 (fun l791 => ?_)
      refine x_imul (np := 44) (x := 0) (i := u772) (j := 4) (v := (2147483648 + 4 * u772)) (by decide +kernel) (by first | decide | omega) (by first | decide | omega) (by first | decide | omega) (by first | decide | omega) (by first | decide | omega) (by decide) ?_
      refine x_iload (np := 45) (x := 2) (by decide +kernel) rfl (by decide) ?_
      refine x_iadd (np := 46) (x := 0) (v := (2147483648 + 4 * u772)) (by decide +kernel) (by first | decide | omega) (by decide) (by first | decide | omega) (by first | decide | omega) ?_
      have b793 := jB (e := (4 * u772)) u772 hJ (rg_T4_0_4_10 t749) (by first | decide | omega) (by first | decide | omega)
      refine x_aldC (np := 47) (x := 0) (n := 40) (i := (4 * u772)) (q := ((h ((h 0 8) + 4) (4 * u772)))) (by decide +kernel) (ta_4_40 t749) (by first | decide | omega) (by first | decide | omega) (by decide) rfl (fun l794 => ?_)
      refine x_goto (np := 50) (x := 51) (by decide +kernel) ?_
      refine x_retI (np := 52) (x := 0) (by decide +kernel) l794 (Or.inl (by decide +kernel)) ⟨_, rfl, l794, ?_⟩
      refine x_istore (np := 45) (x := 4) (lo' := [x_r 0, iv_c v739, iv_c v741, iv_c ((h ((h 0 8) + 4) (3 + 4 * u772))), iv_c ((h ((h 0 8) + 4) (4 * u772))), w745]) (by decide +kernel) l794 (Nat.le_of_ble_eq_true rfl) rfl ?_
      refine x_aload (np := 46) (x := 0) (by decide +kernel) rfl (x_nc_le (by decide)) ?_
      refine x_getR (np := 49) (x := 648) (f := 8) (q := (h 0 8)) (by decide +kernel) (by decide) (by decide +kernel) rfl ?_
      have q795 : h (h 0 8) 1 = ((h 0 8) + 3) := tf_0_1 hJ t749
      refine x_getR (np := 52) (x := 513) (f := 1) (q := ((h 0 8) + 3)) (by decide +kernel) (by decide) (tg_0_513_1_1 t749) q795 ?_
      refine x_iload (np := 53) (x := 2) (by decide +kernel) rfl (by first | decide | omega) ?_
      refine x_const (np := 54) (x := 9223372047592194050) (a := 2147483650) (by decide +kernel) (by decide) (by decide) ?_
      refine x_nI (t := 6) (mj := 68) (n := 3) (rc := 7) (ml := 4) (nr := 0) (np := 57) (as := [x_r ((h 0 8) + 3), iv_c v741, iv_c 2147483650]) (rest := []) (lo1 := [x_r ((h 0 8) + 3), iv_c v741, iv_c 2147483650, 147573952589676412928]) (by decide +kernel) (by decide) (by decide +kernel) (x_rb_of (tr_3_7 t749)) rfl rfl (x_wr (tn_3 t749) (x_wi (by first | decide | omega) (x_wi (by decide) x_wn))) x_wn (by decide) rfl ?_
      refine x_iload (np := 1) (x := 1) (by decide +kernel) rfl (by first | decide | omega) ?_
      refine x_ifz (k := 2) (tg := 28) (np := 4) (by decide +kernel) (by decide) (by first | decide | omega) (fun q796 => ?_) (fun q797 => ?_)
      · have q796 : v741 < 2147483648 := q796
        exfalso; omega
      have q797 : ¬ (v741 < 2147483648) := q797
      refine x_iload (np := 5) (x := 1) (by decide +kernel) rfl (by first | decide | omega) ?_
      refine x_aload (np := 6) (x := 0) (by decide +kernel) rfl (x_nc_le (tn_3 t749)) ?_
      refine x_getC (np := 9) (x := 386) (f := 2) (q := (h ((h 0 8) + 3) 2)) (by decide +kernel) (by decide) (tg_3_386_2_0 t749) rfl (fun l798 => ?_)
      refine x_icmp (k := 3) (tg := 28) (np := 12) (by decide +kernel) (by decide) (by first | decide | omega) l752 (fun q799 => ?_) (fun q800 => ?_)
      · have q799 : (h ((h 0 8) + 3) 2) ≤ v741 := q799
        exfalso; omega
      have q800 : ¬ ((h ((h 0 8) + 3) 2) ≤ v741) := q800
      refine x_iload (np := 13) (x := 2) (by decide +kernel) rfl (by decide) ?_
      refine x_ifz (k := 2) (tg := 28) (np := 16) (by decide +kernel) (by decide) (by decide) (fun q801 => ?_) (fun q802 => ?_)
      · have q801 : 2147483650 < 2147483648 := q801
        exfalso; omega
      have q802 : ¬ (2147483650 < 2147483648) := q802
      refine x_iload (np := 17) (x := 2) (by decide +kernel) rfl (by decide) ?_
      refine x_aload (np := 18) (x := 0) (by decide +kernel) rfl (x_nc_le (tn_3 t749)) ?_
      refine x_getC (np := 21) (x := 384) (f := 0) (q := 2147483652) (by decide +kernel) (by decide) (tg_3_384_0_0 t749) q764 (fun l803 => ?_)
      refine x_icmp (k := 3) (tg := 28) (np := 24) (by decide +kernel) (by decide) (by decide) (by decide) (fun q804 => ?_) (fun q805 => ?_)
      · have q804 : 2147483652 ≤ 2147483650 := q804
        exfalso; omega
      have q805 : ¬ (2147483652 ≤ 2147483650) := q805
      refine x_const (np := 25) (x := 9223372043297226753) (a := 2147483649) (by decide +kernel) (by decide) (by decide) ?_
      refine x_goto (np := 28) (x := 29) (by decide +kernel) ?_
      refine x_istore (np := 30) (x := 3) (lo' := [x_r ((h 0 8) + 3), iv_c v741, iv_c 2147483650, iv_c 2147483649]) (by decide +kernel) (by decide) (Nat.le_of_ble_eq_true rfl) rfl ?_
      refine x_iload (np := 31) (x := 3) (by decide +kernel) rfl (by decide) ?_
      refine x_ifz (k := 0) (tg := 50) (np := 34) (by decide +kernel) (by decide) (by decide) (fun q806 => ?_) (fun q807 => ?_)
      · have q806 : 2147483649 = 2147483648 := q806
        exfalso; omega
      have q807 : ¬ (2147483649 = 2147483648) := q807
      refine x_aload (np := 35) (x := 0) (by decide +kernel) rfl (x_nc_le (tn_3 t749)) ?_
      have q808 : h ((h 0 8) + 3) 1 = ((h 0 8) + 4) := tf_3_1 hJ t749
      refine x_getR (np := 38) (x := 385) (f := 1) (q := ((h 0 8) + 4)) (by decide +kernel) (by decide) (tg_3_385_1_1 t749) q808 ?_
      refine x_iload (np := 39) (x := 1) (by decide +kernel) rfl (by first | decide | omega) ?_
      refine x_aload (np := 40) (x := 0) (by decide +kernel) rfl (x_nc_le (tn_3 t749)) ?_
      refine x_getC (np := 43) (x := 384) (f := 0) (q := 2147483652) (by decide +kernel) (by decide) (tg_3_384_0_0 t749) q764 (fun l809 => ?_)
      refine x_imul (np := 44) (x := 0) (i := u772) (j := 4) (v := (2147483648 + 4 * u772)) (by decide +kernel) (by first | decide | omega) (by first | decide | omega) (by first | decide | omega) (by first | decide | omega) (by first | decide | omega) (by decide) ?_
      refine x_iload (np := 45) (x := 2) (by decide +kernel) rfl (by decide) ?_
      refine x_iadd (np := 46) (x := 0) (v := (2147483650 + 4 * u772)) (by decide +kernel) (by first | decide | omega) (by decide) (by first | decide | omega) (by first | decide | omega) ?_
      refine x_aldC (np := 47) (x := 0) (n := 40) (i := (2 + 4 * u772)) (q := ((h ((h 0 8) + 4) (2 + 4 * u772)))) (by decide +kernel) (ta_4_40 t749) (by first | decide | omega) (by first | decide | omega) (by decide) rfl (fun l811 => ?_)
      refine x_goto (np := 50) (x := 51) (by decide +kernel) ?_
      refine x_retI (np := 52) (x := 0) (by decide +kernel) l811 (Or.inl (by decide +kernel)) ⟨_, rfl, l811, ?_⟩
      refine x_istore (np := 59) (x := 5) (lo' := [x_r 0, iv_c v739, iv_c v741, iv_c ((h ((h 0 8) + 4) (3 + 4 * u772))), iv_c ((h ((h 0 8) + 4) (4 * u772))), iv_c ((h ((h 0 8) + 4) (2 + 4 * u772)))]) (by decide +kernel) l811 (Nat.le_of_ble_eq_true rfl) rfl ?_
      refine x_iload (np := 60) (x := 3) (by decide +kernel) rfl l776 ?_
      refine x_const (np := 61) (x := 9223372034707292159) (a := 2147483647) (by decide +kernel) (by decide) (by decide) ?_
      refine x_icmp (k := 0) (tg := 85) (np := 64) (by decide +kernel) (by decide) l776 (by decide) (fun q812 => ?_) (fun q813 => ?_)
      · have q812 : ((h ((h 0 8) + 4) (3 + 4 * u772))) = 2147483647 := q812
        refine x_iinc (np := 88) (i := 2) (j := 2147483649) (v := (1 + v741)) (lo' := [x_r 0, iv_c v739, iv_c (1 + v741), iv_c ((h ((h 0 8) + 4) (3 + 4 * u772))), iv_c ((h ((h 0 8) + 4) (4 * u772))), iv_c ((h ((h 0 8) + 4) (2 + 4 * u772)))]) (by decide +kernel) (by decide) (by decide) rfl (by first | decide | omega) (by first | decide | omega) (by first | decide | omega) rfl ?_
        refine x_goto (np := 91) (x := 4) (by decide +kernel) ?_
        exact i748 v739 (1 + v741) (iv_c ((h ((h 0 8) + 4) (3 + 4 * u772)))) (iv_c ((h ((h 0 8) + 4) (4 * u772)))) (iv_c ((h ((h 0 8) + 4) (2 + 4 * u772)))) (by first | decide | omega) (by first | decide | omega) (by first | decide | omega)
      have q813 : ¬ (((h ((h 0 8) + 4) (3 + 4 * u772))) = 2147483647) := q813
      refine x_aload (np := 65) (x := 0) (by decide +kernel) rfl (x_nc_le (by decide)) ?_
      have q814 : h 0 1 = 45 := by have z := jB (e := 1) 0 hJ rg_0_1_0_1 (by decide) (by decide); omega
      refine x_getR (np := 68) (x := 641) (f := 1) (q := 45) (by decide +kernel) (by decide) (by decide +kernel) q814 ?_
      refine x_iload (np := 70) (x := 4) (by decide +kernel) rfl l794 ?_
      refine x_iload (np := 72) (x := 5) (by decide +kernel) rfl l811 ?_
      refine x_cP (t := 6) (mj := 5) (n := 3) (rc := 2) (ml := 3) (nr := 0) (np := 75) (as := [x_r 45, iv_c ((h ((h 0 8) + 4) (4 * u772))), iv_c ((h ((h 0 8) + 4) (2 + 4 * u772)))]) (rest := []) (lo1 := [x_r 45, iv_c ((h ((h 0 8) + 4) (4 * u772))), iv_c ((h ((h 0 8) + 4) (2 + 4 * u772)))]) (by decide +kernel) (by decide) (by decide +kernel) (x_rb_of (by decide +kernel)) rfl rfl (x_wr (by decide) (x_wi l794 (x_wi l811 x_wn))) x_wn (by decide) rfl (c5_45 hJ  (by first | decide | omega) (by first | decide | omega)) (fun v815 l816 q817 => ?_)
      refine x_iload (np := 76) (x := 3) (by decide +kernel) rfl l776 ?_
      refine x_icmp (k := 1) (tg := 85) (np := 79) (by decide +kernel) (by decide) l816 l776 (fun q818 => ?_) (fun q819 => ?_)
      · have q818 : v815 ≠ ((h ((h 0 8) + 4) (3 + 4 * u772))) := q818
        refine x_iinc (np := 88) (i := 2) (j := 2147483649) (v := (1 + v741)) (lo' := [x_r 0, iv_c v739, iv_c (1 + v741), iv_c ((h ((h 0 8) + 4) (3 + 4 * u772))), iv_c ((h ((h 0 8) + 4) (4 * u772))), iv_c ((h ((h 0 8) + 4) (2 + 4 * u772)))]) (by decide +kernel) (by decide) (by decide) rfl (by first | decide | omega) (by first | decide | omega) (by first | decide | omega) rfl ?_
        refine x_goto (np := 91) (x := 4) (by decide +kernel) ?_
        exact i748 v739 (1 + v741) (iv_c ((h ((h 0 8) + 4) (3 + 4 * u772)))) (iv_c ((h ((h 0 8) + 4) (4 * u772)))) (iv_c ((h ((h 0 8) + 4) (2 + 4 * u772)))) (by first | decide | omega) (by first | decide | omega) (by first | decide | omega)
      have q819 : ¬ (v815 ≠ ((h ((h 0 8) + 4) (3 + 4 * u772)))) := q819
      refine x_iload (np := 80) (x := 1) (by decide +kernel) rfl (by first | decide | omega) ?_
      refine x_const (np := 81) (x := 9223372043297226753) (a := 2147483649) (by decide +kernel) (by decide) (by decide) ?_
      refine x_iload (np := 82) (x := 2) (by decide +kernel) rfl (by first | decide | omega) ?_
      refine x_any (np := 83) (k9 := 3) (by decide +kernel) (by decide) (by decide) (by first | decide | omega) (fun v820 l821 => ?_)
      refine x_any (np := 84) (k9 := 1) (by decide +kernel) (by decide) (by first | decide | omega) l821 (fun v822 l823 => ?_)
      refine x_istore (np := 85) (x := 1) (lo' := [x_r 0, iv_c v822, iv_c v741, iv_c ((h ((h 0 8) + 4) (3 + 4 * u772))), iv_c ((h ((h 0 8) + 4) (4 * u772))), iv_c ((h ((h 0 8) + 4) (2 + 4 * u772)))]) (by decide +kernel) l823 (Nat.le_of_ble_eq_true rfl) rfl ?_
      refine x_iinc (np := 88) (i := 2) (j := 2147483649) (v := (1 + v741)) (lo' := [x_r 0, iv_c v822, iv_c (1 + v741), iv_c ((h ((h 0 8) + 4) (3 + 4 * u772))), iv_c ((h ((h 0 8) + 4) (4 * u772))), iv_c ((h ((h 0 8) + 4) (2 + 4 * u772)))]) (by decide +kernel) (by decide) (by decide) rfl (by first | decide | omega) (by first | decide | omega) (by first | decide | omega) rfl ?_
      refine x_goto (np := 91) (x := 4) (by decide +kernel) ?_
      exact i748 v822 (1 + v741) (iv_c ((h ((h 0 8) + 4) (3 + 4 * u772)))) (iv_c ((h ((h 0 8) + 4) (4 * u772)))) (iv_c ((h ((h 0 8) + 4) (2 + 4 * u772)))) (by first | decide | omega) (by first | decide | omega) (by first | decide | omega)
  exact p746 _ 2147483648 2147483648 147573952589676412928 147573952589676412928 147573952589676412928 (Nat.lt_succ_self _) (by first | decide | omega) (by first | decide | omega)
set_option maxHeartbeats 0 in
/-- LentNames$Table.at(II)I -/
theorem c68_T5_c1 {sc : Nat × Nat} {d ra0 a1 : Nat} {h : xh} (hJ : J h) (ta0 : tw ra0) (ba1 : 2147483648 ≤ a1 ∧ a1 ≤ 2147483657) : X sc 68 d (xI fun r h' => h' = h ∧ (0 ≤ r ∧ r ≤ 4294967295)) 0 0 0 [x_r (ra0 + 5), iv_c a1, iv_c 2147483649, 147573952589676412928] [] h := by
  have la1 : a1 < 4294967296 := by first | decide | omega
  refine x_iload (np := 1) (x := 1) (by decide +kernel) rfl la1 ?_
  refine x_ifz (k := 2) (tg := 28) (np := 4) (by decide +kernel) (by decide) la1 (fun q1 => ?_) (fun q2 => ?_)
  · have q1 : a1 < 2147483648 := q1
    exfalso; omega
  have q2 : ¬ (a1 < 2147483648) := q2
  refine x_iload (np := 5) (x := 1) (by decide +kernel) rfl la1 ?_
  refine x_aload (np := 6) (x := 0) (by decide +kernel) rfl (x_nc_le (tn_5 ta0)) ?_
  have b3 := jB (e := 2) 0 hJ (rg_T5_2_0_1 ta0) (by first | decide | omega) (by first | decide | omega)
  refine x_getC (np := 9) (x := 386) (f := 2) (q := (h (ra0 + 5) 2)) (by decide +kernel) (by decide) (tg_5_386_2_0 ta0) rfl (fun l4 => ?_)
  refine x_icmp (k := 3) (tg := 28) (np := 12) (by decide +kernel) (by decide) la1 l4 (fun q5 => ?_) (fun q6 => ?_)
  · have q5 : (h (ra0 + 5) 2) ≤ a1 := q5
    refine x_const (np := 29) (x := 9223372039002259456) (a := 2147483648) (by decide +kernel) (by decide) (by decide) ?_
    refine x_istore (np := 30) (x := 3) (lo' := [x_r (ra0 + 5), iv_c a1, iv_c 2147483649, iv_c 2147483648]) (by decide +kernel) (by decide) (Nat.le_of_ble_eq_true rfl) rfl ?_
    refine x_iload (np := 31) (x := 3) (by decide +kernel) rfl (by decide) ?_
    refine x_ifz (k := 0) (tg := 50) (np := 34) (by decide +kernel) (by decide) (by decide) (fun q7 => ?_) (fun q8 => ?_)
    · have q7 : 2147483648 = 2147483648 := q7
      refine x_const (np := 51) (x := 9223372034707292159) (a := 2147483647) (by decide +kernel) (by decide) (by decide) ?_
      refine x_retI (np := 52) (x := 0) (by decide +kernel) (by decide) (Or.inl (by decide +kernel)) ⟨_, rfl, (by decide), ?_⟩
      exact ⟨rfl, (by first | decide | omega)⟩
    have q8 : ¬ (2147483648 = 2147483648) := q8
    exfalso; omega
  have q6 : ¬ ((h (ra0 + 5) 2) ≤ a1) := q6
  refine x_iload (np := 13) (x := 2) (by decide +kernel) rfl (by decide) ?_
  refine x_ifz (k := 2) (tg := 28) (np := 16) (by decide +kernel) (by decide) (by decide) (fun q9 => ?_) (fun q10 => ?_)
  · have q9 : 2147483649 < 2147483648 := q9
    exfalso; omega
  have q10 : ¬ (2147483649 < 2147483648) := q10
  refine x_iload (np := 17) (x := 2) (by decide +kernel) rfl (by decide) ?_
  refine x_aload (np := 18) (x := 0) (by decide +kernel) rfl (x_nc_le (tn_5 ta0)) ?_
  have b11 := jB (e := 0) 0 hJ (rg_T5_0_0_1 ta0) (by first | decide | omega) (by first | decide | omega)
  have q12 : (h (ra0 + 5) 0) = 2147483652 := by first | decide | omega
  refine x_getC (np := 21) (x := 384) (f := 0) (q := 2147483652) (by decide +kernel) (by decide) (tg_5_384_0_0 ta0) q12 (fun l13 => ?_)
  refine x_icmp (k := 3) (tg := 28) (np := 24) (by decide +kernel) (by decide) (by decide) (by decide) (fun q14 => ?_) (fun q15 => ?_)
  · have q14 : 2147483652 ≤ 2147483649 := q14
    exfalso; omega
  have q15 : ¬ (2147483652 ≤ 2147483649) := q15
  refine x_const (np := 25) (x := 9223372043297226753) (a := 2147483649) (by decide +kernel) (by decide) (by decide) ?_
  refine x_goto (np := 28) (x := 29) (by decide +kernel) ?_
  refine x_istore (np := 30) (x := 3) (lo' := [x_r (ra0 + 5), iv_c a1, iv_c 2147483649, iv_c 2147483649]) (by decide +kernel) (by decide) (Nat.le_of_ble_eq_true rfl) rfl ?_
  refine x_iload (np := 31) (x := 3) (by decide +kernel) rfl (by decide) ?_
  refine x_ifz (k := 0) (tg := 50) (np := 34) (by decide +kernel) (by decide) (by decide) (fun q16 => ?_) (fun q17 => ?_)
  · have q16 : 2147483649 = 2147483648 := q16
    exfalso; omega
  have q17 : ¬ (2147483649 = 2147483648) := q17
  refine x_aload (np := 35) (x := 0) (by decide +kernel) rfl (x_nc_le (tn_5 ta0)) ?_
  have q18 : h (ra0 + 5) 1 = (ra0 + 6) := tf_5_1 hJ ta0
  refine x_getR (np := 38) (x := 385) (f := 1) (q := (ra0 + 6)) (by decide +kernel) (by decide) (tg_5_385_1_1 ta0) q18 ?_
  refine x_iload (np := 39) (x := 1) (by decide +kernel) rfl la1 ?_
  refine x_aload (np := 40) (x := 0) (by decide +kernel) rfl (x_nc_le (tn_5 ta0)) ?_
  refine x_getC (np := 43) (x := 384) (f := 0) (q := 2147483652) (by decide +kernel) (by decide) (tg_5_384_0_0 ta0) q12 (fun l19 => ?_)
  obtain ⟨u20, q21⟩ : ∃ z, a1 = 2147483648 + z := ⟨a1 - 2147483648, by first | decide | omega⟩
  refine x_imul (np := 44) (x := 0) (i := u20) (j := 4) (v := (2147483648 + 4 * u20)) (by decide +kernel) (by first | decide | omega) (by first | decide | omega) (by first | decide | omega) (by first | decide | omega) la1 (by decide) ?_
  refine x_iload (np := 45) (x := 2) (by decide +kernel) rfl (by decide) ?_
  refine x_iadd (np := 46) (x := 0) (v := (2147483649 + 4 * u20)) (by decide +kernel) (by first | decide | omega) (by decide) (by first | decide | omega) (by first | decide | omega) ?_
  refine x_aldC (np := 47) (x := 0) (n := 40) (i := (1 + 4 * u20)) (q := ((h (ra0 + 6) (1 + 4 * u20)))) (by decide +kernel) (ta_6_40 ta0) (by first | decide | omega) (by first | decide | omega) (by decide) rfl (fun l23 => ?_)
  refine x_goto (np := 50) (x := 51) (by decide +kernel) ?_
  refine x_retI (np := 52) (x := 0) (by decide +kernel) l23 (Or.inl (by decide +kernel)) ⟨_, rfl, l23, ?_⟩
  exact ⟨rfl, (by first | decide | omega)⟩
set_option maxHeartbeats 0 in
/-- LentNames$Table.at(II)I -/
theorem c68_T5_c2 {sc : Nat × Nat} {d ra0 a1 : Nat} {h : xh} (hJ : J h) (ta0 : tw ra0) (ba1 : 2147483648 ≤ a1 ∧ a1 ≤ 2147483657) : X sc 68 d (xI fun r h' => h' = h ∧ (0 ≤ r ∧ r ≤ 4294967295)) 0 0 0 [x_r (ra0 + 5), iv_c a1, iv_c 2147483650, 147573952589676412928] [] h := by
  have la1 : a1 < 4294967296 := by first | decide | omega
  refine x_iload (np := 1) (x := 1) (by decide +kernel) rfl la1 ?_
  refine x_ifz (k := 2) (tg := 28) (np := 4) (by decide +kernel) (by decide) la1 (fun q1 => ?_) (fun q2 => ?_)
  · have q1 : a1 < 2147483648 := q1
    exfalso; omega
  have q2 : ¬ (a1 < 2147483648) := q2
  refine x_iload (np := 5) (x := 1) (by decide +kernel) rfl la1 ?_
  refine x_aload (np := 6) (x := 0) (by decide +kernel) rfl (x_nc_le (tn_5 ta0)) ?_
  have b3 := jB (e := 2) 0 hJ (rg_T5_2_0_1 ta0) (by first | decide | omega) (by first | decide | omega)
  refine x_getC (np := 9) (x := 386) (f := 2) (q := (h (ra0 + 5) 2)) (by decide +kernel) (by decide) (tg_5_386_2_0 ta0) rfl (fun l4 => ?_)
  refine x_icmp (k := 3) (tg := 28) (np := 12) (by decide +kernel) (by decide) la1 l4 (fun q5 => ?_) (fun q6 => ?_)
  · have q5 : (h (ra0 + 5) 2) ≤ a1 := q5
    refine x_const (np := 29) (x := 9223372039002259456) (a := 2147483648) (by decide +kernel) (by decide) (by decide) ?_
    refine x_istore (np := 30) (x := 3) (lo' := [x_r (ra0 + 5), iv_c a1, iv_c 2147483650, iv_c 2147483648]) (by decide +kernel) (by decide) (Nat.le_of_ble_eq_true rfl) rfl ?_
    refine x_iload (np := 31) (x := 3) (by decide +kernel) rfl (by decide) ?_
    refine x_ifz (k := 0) (tg := 50) (np := 34) (by decide +kernel) (by decide) (by decide) (fun q7 => ?_) (fun q8 => ?_)
    · have q7 : 2147483648 = 2147483648 := q7
      refine x_const (np := 51) (x := 9223372034707292159) (a := 2147483647) (by decide +kernel) (by decide) (by decide) ?_
      refine x_retI (np := 52) (x := 0) (by decide +kernel) (by decide) (Or.inl (by decide +kernel)) ⟨_, rfl, (by decide), ?_⟩
      exact ⟨rfl, (by first | decide | omega)⟩
    have q8 : ¬ (2147483648 = 2147483648) := q8
    exfalso; omega
  have q6 : ¬ ((h (ra0 + 5) 2) ≤ a1) := q6
  refine x_iload (np := 13) (x := 2) (by decide +kernel) rfl (by decide) ?_
  refine x_ifz (k := 2) (tg := 28) (np := 16) (by decide +kernel) (by decide) (by decide) (fun q9 => ?_) (fun q10 => ?_)
  · have q9 : 2147483650 < 2147483648 := q9
    exfalso; omega
  have q10 : ¬ (2147483650 < 2147483648) := q10
  refine x_iload (np := 17) (x := 2) (by decide +kernel) rfl (by decide) ?_
  refine x_aload (np := 18) (x := 0) (by decide +kernel) rfl (x_nc_le (tn_5 ta0)) ?_
  have b11 := jB (e := 0) 0 hJ (rg_T5_0_0_1 ta0) (by first | decide | omega) (by first | decide | omega)
  have q12 : (h (ra0 + 5) 0) = 2147483652 := by first | decide | omega
  refine x_getC (np := 21) (x := 384) (f := 0) (q := 2147483652) (by decide +kernel) (by decide) (tg_5_384_0_0 ta0) q12 (fun l13 => ?_)
  refine x_icmp (k := 3) (tg := 28) (np := 24) (by decide +kernel) (by decide) (by decide) (by decide) (fun q14 => ?_) (fun q15 => ?_)
  · have q14 : 2147483652 ≤ 2147483650 := q14
    exfalso; omega
  have q15 : ¬ (2147483652 ≤ 2147483650) := q15
  refine x_const (np := 25) (x := 9223372043297226753) (a := 2147483649) (by decide +kernel) (by decide) (by decide) ?_
  refine x_goto (np := 28) (x := 29) (by decide +kernel) ?_
  refine x_istore (np := 30) (x := 3) (lo' := [x_r (ra0 + 5), iv_c a1, iv_c 2147483650, iv_c 2147483649]) (by decide +kernel) (by decide) (Nat.le_of_ble_eq_true rfl) rfl ?_
  refine x_iload (np := 31) (x := 3) (by decide +kernel) rfl (by decide) ?_
  refine x_ifz (k := 0) (tg := 50) (np := 34) (by decide +kernel) (by decide) (by decide) (fun q16 => ?_) (fun q17 => ?_)
  · have q16 : 2147483649 = 2147483648 := q16
    exfalso; omega
  have q17 : ¬ (2147483649 = 2147483648) := q17
  refine x_aload (np := 35) (x := 0) (by decide +kernel) rfl (x_nc_le (tn_5 ta0)) ?_
  have q18 : h (ra0 + 5) 1 = (ra0 + 6) := tf_5_1 hJ ta0
  refine x_getR (np := 38) (x := 385) (f := 1) (q := (ra0 + 6)) (by decide +kernel) (by decide) (tg_5_385_1_1 ta0) q18 ?_
  refine x_iload (np := 39) (x := 1) (by decide +kernel) rfl la1 ?_
  refine x_aload (np := 40) (x := 0) (by decide +kernel) rfl (x_nc_le (tn_5 ta0)) ?_
  refine x_getC (np := 43) (x := 384) (f := 0) (q := 2147483652) (by decide +kernel) (by decide) (tg_5_384_0_0 ta0) q12 (fun l19 => ?_)
  obtain ⟨u20, q21⟩ : ∃ z, a1 = 2147483648 + z := ⟨a1 - 2147483648, by first | decide | omega⟩
  refine x_imul (np := 44) (x := 0) (i := u20) (j := 4) (v := (2147483648 + 4 * u20)) (by decide +kernel) (by first | decide | omega) (by first | decide | omega) (by first | decide | omega) (by first | decide | omega) la1 (by decide) ?_
  refine x_iload (np := 45) (x := 2) (by decide +kernel) rfl (by decide) ?_
  refine x_iadd (np := 46) (x := 0) (v := (2147483650 + 4 * u20)) (by decide +kernel) (by first | decide | omega) (by decide) (by first | decide | omega) (by first | decide | omega) ?_
  refine x_aldC (np := 47) (x := 0) (n := 40) (i := (2 + 4 * u20)) (q := ((h (ra0 + 6) (2 + 4 * u20)))) (by decide +kernel) (ta_6_40 ta0) (by first | decide | omega) (by first | decide | omega) (by decide) rfl (fun l23 => ?_)
  refine x_goto (np := 50) (x := 51) (by decide +kernel) ?_
  refine x_retI (np := 52) (x := 0) (by decide +kernel) l23 (Or.inl (by decide +kernel)) ⟨_, rfl, l23, ?_⟩
  exact ⟨rfl, (by first | decide | omega)⟩
set_option maxHeartbeats 0 in
/-- LentNames$Table.at(II)I -/
theorem c68_T5_c0 {sc : Nat × Nat} {d ra0 a1 : Nat} {h : xh} (hJ : J h) (ta0 : tw ra0) (ba1 : 2147483648 ≤ a1 ∧ a1 ≤ 2147483657) : X sc 68 d (xI fun r h' => h' = h ∧ (0 ≤ r ∧ r ≤ 4294967295)) 0 0 0 [x_r (ra0 + 5), iv_c a1, iv_c 2147483648, 147573952589676412928] [] h := by
  have la1 : a1 < 4294967296 := by first | decide | omega
  refine x_iload (np := 1) (x := 1) (by decide +kernel) rfl la1 ?_
  refine x_ifz (k := 2) (tg := 28) (np := 4) (by decide +kernel) (by decide) la1 (fun q1 => ?_) (fun q2 => ?_)
  · have q1 : a1 < 2147483648 := q1
    exfalso; omega
  have q2 : ¬ (a1 < 2147483648) := q2
  refine x_iload (np := 5) (x := 1) (by decide +kernel) rfl la1 ?_
  refine x_aload (np := 6) (x := 0) (by decide +kernel) rfl (x_nc_le (tn_5 ta0)) ?_
  have b3 := jB (e := 2) 0 hJ (rg_T5_2_0_1 ta0) (by first | decide | omega) (by first | decide | omega)
  refine x_getC (np := 9) (x := 386) (f := 2) (q := (h (ra0 + 5) 2)) (by decide +kernel) (by decide) (tg_5_386_2_0 ta0) rfl (fun l4 => ?_)
  refine x_icmp (k := 3) (tg := 28) (np := 12) (by decide +kernel) (by decide) la1 l4 (fun q5 => ?_) (fun q6 => ?_)
  · have q5 : (h (ra0 + 5) 2) ≤ a1 := q5
    refine x_const (np := 29) (x := 9223372039002259456) (a := 2147483648) (by decide +kernel) (by decide) (by decide) ?_
    refine x_istore (np := 30) (x := 3) (lo' := [x_r (ra0 + 5), iv_c a1, iv_c 2147483648, iv_c 2147483648]) (by decide +kernel) (by decide) (Nat.le_of_ble_eq_true rfl) rfl ?_
    refine x_iload (np := 31) (x := 3) (by decide +kernel) rfl (by decide) ?_
    refine x_ifz (k := 0) (tg := 50) (np := 34) (by decide +kernel) (by decide) (by decide) (fun q7 => ?_) (fun q8 => ?_)
    · have q7 : 2147483648 = 2147483648 := q7
      refine x_const (np := 51) (x := 9223372034707292159) (a := 2147483647) (by decide +kernel) (by decide) (by decide) ?_
      refine x_retI (np := 52) (x := 0) (by decide +kernel) (by decide) (Or.inl (by decide +kernel)) ⟨_, rfl, (by decide), ?_⟩
      exact ⟨rfl, (by first | decide | omega)⟩
    have q8 : ¬ (2147483648 = 2147483648) := q8
    exfalso; omega
  have q6 : ¬ ((h (ra0 + 5) 2) ≤ a1) := q6
  refine x_iload (np := 13) (x := 2) (by decide +kernel) rfl (by decide) ?_
  refine x_ifz (k := 2) (tg := 28) (np := 16) (by decide +kernel) (by decide) (by decide) (fun q9 => ?_) (fun q10 => ?_)
  · have q9 : 2147483648 < 2147483648 := q9
    exfalso; omega
  have q10 : ¬ (2147483648 < 2147483648) := q10
  refine x_iload (np := 17) (x := 2) (by decide +kernel) rfl (by decide) ?_
  refine x_aload (np := 18) (x := 0) (by decide +kernel) rfl (x_nc_le (tn_5 ta0)) ?_
  have b11 := jB (e := 0) 0 hJ (rg_T5_0_0_1 ta0) (by first | decide | omega) (by first | decide | omega)
  have q12 : (h (ra0 + 5) 0) = 2147483652 := by first | decide | omega
  refine x_getC (np := 21) (x := 384) (f := 0) (q := 2147483652) (by decide +kernel) (by decide) (tg_5_384_0_0 ta0) q12 (fun l13 => ?_)
  refine x_icmp (k := 3) (tg := 28) (np := 24) (by decide +kernel) (by decide) (by decide) (by decide) (fun q14 => ?_) (fun q15 => ?_)
  · have q14 : 2147483652 ≤ 2147483648 := q14
    exfalso; omega
  have q15 : ¬ (2147483652 ≤ 2147483648) := q15
  refine x_const (np := 25) (x := 9223372043297226753) (a := 2147483649) (by decide +kernel) (by decide) (by decide) ?_
  refine x_goto (np := 28) (x := 29) (by decide +kernel) ?_
  refine x_istore (np := 30) (x := 3) (lo' := [x_r (ra0 + 5), iv_c a1, iv_c 2147483648, iv_c 2147483649]) (by decide +kernel) (by decide) (Nat.le_of_ble_eq_true rfl) rfl ?_
  refine x_iload (np := 31) (x := 3) (by decide +kernel) rfl (by decide) ?_
  refine x_ifz (k := 0) (tg := 50) (np := 34) (by decide +kernel) (by decide) (by decide) (fun q16 => ?_) (fun q17 => ?_)
  · have q16 : 2147483649 = 2147483648 := q16
    exfalso; omega
  have q17 : ¬ (2147483649 = 2147483648) := q17
  refine x_aload (np := 35) (x := 0) (by decide +kernel) rfl (x_nc_le (tn_5 ta0)) ?_
  have q18 : h (ra0 + 5) 1 = (ra0 + 6) := tf_5_1 hJ ta0
  refine x_getR (np := 38) (x := 385) (f := 1) (q := (ra0 + 6)) (by decide +kernel) (by decide) (tg_5_385_1_1 ta0) q18 ?_
  refine x_iload (np := 39) (x := 1) (by decide +kernel) rfl la1 ?_
  refine x_aload (np := 40) (x := 0) (by decide +kernel) rfl (x_nc_le (tn_5 ta0)) ?_
  refine x_getC (np := 43) (x := 384) (f := 0) (q := 2147483652) (by decide +kernel) (by decide) (tg_5_384_0_0 ta0) q12 (fun l19 => ?_)
  obtain ⟨u20, q21⟩ : ∃ z, a1 = 2147483648 + z := ⟨a1 - 2147483648, by first | decide | omega⟩
  refine x_imul (np := 44) (x := 0) (i := u20) (j := 4) (v := (2147483648 + 4 * u20)) (by decide +kernel) (by first | decide | omega) (by first | decide | omega) (by first | decide | omega) (by first | decide | omega) la1 (by decide) ?_
  refine x_iload (np := 45) (x := 2) (by decide +kernel) rfl (by decide) ?_
  refine x_iadd (np := 46) (x := 0) (v := (2147483648 + 4 * u20)) (by decide +kernel) (by first | decide | omega) (by decide) (by first | decide | omega) (by first | decide | omega) ?_
  refine x_aldC (np := 47) (x := 0) (n := 40) (i := (4 * u20)) (q := ((h (ra0 + 6) (4 * u20)))) (by decide +kernel) (ta_6_40 ta0) (by first | decide | omega) (by first | decide | omega) (by decide) rfl (fun l23 => ?_)
  refine x_goto (np := 50) (x := 51) (by decide +kernel) ?_
  refine x_retI (np := 52) (x := 0) (by decide +kernel) l23 (Or.inl (by decide +kernel)) ⟨_, rfl, l23, ?_⟩
  exact ⟨rfl, (by first | decide | omega)⟩
set_option maxHeartbeats 0 in
/-- LentNames.hasBit(II)Z -/
theorem c148 {sc : Nat × Nat} {d a0 a1 : Nat} {h : xh} (hJ : J h) (ba0 : 0 ≤ a0 ∧ a0 ≤ 4294967295) (ba1 : 0 ≤ a1 ∧ a1 ≤ 4294967295) : X sc 148 d (xI fun r h' => h' = h ∧ (2147483648 ≤ r ∧ r ≤ 2147483649)) 0 0 0 [iv_c a0, iv_c a1] [] h := by
  have la0 : a0 < 4294967296 := by first | decide | omega
  have la1 : a1 < 4294967296 := by first | decide | omega
  refine x_iload (np := 1) (x := 0) (by decide +kernel) rfl la0 ?_
  refine x_iload (np := 2) (x := 1) (by decide +kernel) rfl la1 ?_
  refine x_any (np := 3) (k9 := 4) (by decide +kernel) (by decide) la0 la1 (fun v1 l2 => ?_)
  refine x_const (np := 4) (x := 9223372043297226753) (a := 2147483649) (by decide +kernel) (by decide) (by decide) ?_
  refine x_mask (np := 5) (m := 1) (k9 := 2) (by decide +kernel) l2 (by decide +kernel) (by decide) (by decide) (by decide) (fun u3 l4 => ?_)
  refine x_const (np := 6) (x := 9223372043297226753) (a := 2147483649) (by decide +kernel) (by decide) (by decide) ?_
  refine x_icmp (k := 1) (tg := 13) (np := 9) (by decide +kernel) (by decide) (by first | decide | omega) (by decide) (fun q5 => ?_) (fun q6 => ?_)
  · have q5 : (2147483648 + u3) ≠ 2147483649 := q5
    refine x_const (np := 14) (x := 9223372039002259456) (a := 2147483648) (by decide +kernel) (by decide) (by decide) ?_
    refine x_retI (np := 15) (x := 0) (by decide +kernel) (by decide) (Or.inr ⟨by decide +kernel, by first | decide | omega, by first | decide | omega⟩) ⟨_, rfl, (by decide), ?_⟩
    exact ⟨rfl, (by first | decide | omega)⟩
  have q6 : ¬ ((2147483648 + u3) ≠ 2147483649) := q6
  refine x_const (np := 10) (x := 9223372043297226753) (a := 2147483649) (by decide +kernel) (by decide) (by decide) ?_
  refine x_goto (np := 13) (x := 14) (by decide +kernel) ?_
  refine x_retI (np := 15) (x := 0) (by decide +kernel) (by decide) (Or.inr ⟨by decide +kernel, by first | decide | omega, by first | decide | omega⟩) ⟨_, rfl, (by decide), ?_⟩
  exact ⟨rfl, (by first | decide | omega)⟩
set_option maxHeartbeats 0 in
/-- LentNames$Calendar.payer(I)I -/
theorem c12_45 {sc : Nat × Nat} {d a1 : Nat} {h : xh} (hJ : J h) (ba1 : 2147483648 ≤ a1 ∧ a1 ≤ 2147483657) : X sc 12 (d + 2) (xI fun r h' => h' = h ∧ (2147483647 ≤ r ∧ r ≤ 2147483653)) 0 0 0 [x_r 45, iv_c a1, 147573952589676412928, 147573952589676412928] [] h := by
  have la1 : a1 < 4294967296 := by first | decide | omega
  refine x_aload (np := 1) (x := 0) (by decide +kernel) rfl (x_nc_le (by decide)) ?_
  have t1 : tw (h 45 5) := hJ.2.2.2.1
  refine x_getR (np := 4) (x := 69) (f := 5) (q := (h 45 5)) (by decide +kernel) (by decide) (by decide +kernel) rfl ?_
  have q2 : h (h 45 5) 2 = ((h 45 5) + 5) := tf_0_2 hJ t1
  refine x_getR (np := 7) (x := 514) (f := 2) (q := ((h 45 5) + 5)) (by decide +kernel) (by decide) (tg_0_514_2_1 t1) q2 ?_
  refine x_iload (np := 8) (x := 1) (by decide +kernel) rfl la1 ?_
  refine x_const (np := 9) (x := 9223372043297226753) (a := 2147483649) (by decide +kernel) (by decide) (by decide) ?_
  refine x_cP (t := 6) (mj := 68) (n := 3) (rc := 7) (ml := 4) (nr := 0) (np := 12) (as := [x_r ((h 45 5) + 5), iv_c a1, iv_c 2147483649]) (rest := []) (lo1 := [x_r ((h 45 5) + 5), iv_c a1, iv_c 2147483649, 147573952589676412928]) (by decide +kernel) (by decide) (by decide +kernel) (x_rb_of (tr_5_7 t1)) rfl rfl (x_wr (tn_5 t1) (x_wi la1 (x_wi (by decide) x_wn))) x_wn (by decide) rfl (c68_T5_c1 hJ t1 (by first | decide | omega) ) (fun v4 l5 q6 => ?_)
  refine x_istore (np := 13) (x := 2) (lo' := [x_r 45, iv_c a1, iv_c v4, 147573952589676412928]) (by decide +kernel) l5 (Nat.le_of_ble_eq_true rfl) rfl ?_
  refine x_aload (np := 14) (x := 0) (by decide +kernel) rfl (x_nc_le (by decide)) ?_
  refine x_getR (np := 17) (x := 69) (f := 5) (q := (h 45 5)) (by decide +kernel) (by decide) (by decide +kernel) rfl ?_
  have q7 : h (h 45 5) 2 = ((h 45 5) + 5) := tf_0_2 hJ t1
  refine x_getR (np := 20) (x := 514) (f := 2) (q := ((h 45 5) + 5)) (by decide +kernel) (by decide) (tg_0_514_2_1 t1) q7 ?_
  refine x_iload (np := 21) (x := 1) (by decide +kernel) rfl la1 ?_
  refine x_const (np := 22) (x := 9223372047592194050) (a := 2147483650) (by decide +kernel) (by decide) (by decide) ?_
  refine x_cP (t := 6) (mj := 68) (n := 3) (rc := 7) (ml := 4) (nr := 0) (np := 25) (as := [x_r ((h 45 5) + 5), iv_c a1, iv_c 2147483650]) (rest := []) (lo1 := [x_r ((h 45 5) + 5), iv_c a1, iv_c 2147483650, 147573952589676412928]) (by decide +kernel) (by decide) (by decide +kernel) (x_rb_of (tr_5_7 t1)) rfl rfl (x_wr (tn_5 t1) (x_wi la1 (x_wi (by decide) x_wn))) x_wn (by decide) rfl (c68_T5_c2 hJ t1 (by first | decide | omega) ) (fun v9 l10 q11 => ?_)
  refine x_istore (np := 26) (x := 3) (lo' := [x_r 45, iv_c a1, iv_c v4, iv_c v9]) (by decide +kernel) l10 (Nat.le_of_ble_eq_true rfl) rfl ?_
  refine x_aload (np := 27) (x := 0) (by decide +kernel) rfl (x_nc_le (by decide)) ?_
  refine x_getR (np := 30) (x := 69) (f := 5) (q := (h 45 5)) (by decide +kernel) (by decide) (by decide +kernel) rfl ?_
  have q12 : h (h 45 5) 2 = ((h 45 5) + 5) := tf_0_2 hJ t1
  refine x_getR (np := 33) (x := 514) (f := 2) (q := ((h 45 5) + 5)) (by decide +kernel) (by decide) (tg_0_514_2_1 t1) q12 ?_
  refine x_iload (np := 34) (x := 1) (by decide +kernel) rfl la1 ?_
  refine x_const (np := 35) (x := 9223372039002259456) (a := 2147483648) (by decide +kernel) (by decide) (by decide) ?_
  refine x_cP (t := 6) (mj := 68) (n := 3) (rc := 7) (ml := 4) (nr := 0) (np := 38) (as := [x_r ((h 45 5) + 5), iv_c a1, iv_c 2147483648]) (rest := []) (lo1 := [x_r ((h 45 5) + 5), iv_c a1, iv_c 2147483648, 147573952589676412928]) (by decide +kernel) (by decide) (by decide +kernel) (x_rb_of (tr_5_7 t1)) rfl rfl (x_wr (tn_5 t1) (x_wi la1 (x_wi (by decide) x_wn))) x_wn (by decide) rfl (c68_T5_c0 hJ t1 (by first | decide | omega) ) (fun v14 l15 q16 => ?_)
  refine x_ifz (k := 1) (tg := 48) (np := 41) (by decide +kernel) (by decide) l15 (fun q17 => ?_) (fun q18 => ?_)
  · have q17 : v14 ≠ 2147483648 := q17
    refine x_aload (np := 49) (x := 0) (by decide +kernel) rfl (x_nc_le (by decide)) ?_
    refine x_iload (np := 50) (x := 2) (by decide +kernel) rfl l5 ?_
    refine x_iload (np := 51) (x := 3) (by decide +kernel) rfl l10 ?_
    refine x_nI (t := 6) (mj := 31) (n := 3) (rc := 2) (ml := 3) (nr := 0) (np := 54) (as := [x_r 45, iv_c v4, iv_c v9]) (rest := []) (lo1 := [x_r 45, iv_c v4, iv_c v9]) (by decide +kernel) (by decide) (by decide +kernel) (x_rb_of (by decide +kernel)) rfl rfl (x_wr (by decide) (x_wi l5 (x_wi l10 x_wn))) x_wn (by decide) rfl ?_
    refine x_iload (np := 1) (x := 1) (by decide +kernel) rfl l5 ?_
    refine x_ifz (k := 2) (tg := 27) (np := 4) (by decide +kernel) (by decide) l5 (fun q19 => ?_) (fun q20 => ?_)
    · have q19 : v4 < 2147483648 := q19
      refine x_const (np := 28) (x := 9223372039002259456) (a := 2147483648) (by decide +kernel) (by decide) (by decide) ?_
      refine x_retI (np := 29) (x := 0) (by decide +kernel) (by decide) (Or.inr ⟨by decide +kernel, by first | decide | omega, by first | decide | omega⟩) ⟨_, rfl, (by decide), ?_⟩
      refine x_ifz (k := 0) (tg := 61) (np := 57) (by decide +kernel) (by decide) (by decide) (fun q21 => ?_) (fun q22 => ?_)
      · have q21 : 2147483648 = 2147483648 := q21
        refine x_const (np := 62) (x := 9223372034707292159) (a := 2147483647) (by decide +kernel) (by decide) (by decide) ?_
        refine x_retI (np := 63) (x := 0) (by decide +kernel) (by decide) (Or.inl (by decide +kernel)) ⟨_, rfl, (by decide), ?_⟩
        exact ⟨rfl, (by first | decide | omega)⟩
      have q22 : ¬ (2147483648 = 2147483648) := q22
      exfalso; omega
    have q20 : ¬ (v4 < 2147483648) := q20
    refine x_iload (np := 5) (x := 1) (by decide +kernel) rfl l5 ?_
    refine x_const (np := 7) (x := 9223372064772063238) (a := 2147483654) (by decide +kernel) (by decide) (by decide) ?_
    refine x_icmp (k := 3) (tg := 27) (np := 10) (by decide +kernel) (by decide) l5 (by decide) (fun q23 => ?_) (fun q24 => ?_)
    · have q23 : 2147483654 ≤ v4 := q23
      refine x_const (np := 28) (x := 9223372039002259456) (a := 2147483648) (by decide +kernel) (by decide) (by decide) ?_
      refine x_retI (np := 29) (x := 0) (by decide +kernel) (by decide) (Or.inr ⟨by decide +kernel, by first | decide | omega, by first | decide | omega⟩) ⟨_, rfl, (by decide), ?_⟩
      refine x_ifz (k := 0) (tg := 61) (np := 57) (by decide +kernel) (by decide) (by decide) (fun q25 => ?_) (fun q26 => ?_)
      · have q25 : 2147483648 = 2147483648 := q25
        refine x_const (np := 62) (x := 9223372034707292159) (a := 2147483647) (by decide +kernel) (by decide) (by decide) ?_
        refine x_retI (np := 63) (x := 0) (by decide +kernel) (by decide) (Or.inl (by decide +kernel)) ⟨_, rfl, (by decide), ?_⟩
        exact ⟨rfl, (by first | decide | omega)⟩
      have q26 : ¬ (2147483648 = 2147483648) := q26
      exfalso; omega
    have q24 : ¬ (2147483654 ≤ v4) := q24
    refine x_aload (np := 11) (x := 0) (by decide +kernel) rfl (x_nc_le (by decide)) ?_
    have q27 : h 45 0 = 46 := by have z := jB (e := 0) 0 hJ rg_45_0_0_1 (by decide) (by decide); omega
    refine x_getR (np := 14) (x := 64) (f := 0) (q := 46) (by decide +kernel) (by decide) (by decide +kernel) q27 ?_
    refine x_iload (np := 15) (x := 1) (by decide +kernel) rfl l5 ?_
    obtain ⟨u28, q29⟩ : ∃ z, v4 = 2147483648 + z := ⟨v4 - 2147483648, by first | decide | omega⟩
    refine x_aldC (np := 16) (x := 0) (n := 6) (i := u28) (q := (h 46 u28)) (by decide +kernel) (by decide +kernel) (by first | decide | omega) (by first | decide | omega) (by decide) rfl (fun l30 => ?_)
    refine x_iload (np := 17) (x := 2) (by decide +kernel) rfl l10 ?_
    refine x_cP (t := 7) (mj := 148) (n := 2) (rc := 0) (ml := 2) (nr := 0) (np := 20) (as := [iv_c (h 46 u28), iv_c v9]) (rest := []) (lo1 := [iv_c (h 46 u28), iv_c v9]) (by decide +kernel) (by decide) (by decide +kernel) (Or.inl rfl) rfl rfl (x_wi l30 (x_wi l10 x_wn)) x_wn (by decide) rfl (c148 hJ (by first | decide | omega) (by first | decide | omega)) (fun v31 l32 q33 => ?_)
    refine x_ifz (k := 0) (tg := 27) (np := 23) (by decide +kernel) (by decide) l32 (fun q34 => ?_) (fun q35 => ?_)
    · have q34 : v31 = 2147483648 := q34
      refine x_const (np := 28) (x := 9223372039002259456) (a := 2147483648) (by decide +kernel) (by decide) (by decide) ?_
      refine x_retI (np := 29) (x := 0) (by decide +kernel) (by decide) (Or.inr ⟨by decide +kernel, by first | decide | omega, by first | decide | omega⟩) ⟨_, rfl, (by decide), ?_⟩
      refine x_ifz (k := 0) (tg := 61) (np := 57) (by decide +kernel) (by decide) (by decide) (fun q36 => ?_) (fun q37 => ?_)
      · have q36 : 2147483648 = 2147483648 := q36
        refine x_const (np := 62) (x := 9223372034707292159) (a := 2147483647) (by decide +kernel) (by decide) (by decide) ?_
        refine x_retI (np := 63) (x := 0) (by decide +kernel) (by decide) (Or.inl (by decide +kernel)) ⟨_, rfl, (by decide), ?_⟩
        exact ⟨rfl, (by first | decide | omega)⟩
      have q37 : ¬ (2147483648 = 2147483648) := q37
      exfalso; omega
    have q35 : ¬ (v31 = 2147483648) := q35
    refine x_const (np := 24) (x := 9223372043297226753) (a := 2147483649) (by decide +kernel) (by decide) (by decide) ?_
    refine x_goto (np := 27) (x := 28) (by decide +kernel) ?_
    refine x_retI (np := 29) (x := 0) (by decide +kernel) (by decide) (Or.inr ⟨by decide +kernel, by first | decide | omega, by first | decide | omega⟩) ⟨_, rfl, (by decide), ?_⟩
    refine x_ifz (k := 0) (tg := 61) (np := 57) (by decide +kernel) (by decide) (by decide) (fun q38 => ?_) (fun q39 => ?_)
    · have q38 : 2147483649 = 2147483648 := q38
      exfalso; omega
    have q39 : ¬ (2147483649 = 2147483648) := q39
    refine x_iload (np := 58) (x := 2) (by decide +kernel) rfl l5 ?_
    refine x_goto (np := 61) (x := 62) (by decide +kernel) ?_
    refine x_retI (np := 63) (x := 0) (by decide +kernel) l5 (Or.inl (by decide +kernel)) ⟨_, rfl, l5, ?_⟩
    exact ⟨rfl, (by first | decide | omega)⟩
  have q18 : ¬ (v14 ≠ 2147483648) := q18
  refine x_aload (np := 42) (x := 0) (by decide +kernel) rfl (x_nc_le (by decide)) ?_
  refine x_iload (np := 43) (x := 2) (by decide +kernel) rfl l5 ?_
  refine x_iload (np := 44) (x := 3) (by decide +kernel) rfl l10 ?_
  refine x_cP (t := 6) (mj := 5) (n := 3) (rc := 2) (ml := 3) (nr := 0) (np := 47) (as := [x_r 45, iv_c v4, iv_c v9]) (rest := []) (lo1 := [x_r 45, iv_c v4, iv_c v9]) (by decide +kernel) (by decide) (by decide +kernel) (x_rb_of (by decide +kernel)) rfl rfl (x_wr (by decide) (x_wi l5 (x_wi l10 x_wn))) x_wn (by decide) rfl (c5_45 hJ  (by first | decide | omega) (by first | decide | omega)) (fun v40 l41 q42 => ?_)
  refine x_retI (np := 48) (x := 0) (by decide +kernel) l41 (Or.inl (by decide +kernel)) ⟨_, rfl, l41, ?_⟩
  exact ⟨rfl, (by first | decide | omega)⟩
set_option maxHeartbeats 0 in
/-- LentNames$Accounts.settle(LLentNames$Town;LLentNames$Calendar;)V -/
theorem c1_59_T0_45 {sc : Nat × Nat} {d ra1 : Nat} {h : xh} (hJ : J h) (ta1 : tw ra1) : X sc 1 (d + 3) (xV fun h' => J h' ∧ Fr 8193 h h') 0 0 0 [x_r 59, x_r ra1, x_r 45, 147573952589676412928, 147573952589676412928] [] h := by
  have hF := Fr.refl 8193 h
  refine x_aload (np := 1) (x := 1) (by decide +kernel) rfl (x_nc_le (tn_0 ta1)) ?_
  have q1 : h ra1 5 = (ra1 + 10) := tf_0_5 hJ ta1
  refine x_getR (np := 4) (x := 517) (f := 5) (q := (ra1 + 10)) (by decide +kernel) (by decide) (tg_0_517_5_1 ta1) q1 ?_
  refine x_const (np := 5) (x := 9223372039002259456) (a := 2147483648) (by decide +kernel) (by decide) (by decide) ?_
  refine x_aload (np := 6) (x := 0) (by decide +kernel) rfl (x_nc_le (by decide)) ?_
  have q2 : h 59 0 = 60 := by have z := jB (e := 0) 0 hJ rg_59_0_0_1 (by decide) (by decide); omega
  refine x_getR (np := 9) (x := 0) (f := 0) (q := 60) (by decide +kernel) (by decide) (by decide +kernel) q2 ?_
  refine x_const (np := 10) (x := 9223372039002259456) (a := 2147483648) (by decide +kernel) (by decide) (by decide) ?_
  refine x_const (np := 12) (x := 9223372064772063238) (a := 2147483654) (by decide +kernel) (by decide) (by decide) ?_
  refine x_copy (np := 15) (q := 60) (r := (ra1 + 10)) (N := 6) (nq := 6) (nr := 6) (n8 := 0) (by decide +kernel) (ta_10_6 ta1) (by decide +kernel) (by decide) (by decide) (by decide) (by decide) x_wn (by decide) ?_
  have j4 := J_cp (q := 60) (r := (ra1 + 10)) (N := 6) hJ (tn_10 ta1) (ctb_60_T10_6 ta1).1 (ctb_60_T10_6 ta1).2.1 (ctb_60_T10_6 ta1).2.2
  have f5 := Fr_cp (q := 60) (r := (ra1 + 10)) (N := 6) (Fr.refl 8192 h) (fun i _ => show Nat.testBit 8192 13 = true by decide)
  generalize e6 : x_cp h 60 (ra1 + 10) 6 = h3 at j4 f5 ⊢
  have f7 := Fr.trans hF f5 (by decide)
  refine x_aload (np := 16) (x := 0) (by decide +kernel) rfl (x_nc_le (by decide)) ?_
  refine x_const (np := 17) (x := 9223372039002259456) (a := 2147483648) (by decide +kernel) (by decide) (by decide) ?_
  refine x_putI (np := 20) (x := 1) (f := 1) (by decide +kernel) (by decide +kernel) (by decide) (Or.inl (by decide)) ?_
  have j9 := jU (e := 1) (v := 2147483648) 0 j4 rg_59_1_0_1 (by first | decide | omega) (by first | decide | omega) (by first | decide | omega)
  have f11 := jF (e := 1) (v := 2147483648) 0 f7 rg_59_1_0_1 (by first | decide | omega) (by first | decide | omega) (by decide)
  generalize e10 : x_up h3 59 1 2147483648 = h8 at j9 f11 ⊢
  refine x_const (np := 21) (x := 9223372039002259456) (a := 2147483648) (by decide +kernel) (by decide) (by decide) ?_
  refine x_istore (np := 22) (x := 3) (lo' := [x_r 59, x_r ra1, x_r 45, iv_c 2147483648, 147573952589676412928]) (by decide +kernel) (by decide) (Nat.le_of_ble_eq_true rfl) rfl ?_
  have p14968 : ∀ (n : Nat) (v14962 : Nat) (w14964 : Nat) (h14965 : xh), 4294967296 - v14962 < n → (2147483648 ≤ v14962 ∧ v14962 ≤ 2147483660) → J h14965 → Fr 8192 h8 h14965 → X sc 1 (d + 3) (xV fun h' => J h' ∧ Fr 8193 h h') 0 0 22 [x_r 59, x_r ra1, x_r 45, iv_c v14962, w14964] [] h14965 := by
    intro n
    induction n with
    | zero => intro v14962 w14964 h14965 q14969; exact absurd q14969 (Nat.not_lt_zero _)
    | succ n i14970 =>
      intro v14962 w14964 h14965 q14969 b14963 j14967 f14966
      have f14971 := Fr.trans f11 f14966 (by decide)
      refine x_iload (np := 23) (x := 3) (by decide +kernel) rfl (by first | decide | omega) ?_
      refine x_const (np := 25) (x := 9223372090541867020) (a := 2147483660) (by decide +kernel) (by decide) (by decide) ?_
      refine x_icmp (k := 3) (tg := 91) (np := 28) (by decide +kernel) (by decide) (by first | decide | omega) (by decide) (fun q14972 => ?_) (fun q14973 => ?_)
      · have q14972 : 2147483660 ≤ v14962 := q14972
        refine x_retV (np := 92) (x := 0) (by decide +kernel) (by decide +kernel) ⟨rfl, ?_⟩
        exact ⟨j14967, f14971⟩
      have q14973 : ¬ (2147483660 ≤ v14962) := q14973
      refine x_const (np := 29) (x := 9223372039002259456) (a := 2147483648) (by decide +kernel) (by decide) (by decide) ?_
      refine x_istore (np := 31) (x := 4) (lo' := [x_r 59, x_r ra1, x_r 45, iv_c v14962, iv_c 2147483648]) (by decide +kernel) (by decide) (Nat.le_of_ble_eq_true rfl) rfl ?_
      have p16198 : ∀ (n : Nat) (v16193 : Nat) (h16195 : xh), 4294967296 - v16193 < n → (2147483648 ≤ v16193 ∧ v16193 ≤ 2147483658) → J h16195 → Fr 8192 h14965 h16195 → X sc 1 (d + 3) (xV fun h' => J h' ∧ Fr 8193 h h') 0 0 31 [x_r 59, x_r ra1, x_r 45, iv_c v14962, iv_c v16193] [] h16195 := by
        intro n
        induction n with
        | zero => intro v16193 h16195 q16199; exact absurd q16199 (Nat.not_lt_zero _)
        | succ n i16200 =>
          intro v16193 h16195 q16199 b16194 j16197 f16196
          have f16201 := Fr.trans f14971 f16196 (by decide)
          have f16202 := Fr.trans f14966 f16196 (by decide)
          refine x_iload (np := 33) (x := 4) (by decide +kernel) rfl (by first | decide | omega) ?_
          refine x_aload (np := 34) (x := 1) (by decide +kernel) rfl (x_nc_le (tn_0 ta1)) ?_
          have q16203 : h16195 ra1 2 = (ra1 + 5) := tf_0_2 j16197 ta1
          refine x_getR (np := 37) (x := 514) (f := 2) (q := (ra1 + 5)) (by decide +kernel) (by decide) (tg_0_514_2_1 ta1) q16203 ?_
          have q16204 : h16195 (ra1 + 5) 2 = h14965 (ra1 + 5) 2 := jK 0 f16196 (rg_T5_2_0_1 ta1) (by first | decide | omega) (by first | decide | omega) (by decide)
          have q16205 : h14965 (ra1 + 5) 2 = h8 (ra1 + 5) 2 := jK 0 f14966 (rg_T5_2_0_1 ta1) (by first | decide | omega) (by first | decide | omega) (by decide)
          have q16206 : h8 (ra1 + 5) 2 = h3 (ra1 + 5) 2 := by rw [← e10]; exact x_up_k (tne_5_59 ta1)
          have q16207 : h3 (ra1 + 5) 2 = h (ra1 + 5) 2 := jK 0 f5 (rg_T5_2_0_1 ta1) (by first | decide | omega) (by first | decide | omega) (by decide)
          have b16208 := jB (e := 2) 0 hJ (rg_T5_2_0_1 ta1) (by first | decide | omega) (by first | decide | omega)
          refine x_getC (np := 40) (x := 386) (f := 2) (q := (h (ra1 + 5) 2)) (by decide +kernel) (by decide) (tg_5_386_2_0 ta1) (((q16204.trans q16205).trans q16206).trans q16207) (fun l16209 => ?_)
          refine x_icmp (k := 3) (tg := 85) (np := 43) (by decide +kernel) (by decide) (by first | decide | omega) l16209 (fun q16210 => ?_) (fun q16211 => ?_)
          · have q16210 : (h (ra1 + 5) 2) ≤ v16193 := q16210
            refine x_iinc (np := 88) (i := 3) (j := 2147483649) (v := (1 + v14962)) (lo' := [x_r 59, x_r ra1, x_r 45, iv_c (1 + v14962), iv_c v16193]) (by decide +kernel) (by decide) (by decide) rfl (by first | decide | omega) (by first | decide | omega) (by first | decide | omega) rfl ?_
            refine x_goto (np := 91) (x := 22) (by decide +kernel) ?_
            exact i14970 (1 + v14962) (iv_c v16193) h16195 (by first | decide | omega) (by first | decide | omega) j16197 f16202
          have q16211 : ¬ ((h (ra1 + 5) 2) ≤ v16193) := q16211
          refine x_aload (np := 44) (x := 1) (by decide +kernel) rfl (x_nc_le (tn_0 ta1)) ?_
          have q16212 : h16195 ra1 2 = (ra1 + 5) := tf_0_2 j16197 ta1
          refine x_getR (np := 47) (x := 514) (f := 2) (q := (ra1 + 5)) (by decide +kernel) (by decide) (tg_0_514_2_1 ta1) q16212 ?_
          refine x_iload (np := 49) (x := 4) (by decide +kernel) rfl (by first | decide | omega) ?_
          refine x_const (np := 50) (x := 9223372047592194050) (a := 2147483650) (by decide +kernel) (by decide) (by decide) ?_
          refine x_nI (t := 6) (mj := 68) (n := 3) (rc := 7) (ml := 4) (nr := 0) (np := 53) (as := [x_r (ra1 + 5), iv_c v16193, iv_c 2147483650]) (rest := []) (lo1 := [x_r (ra1 + 5), iv_c v16193, iv_c 2147483650, 147573952589676412928]) (by decide +kernel) (by decide) (by decide +kernel) (x_rb_of (tr_5_7 ta1)) rfl rfl (x_wr (tn_5 ta1) (x_wi (by first | decide | omega) (x_wi (by decide) x_wn))) x_wn (by decide) rfl ?_
          refine x_iload (np := 1) (x := 1) (by decide +kernel) rfl (by first | decide | omega) ?_
          refine x_ifz (k := 2) (tg := 28) (np := 4) (by decide +kernel) (by decide) (by first | decide | omega) (fun q16217 => ?_) (fun q16218 => ?_)
          · have q16217 : v16193 < 2147483648 := q16217
            exfalso; omega
          have q16218 : ¬ (v16193 < 2147483648) := q16218
          refine x_iload (np := 5) (x := 1) (by decide +kernel) rfl (by first | decide | omega) ?_
          refine x_aload (np := 6) (x := 0) (by decide +kernel) rfl (x_nc_le (tn_5 ta1)) ?_
          have q16219 : h16195 (ra1 + 5) 2 = h14965 (ra1 + 5) 2 := jK 0 f16196 (rg_T5_2_0_1 ta1) (by first | decide | omega) (by first | decide | omega) (by decide)
          have q16220 : h14965 (ra1 + 5) 2 = h8 (ra1 + 5) 2 := jK 0 f14966 (rg_T5_2_0_1 ta1) (by first | decide | omega) (by first | decide | omega) (by decide)
          have q16221 : h8 (ra1 + 5) 2 = h3 (ra1 + 5) 2 := by rw [← e10]; exact x_up_k (tne_5_59 ta1)
          have q16222 : h3 (ra1 + 5) 2 = h (ra1 + 5) 2 := jK 0 f5 (rg_T5_2_0_1 ta1) (by first | decide | omega) (by first | decide | omega) (by decide)
          refine x_getC (np := 9) (x := 386) (f := 2) (q := (h (ra1 + 5) 2)) (by decide +kernel) (by decide) (tg_5_386_2_0 ta1) (((q16219.trans q16220).trans q16221).trans q16222) (fun l16223 => ?_)
          refine x_icmp (k := 3) (tg := 28) (np := 12) (by decide +kernel) (by decide) (by first | decide | omega) l16209 (fun q16224 => ?_) (fun q16225 => ?_)
          · have q16224 : (h (ra1 + 5) 2) ≤ v16193 := q16224
            exfalso; omega
          have q16225 : ¬ ((h (ra1 + 5) 2) ≤ v16193) := q16225
          refine x_iload (np := 13) (x := 2) (by decide +kernel) rfl (by decide) ?_
          refine x_ifz (k := 2) (tg := 28) (np := 16) (by decide +kernel) (by decide) (by decide) (fun q16226 => ?_) (fun q16227 => ?_)
          · have q16226 : 2147483650 < 2147483648 := q16226
            exfalso; omega
          have q16227 : ¬ (2147483650 < 2147483648) := q16227
          refine x_iload (np := 17) (x := 2) (by decide +kernel) rfl (by decide) ?_
          refine x_aload (np := 18) (x := 0) (by decide +kernel) rfl (x_nc_le (tn_5 ta1)) ?_
          have q16228 : h16195 (ra1 + 5) 0 = h14965 (ra1 + 5) 0 := jK 0 f16196 (rg_T5_0_0_1 ta1) (by first | decide | omega) (by first | decide | omega) (by decide)
          have q16229 : h14965 (ra1 + 5) 0 = h8 (ra1 + 5) 0 := jK 0 f14966 (rg_T5_0_0_1 ta1) (by first | decide | omega) (by first | decide | omega) (by decide)
          have q16230 : h8 (ra1 + 5) 0 = h3 (ra1 + 5) 0 := by rw [← e10]; exact x_up_k (tne_5_59 ta1)
          have q16231 : h3 (ra1 + 5) 0 = h (ra1 + 5) 0 := jK 0 f5 (rg_T5_0_0_1 ta1) (by first | decide | omega) (by first | decide | omega) (by decide)
          have b16232 := jB (e := 0) 0 hJ (rg_T5_0_0_1 ta1) (by first | decide | omega) (by first | decide | omega)
          have q16233 : (h (ra1 + 5) 0) = 2147483652 := by first | decide | omega
          refine x_getC (np := 21) (x := 384) (f := 0) (q := 2147483652) (by decide +kernel) (by decide) (tg_5_384_0_0 ta1) ((((q16228.trans q16229).trans q16230).trans q16231).trans q16233) (fun l16234 => ?_)
          refine x_icmp (k := 3) (tg := 28) (np := 24) (by decide +kernel) (by decide) (by decide) (by decide) (fun q16235 => ?_) (fun q16236 => ?_)
          · have q16235 : 2147483652 ≤ 2147483650 := q16235
            exfalso; omega
          have q16236 : ¬ (2147483652 ≤ 2147483650) := q16236
          refine x_const (np := 25) (x := 9223372043297226753) (a := 2147483649) (by decide +kernel) (by decide) (by decide) ?_
          refine x_goto (np := 28) (x := 29) (by decide +kernel) ?_
          refine x_istore (np := 30) (x := 3) (lo' := [x_r (ra1 + 5), iv_c v16193, iv_c 2147483650, iv_c 2147483649]) (by decide +kernel) (by decide) (Nat.le_of_ble_eq_true rfl) rfl ?_
          refine x_iload (np := 31) (x := 3) (by decide +kernel) rfl (by decide) ?_
          refine x_ifz (k := 0) (tg := 50) (np := 34) (by decide +kernel) (by decide) (by decide) (fun q16237 => ?_) (fun q16238 => ?_)
          · have q16237 : 2147483649 = 2147483648 := q16237
            exfalso; omega
          have q16238 : ¬ (2147483649 = 2147483648) := q16238
          refine x_aload (np := 35) (x := 0) (by decide +kernel) rfl (x_nc_le (tn_5 ta1)) ?_
          have q16239 : h16195 (ra1 + 5) 1 = (ra1 + 6) := tf_5_1 j16197 ta1
          refine x_getR (np := 38) (x := 385) (f := 1) (q := (ra1 + 6)) (by decide +kernel) (by decide) (tg_5_385_1_1 ta1) q16239 ?_
          refine x_iload (np := 39) (x := 1) (by decide +kernel) rfl (by first | decide | omega) ?_
          refine x_aload (np := 40) (x := 0) (by decide +kernel) rfl (x_nc_le (tn_5 ta1)) ?_
          have q16240 : h16195 (ra1 + 5) 0 = h14965 (ra1 + 5) 0 := jK 0 f16196 (rg_T5_0_0_1 ta1) (by first | decide | omega) (by first | decide | omega) (by decide)
          have q16241 : h14965 (ra1 + 5) 0 = h8 (ra1 + 5) 0 := jK 0 f14966 (rg_T5_0_0_1 ta1) (by first | decide | omega) (by first | decide | omega) (by decide)
          have q16242 : h8 (ra1 + 5) 0 = h3 (ra1 + 5) 0 := by rw [← e10]; exact x_up_k (tne_5_59 ta1)
          have q16243 : h3 (ra1 + 5) 0 = h (ra1 + 5) 0 := jK 0 f5 (rg_T5_0_0_1 ta1) (by first | decide | omega) (by first | decide | omega) (by decide)
          refine x_getC (np := 43) (x := 384) (f := 0) (q := 2147483652) (by decide +kernel) (by decide) (tg_5_384_0_0 ta1) ((((q16240.trans q16241).trans q16242).trans q16243).trans q16233) (fun l16244 => ?_)
          obtain ⟨u16245, q16246⟩ : ∃ z, v16193 = 2147483648 + z := ⟨v16193 - 2147483648, by first | decide | omega⟩
          refine x_imul (np := 44) (x := 0) (i := u16245) (j := 4) (v := (2147483648 + 4 * u16245)) (by decide +kernel) (by first | decide | omega) (by first | decide | omega) (by first | decide | omega) (by first | decide | omega) (by first | decide | omega) (by decide) ?_
          refine x_iload (np := 45) (x := 2) (by decide +kernel) rfl (by decide) ?_
          refine x_iadd (np := 46) (x := 0) (v := (2147483650 + 4 * u16245)) (by decide +kernel) (by first | decide | omega) (by decide) (by first | decide | omega) (by first | decide | omega) ?_
          have q16248 : h16195 (ra1 + 6) (2 + 4 * u16245) = h14965 (ra1 + 6) (2 + 4 * u16245) := jK (2 + 4 * u16245) f16196 (rg_T6_0_1_40 ta1) (by first | decide | omega) (by first | decide | omega) (by decide)
          have q16249 : h14965 (ra1 + 6) (2 + 4 * u16245) = h8 (ra1 + 6) (2 + 4 * u16245) := jK (2 + 4 * u16245) f14966 (rg_T6_0_1_40 ta1) (by first | decide | omega) (by first | decide | omega) (by decide)
          have q16250 : h8 (ra1 + 6) (2 + 4 * u16245) = h3 (ra1 + 6) (2 + 4 * u16245) := by rw [← e10]; exact x_up_k (tne_6_59 ta1)
          have q16251 : h3 (ra1 + 6) (2 + 4 * u16245) = h (ra1 + 6) (2 + 4 * u16245) := jK (2 + 4 * u16245) f5 (rg_T6_0_1_40 ta1) (by first | decide | omega) (by first | decide | omega) (by decide)
          refine x_aldC (np := 47) (x := 0) (n := 40) (i := (2 + 4 * u16245)) (q := ((h (ra1 + 6) (2 + 4 * u16245)))) (by decide +kernel) (ta_6_40 ta1) (by first | decide | omega) (by first | decide | omega) (by decide) (((q16248.trans q16249).trans q16250).trans q16251) (fun l16252 => ?_)
          refine x_goto (np := 50) (x := 51) (by decide +kernel) ?_
          refine x_retI (np := 52) (x := 0) (by decide +kernel) l16252 (Or.inl (by decide +kernel)) ⟨_, rfl, l16252, ?_⟩
          refine x_iload (np := 54) (x := 3) (by decide +kernel) rfl (by first | decide | omega) ?_
          refine x_icmp (k := 1) (tg := 79) (np := 57) (by decide +kernel) (by decide) l16252 (by first | decide | omega) (fun q16253 => ?_) (fun q16254 => ?_)
          · have q16253 : ((h (ra1 + 6) (2 + 4 * u16245))) ≠ v14962 := q16253
            refine x_iinc (np := 82) (i := 4) (j := 2147483649) (v := (1 + v16193)) (lo' := [x_r 59, x_r ra1, x_r 45, iv_c v14962, iv_c (1 + v16193)]) (by decide +kernel) (by decide) (by decide) rfl (by first | decide | omega) (by first | decide | omega) (by first | decide | omega) rfl ?_
            refine x_goto (np := 85) (x := 31) (by decide +kernel) ?_
            exact i16200 (1 + v16193) h16195 (by first | decide | omega) (by first | decide | omega) j16197 f16196
          have q16254 : ¬ (((h (ra1 + 6) (2 + 4 * u16245))) ≠ v14962) := q16254
          refine x_aload (np := 58) (x := 0) (by decide +kernel) rfl (x_nc_le (by decide)) ?_
          refine x_iload (np := 60) (x := 4) (by decide +kernel) rfl (by first | decide | omega) ?_
          refine x_aload (np := 61) (x := 2) (by decide +kernel) rfl (x_nc_le (by decide)) ?_
          refine x_iload (np := 63) (x := 4) (by decide +kernel) rfl (by first | decide | omega) ?_
          refine x_cP (t := 6) (mj := 12) (n := 2) (rc := 2) (ml := 4) (nr := 2) (np := 66) (as := [x_r 45, iv_c v16193]) (rest := [iv_c v16193, x_r 59]) (lo1 := [x_r 45, iv_c v16193, 147573952589676412928, 147573952589676412928]) (by decide +kernel) (by decide) (by decide +kernel) (x_rb_of (by decide +kernel)) rfl rfl (x_wr (by decide) (x_wi (by first | decide | omega) x_wn)) (x_wi (by first | decide | omega) (x_wr (by decide) x_wn)) (by decide) rfl (c12_45 j16197  (by first | decide | omega)) (fun v16255 l16256 q16257 => ?_)
          refine x_aload (np := 67) (x := 1) (by decide +kernel) rfl (x_nc_le (tn_0 ta1)) ?_
          have q16258 : h16195 ra1 2 = (ra1 + 5) := tf_0_2 j16197 ta1
          refine x_getR (np := 70) (x := 514) (f := 2) (q := (ra1 + 5)) (by decide +kernel) (by decide) (tg_0_514_2_1 ta1) q16258 ?_
          refine x_iload (np := 72) (x := 4) (by decide +kernel) rfl (by first | decide | omega) ?_
          refine x_const (np := 73) (x := 9223372051887161347) (a := 2147483651) (by decide +kernel) (by decide) (by decide) ?_
          refine x_nI (t := 6) (mj := 68) (n := 3) (rc := 7) (ml := 4) (nr := 3) (np := 76) (as := [x_r (ra1 + 5), iv_c v16193, iv_c 2147483651]) (rest := [iv_c v16255, iv_c v16193, x_r 59]) (lo1 := [x_r (ra1 + 5), iv_c v16193, iv_c 2147483651, 147573952589676412928]) (by decide +kernel) (by decide) (by decide +kernel) (x_rb_of (tr_5_7 ta1)) rfl rfl (x_wr (tn_5 ta1) (x_wi (by first | decide | omega) (x_wi (by decide) x_wn))) (x_wi l16256 (x_wi (by first | decide | omega) (x_wr (by decide) x_wn))) (by decide) rfl ?_
          refine x_iload (np := 1) (x := 1) (by decide +kernel) rfl (by first | decide | omega) ?_
          refine x_ifz (k := 2) (tg := 28) (np := 4) (by decide +kernel) (by decide) (by first | decide | omega) (fun q16263 => ?_) (fun q16264 => ?_)
          · have q16263 : v16193 < 2147483648 := q16263
            exfalso; omega
          have q16264 : ¬ (v16193 < 2147483648) := q16264
          refine x_iload (np := 5) (x := 1) (by decide +kernel) rfl (by first | decide | omega) ?_
          refine x_aload (np := 6) (x := 0) (by decide +kernel) rfl (x_nc_le (tn_5 ta1)) ?_
          have q16265 : h16195 (ra1 + 5) 2 = h14965 (ra1 + 5) 2 := jK 0 f16196 (rg_T5_2_0_1 ta1) (by first | decide | omega) (by first | decide | omega) (by decide)
          have q16266 : h14965 (ra1 + 5) 2 = h8 (ra1 + 5) 2 := jK 0 f14966 (rg_T5_2_0_1 ta1) (by first | decide | omega) (by first | decide | omega) (by decide)
          have q16267 : h8 (ra1 + 5) 2 = h3 (ra1 + 5) 2 := by rw [← e10]; exact x_up_k (tne_5_59 ta1)
          have q16268 : h3 (ra1 + 5) 2 = h (ra1 + 5) 2 := jK 0 f5 (rg_T5_2_0_1 ta1) (by first | decide | omega) (by first | decide | omega) (by decide)
          refine x_getC (np := 9) (x := 386) (f := 2) (q := (h (ra1 + 5) 2)) (by decide +kernel) (by decide) (tg_5_386_2_0 ta1) (((q16265.trans q16266).trans q16267).trans q16268) (fun l16269 => ?_)
          refine x_icmp (k := 3) (tg := 28) (np := 12) (by decide +kernel) (by decide) (by first | decide | omega) l16209 (fun q16270 => ?_) (fun q16271 => ?_)
          · have q16270 : (h (ra1 + 5) 2) ≤ v16193 := q16270
            exfalso; omega
          have q16271 : ¬ ((h (ra1 + 5) 2) ≤ v16193) := q16271
          refine x_iload (np := 13) (x := 2) (by decide +kernel) rfl (by decide) ?_
          refine x_ifz (k := 2) (tg := 28) (np := 16) (by decide +kernel) (by decide) (by decide) (fun q16272 => ?_) (fun q16273 => ?_)
          · have q16272 : 2147483651 < 2147483648 := q16272
            exfalso; omega
          have q16273 : ¬ (2147483651 < 2147483648) := q16273
          refine x_iload (np := 17) (x := 2) (by decide +kernel) rfl (by decide) ?_
          refine x_aload (np := 18) (x := 0) (by decide +kernel) rfl (x_nc_le (tn_5 ta1)) ?_
          have q16274 : h16195 (ra1 + 5) 0 = h14965 (ra1 + 5) 0 := jK 0 f16196 (rg_T5_0_0_1 ta1) (by first | decide | omega) (by first | decide | omega) (by decide)
          have q16275 : h14965 (ra1 + 5) 0 = h8 (ra1 + 5) 0 := jK 0 f14966 (rg_T5_0_0_1 ta1) (by first | decide | omega) (by first | decide | omega) (by decide)
          have q16276 : h8 (ra1 + 5) 0 = h3 (ra1 + 5) 0 := by rw [← e10]; exact x_up_k (tne_5_59 ta1)
          have q16277 : h3 (ra1 + 5) 0 = h (ra1 + 5) 0 := jK 0 f5 (rg_T5_0_0_1 ta1) (by first | decide | omega) (by first | decide | omega) (by decide)
          refine x_getC (np := 21) (x := 384) (f := 0) (q := 2147483652) (by decide +kernel) (by decide) (tg_5_384_0_0 ta1) ((((q16274.trans q16275).trans q16276).trans q16277).trans q16233) (fun l16278 => ?_)
          refine x_icmp (k := 3) (tg := 28) (np := 24) (by decide +kernel) (by decide) (by decide) (by decide) (fun q16279 => ?_) (fun q16280 => ?_)
          · have q16279 : 2147483652 ≤ 2147483651 := q16279
            exfalso; omega
          have q16280 : ¬ (2147483652 ≤ 2147483651) := q16280
          refine x_const (np := 25) (x := 9223372043297226753) (a := 2147483649) (by decide +kernel) (by decide) (by decide) ?_
          refine x_goto (np := 28) (x := 29) (by decide +kernel) ?_
          refine x_istore (np := 30) (x := 3) (lo' := [x_r (ra1 + 5), iv_c v16193, iv_c 2147483651, iv_c 2147483649]) (by decide +kernel) (by decide) (Nat.le_of_ble_eq_true rfl) rfl ?_
          refine x_iload (np := 31) (x := 3) (by decide +kernel) rfl (by decide) ?_
          refine x_ifz (k := 0) (tg := 50) (np := 34) (by decide +kernel) (by decide) (by decide) (fun q16281 => ?_) (fun q16282 => ?_)
          · have q16281 : 2147483649 = 2147483648 := q16281
            exfalso; omega
          have q16282 : ¬ (2147483649 = 2147483648) := q16282
          refine x_aload (np := 35) (x := 0) (by decide +kernel) rfl (x_nc_le (tn_5 ta1)) ?_
          have q16283 : h16195 (ra1 + 5) 1 = (ra1 + 6) := tf_5_1 j16197 ta1
          refine x_getR (np := 38) (x := 385) (f := 1) (q := (ra1 + 6)) (by decide +kernel) (by decide) (tg_5_385_1_1 ta1) q16283 ?_
          refine x_iload (np := 39) (x := 1) (by decide +kernel) rfl (by first | decide | omega) ?_
          refine x_aload (np := 40) (x := 0) (by decide +kernel) rfl (x_nc_le (tn_5 ta1)) ?_
          have q16284 : h16195 (ra1 + 5) 0 = h14965 (ra1 + 5) 0 := jK 0 f16196 (rg_T5_0_0_1 ta1) (by first | decide | omega) (by first | decide | omega) (by decide)
          have q16285 : h14965 (ra1 + 5) 0 = h8 (ra1 + 5) 0 := jK 0 f14966 (rg_T5_0_0_1 ta1) (by first | decide | omega) (by first | decide | omega) (by decide)
          have q16286 : h8 (ra1 + 5) 0 = h3 (ra1 + 5) 0 := by rw [← e10]; exact x_up_k (tne_5_59 ta1)
          have q16287 : h3 (ra1 + 5) 0 = h (ra1 + 5) 0 := jK 0 f5 (rg_T5_0_0_1 ta1) (by first | decide | omega) (by first | decide | omega) (by decide)
          refine x_getC (np := 43) (x := 384) (f := 0) (q := 2147483652) (by decide +kernel) (by decide) (tg_5_384_0_0 ta1) ((((q16284.trans q16285).trans q16286).trans q16287).trans q16233) (fun l16288 => ?_)
          refine x_imul (np := 44) (x := 0) (i := u16245) (j := 4) (v := (2147483648 + 4 * u16245)) (by decide +kernel) (by first | decide | omega) (by first | decide | omega) (by first | decide | omega) (by first | decide | omega) (by first | decide | omega) (by decide) ?_
          refine x_iload (np := 45) (x := 2) (by decide +kernel) rfl (by decide) ?_
          refine x_iadd (np := 46) (x := 0) (v := (2147483651 + 4 * u16245)) (by decide +kernel) (by first | decide | omega) (by decide) (by first | decide | omega) (by first | decide | omega) ?_
          have q16290 : h16195 (ra1 + 6) (3 + 4 * u16245) = h14965 (ra1 + 6) (3 + 4 * u16245) := jK (3 + 4 * u16245) f16196 (rg_T6_0_1_40 ta1) (by first | decide | omega) (by first | decide | omega) (by decide)
          have q16291 : h14965 (ra1 + 6) (3 + 4 * u16245) = h8 (ra1 + 6) (3 + 4 * u16245) := jK (3 + 4 * u16245) f14966 (rg_T6_0_1_40 ta1) (by first | decide | omega) (by first | decide | omega) (by decide)
          have q16292 : h8 (ra1 + 6) (3 + 4 * u16245) = h3 (ra1 + 6) (3 + 4 * u16245) := by rw [← e10]; exact x_up_k (tne_6_59 ta1)
          have q16293 : h3 (ra1 + 6) (3 + 4 * u16245) = h (ra1 + 6) (3 + 4 * u16245) := jK (3 + 4 * u16245) f5 (rg_T6_0_1_40 ta1) (by first | decide | omega) (by first | decide | omega) (by decide)
          refine x_aldC (np := 47) (x := 0) (n := 40) (i := (3 + 4 * u16245)) (q := ((h (ra1 + 6) (3 + 4 * u16245)))) (by decide +kernel) (ta_6_40 ta1) (by first | decide | omega) (by first | decide | omega) (by decide) (((q16290.trans q16291).trans q16292).trans q16293) (fun l16294 => ?_)
          refine x_goto (np := 50) (x := 51) (by decide +kernel) ?_
          refine x_retI (np := 52) (x := 0) (by decide +kernel) l16294 (Or.inl (by decide +kernel)) ⟨_, rfl, l16294, ?_⟩
          refine x_nV (t := 6) (mj := 2) (n := 4) (rc := 1) (ml := 4) (nr := 0) (np := 79) (as := [x_r 59, iv_c v16193, iv_c v16255, iv_c ((h (ra1 + 6) (3 + 4 * u16245)))]) (rest := []) (lo1 := [x_r 59, iv_c v16193, iv_c v16255, iv_c ((h (ra1 + 6) (3 + 4 * u16245)))]) (by decide +kernel) (by decide) (by decide +kernel) (x_rb_of (by decide +kernel)) rfl rfl (x_wr (by decide) (x_wi (by first | decide | omega) (x_wi l16256 (x_wi l16294 x_wn)))) x_wn (by decide) rfl ?_
          refine x_iload (np := 1) (x := 2) (by decide +kernel) rfl l16256 ?_
          refine x_const (np := 2) (x := 9223372034707292159) (a := 2147483647) (by decide +kernel) (by decide) (by decide) ?_
          refine x_icmp (k := 0) (tg := 15) (np := 5) (by decide +kernel) (by decide) l16256 (by decide) (fun q16295 => ?_) (fun q16296 => ?_)
          · have q16295 : v16255 = 2147483647 := q16295
            refine x_aload (np := 16) (x := 0) (by decide +kernel) rfl (x_nc_le (by decide)) ?_
            refine x_dup (np := 17) (x := 0) (by decide +kernel) (by have z := x_nc_le (k := 59) (by decide); unfold x_r; omega) ?_
            refine x_getC (np := 20) (x := 1) (f := 1) (q := (h16195 59 1)) (by decide +kernel) (by decide) (by decide +kernel) rfl (fun l16297 => ?_)
            refine x_const (np := 21) (x := 9223372043297226753) (a := 2147483649) (by decide +kernel) (by decide) (by decide) ?_
            refine x_iload (np := 22) (x := 1) (by decide +kernel) rfl (by first | decide | omega) ?_
            refine x_any (np := 23) (k9 := 3) (by decide +kernel) (by decide) (by decide) (by first | decide | omega) (fun v16298 l16299 => ?_)
            refine x_any (np := 24) (k9 := 1) (by decide +kernel) (by decide) l16297 l16299 (fun v16300 l16301 => ?_)
            refine x_putI (np := 27) (x := 1) (f := 1) (by decide +kernel) (by decide +kernel) l16301 (Or.inl (by decide)) ?_
            have j16303 := jU (e := 1) (v := v16300) 0 j16197 rg_59_1_0_1 (by first | decide | omega) (by first | decide | omega) (by first | decide | omega)
            have f16305 := jF (e := 1) (v := v16300) 0 f16201 rg_59_1_0_1 (by first | decide | omega) (by first | decide | omega) (by decide)
            have f16306 := jF (e := 1) (v := v16300) 0 f16202 rg_59_1_0_1 (by first | decide | omega) (by first | decide | omega) (by decide)
            have f16307 := jF (e := 1) (v := v16300) 0 f16196 rg_59_1_0_1 (by first | decide | omega) (by first | decide | omega) (by decide)
            generalize e16304 : x_up h16195 59 1 v16300 = h16302 at j16303 f16305 f16306 f16307 ⊢
            refine x_goto (np := 30) (x := 40) (by decide +kernel) ?_
            refine x_retV (np := 41) (x := 0) (by decide +kernel) (by decide +kernel) ⟨rfl, ?_⟩
            refine x_iinc (np := 82) (i := 4) (j := 2147483649) (v := (1 + v16193)) (lo' := [x_r 59, x_r ra1, x_r 45, iv_c v14962, iv_c (1 + v16193)]) (by decide +kernel) (by decide) (by decide) rfl (by first | decide | omega) (by first | decide | omega) (by first | decide | omega) rfl ?_
            refine x_goto (np := 85) (x := 31) (by decide +kernel) ?_
            exact i16200 (1 + v16193) h16302 (by first | decide | omega) (by first | decide | omega) j16303 f16307
          have q16296 : ¬ (v16255 = 2147483647) := q16296
          refine x_aload (np := 6) (x := 0) (by decide +kernel) rfl (x_nc_le (by decide)) ?_
          have q16308 : h16195 59 0 = 60 := by have z := jB (e := 0) 0 j16197 rg_59_0_0_1 (by decide) (by decide); omega
          refine x_getR (np := 9) (x := 0) (f := 0) (q := 60) (by decide +kernel) (by decide) (by decide +kernel) q16308 ?_
          refine x_iload (np := 10) (x := 2) (by decide +kernel) rfl l16256 ?_
          obtain ⟨u16309, q16310⟩ : ∃ z, v16255 = 2147483648 + z := ⟨v16255 - 2147483648, by first | decide | omega⟩
          refine x_aldC (np := 11) (x := 0) (n := 6) (i := u16309) (q := (h16195 60 u16309)) (by decide +kernel) (by decide +kernel) (by first | decide | omega) (by first | decide | omega) (by decide) rfl (fun l16311 => ?_)
          refine x_iload (np := 12) (x := 3) (by decide +kernel) rfl l16294 ?_
          refine x_icmp (k := 3) (tg := 30) (np := 15) (by decide +kernel) (by decide) l16311 l16294 (fun q16312 => ?_) (fun q16313 => ?_)
          · have q16312 : ((h (ra1 + 6) (3 + 4 * u16245))) ≤ (h16195 60 u16309) := q16312
            refine x_aload (np := 31) (x := 0) (by decide +kernel) rfl (x_nc_le (by decide)) ?_
            have q16314 : h16195 59 0 = 60 := by have z := jB (e := 0) 0 j16197 rg_59_0_0_1 (by decide) (by decide); omega
            refine x_getR (np := 34) (x := 0) (f := 0) (q := 60) (by decide +kernel) (by decide) (by decide +kernel) q16314 ?_
            refine x_iload (np := 35) (x := 2) (by decide +kernel) rfl l16256 ?_
            refine x_dup2 (np := 36) (x := 0) (by decide +kernel) (by have z := (iw_c_lt (a := v16255) l16256).1; omega) (by have z := x_nc_le (k := 60) (by decide); unfold x_r; omega) ?_
            refine x_aldC (np := 37) (x := 0) (n := 6) (i := u16309) (q := (h16195 60 u16309)) (by decide +kernel) (by decide +kernel) (by first | decide | omega) (by first | decide | omega) (by decide) rfl (fun l16315 => ?_)
            refine x_iload (np := 38) (x := 3) (by decide +kernel) rfl l16294 ?_
            refine x_subA (by rw [tb_b2]; decide +kernel) l16311 l16294 (fun v16316 l16317 => ?_)
            refine x_ast (np := 40) (x := 0) (kd := 1) (n := 6) (i := u16309) (by decide +kernel) (Or.inl rfl) (by decide +kernel) (by first | decide | omega) (by first | decide | omega) (by decide) l16317 (fun z => absurd z (by decide)) ?_
            have j16319 := jU (e := u16309) (v := v16316) u16309 j16197 rg_60_0_1_6 (by first | decide | omega) (by first | decide | omega) (by first | decide | omega)
            have f16321 := jF (e := u16309) (v := v16316) u16309 f16201 rg_60_0_1_6 (by first | decide | omega) (by first | decide | omega) (by decide)
            have f16322 := jF (e := u16309) (v := v16316) u16309 f16202 rg_60_0_1_6 (by first | decide | omega) (by first | decide | omega) (by decide)
            have f16323 := jF (e := u16309) (v := v16316) u16309 f16196 rg_60_0_1_6 (by first | decide | omega) (by first | decide | omega) (by decide)
            generalize e16320 : x_up h16195 60 u16309 v16316 = h16318 at j16319 f16321 f16322 f16323 ⊢
            refine x_retV (np := 41) (x := 0) (by decide +kernel) (by decide +kernel) ⟨rfl, ?_⟩
            refine x_iinc (np := 82) (i := 4) (j := 2147483649) (v := (1 + v16193)) (lo' := [x_r 59, x_r ra1, x_r 45, iv_c v14962, iv_c (1 + v16193)]) (by decide +kernel) (by decide) (by decide) rfl (by first | decide | omega) (by first | decide | omega) (by first | decide | omega) rfl ?_
            refine x_goto (np := 85) (x := 31) (by decide +kernel) ?_
            exact i16200 (1 + v16193) h16318 (by first | decide | omega) (by first | decide | omega) j16319 f16323
          have q16313 : ¬ (((h (ra1 + 6) (3 + 4 * u16245))) ≤ (h16195 60 u16309)) := q16313
          refine x_aload (np := 16) (x := 0) (by decide +kernel) rfl (x_nc_le (by decide)) ?_
          refine x_dup (np := 17) (x := 0) (by decide +kernel) (by have z := x_nc_le (k := 59) (by decide); unfold x_r; omega) ?_
          refine x_getC (np := 20) (x := 1) (f := 1) (q := (h16195 59 1)) (by decide +kernel) (by decide) (by decide +kernel) rfl (fun l16324 => ?_)
          refine x_const (np := 21) (x := 9223372043297226753) (a := 2147483649) (by decide +kernel) (by decide) (by decide) ?_
          refine x_iload (np := 22) (x := 1) (by decide +kernel) rfl (by first | decide | omega) ?_
          refine x_any (np := 23) (k9 := 3) (by decide +kernel) (by decide) (by decide) (by first | decide | omega) (fun v16325 l16326 => ?_)
          refine x_any (np := 24) (k9 := 1) (by decide +kernel) (by decide) l16324 l16326 (fun v16327 l16328 => ?_)
          refine x_putI (np := 27) (x := 1) (f := 1) (by decide +kernel) (by decide +kernel) l16328 (Or.inl (by decide)) ?_
          have j16330 := jU (e := 1) (v := v16327) 0 j16197 rg_59_1_0_1 (by first | decide | omega) (by first | decide | omega) (by first | decide | omega)
          have f16332 := jF (e := 1) (v := v16327) 0 f16201 rg_59_1_0_1 (by first | decide | omega) (by first | decide | omega) (by decide)
          have f16333 := jF (e := 1) (v := v16327) 0 f16202 rg_59_1_0_1 (by first | decide | omega) (by first | decide | omega) (by decide)
          have f16334 := jF (e := 1) (v := v16327) 0 f16196 rg_59_1_0_1 (by first | decide | omega) (by first | decide | omega) (by decide)
          generalize e16331 : x_up h16195 59 1 v16327 = h16329 at j16330 f16332 f16333 f16334 ⊢
          refine x_goto (np := 30) (x := 40) (by decide +kernel) ?_
          refine x_retV (np := 41) (x := 0) (by decide +kernel) (by decide +kernel) ⟨rfl, ?_⟩
          refine x_iinc (np := 82) (i := 4) (j := 2147483649) (v := (1 + v16193)) (lo' := [x_r 59, x_r ra1, x_r 45, iv_c v14962, iv_c (1 + v16193)]) (by decide +kernel) (by decide) (by decide) rfl (by first | decide | omega) (by first | decide | omega) (by first | decide | omega) rfl ?_
          refine x_goto (np := 85) (x := 31) (by decide +kernel) ?_
          exact i16200 (1 + v16193) h16329 (by first | decide | omega) (by first | decide | omega) j16330 f16334
      exact p16198 _ 2147483648 h14965 (Nat.lt_succ_self _) (by first | decide | omega) j14967 (Fr.refl _ _)
  exact p14968 _ 2147483648 147573952589676412928 h8 (Nat.lt_succ_self _) (by first | decide | omega) j9 (Fr.refl _ _)
set_option maxHeartbeats 0 in
/-- LentNames.unpaid()I -/
theorem c132_0 {sc : Nat × Nat} {d  : Nat} {h : xh} (hJ : J h) : X sc 132 (d + 4) (xI fun r h' => J h' ∧ Fr 8193 h h' ∧ (0 ≤ r ∧ r ≤ 4294967295)) 0 0 0 [x_r 0] [] h := by
  have hF := Fr.refl 8193 h
  refine x_aload (np := 1) (x := 0) (by decide +kernel) rfl (x_nc_le (by decide)) ?_
  have q1 : h 0 2 = 59 := by have z := jB (e := 2) 0 hJ rg_0_2_0_1 (by decide) (by decide); omega
  refine x_getR (np := 4) (x := 642) (f := 2) (q := 59) (by decide +kernel) (by decide) (by decide +kernel) q1 ?_
  refine x_aload (np := 5) (x := 0) (by decide +kernel) rfl (x_nc_le (by decide)) ?_
  have t2 : tw (h 0 8) := hJ.2.1
  refine x_getR (np := 8) (x := 648) (f := 8) (q := (h 0 8)) (by decide +kernel) (by decide) (by decide +kernel) rfl ?_
  refine x_aload (np := 9) (x := 0) (by decide +kernel) rfl (x_nc_le (by decide)) ?_
  have q3 : h 0 1 = 45 := by have z := jB (e := 1) 0 hJ rg_0_1_0_1 (by decide) (by decide); omega
  refine x_getR (np := 12) (x := 641) (f := 1) (q := 45) (by decide +kernel) (by decide) (by decide +kernel) q3 ?_
  refine x_cV (t := 6) (mj := 1) (n := 3) (rc := 1) (ml := 5) (nr := 0) (np := 15) (as := [x_r 59, x_r (h 0 8), x_r 45]) (rest := []) (lo1 := [x_r 59, x_r (h 0 8), x_r 45, 147573952589676412928, 147573952589676412928]) (by decide +kernel) (by decide) (by decide +kernel) (x_rb_of (by decide +kernel)) rfl rfl (x_wr (by decide) (x_wr (tn_0 t2) (x_wr (by decide) x_wn))) x_wn (by decide) rfl (c1_59_T0_45 hJ  t2 ) (fun h7 q6 => ?_)
  obtain ⟨j8, f9⟩ := q6
  have f12 := Fr.trans hF f9 (by decide)
  refine x_aload (np := 16) (x := 0) (by decide +kernel) rfl (x_nc_le (by decide)) ?_
  have q13 : h7 0 2 = 59 := by have z := jB (e := 2) 0 j8 rg_0_2_0_1 (by decide) (by decide); omega
  refine x_getR (np := 19) (x := 642) (f := 2) (q := 59) (by decide +kernel) (by decide) (by decide +kernel) q13 ?_
  refine x_getC (np := 22) (x := 1) (f := 1) (q := (h7 59 1)) (by decide +kernel) (by decide) (by decide +kernel) rfl (fun l14 => ?_)
  refine x_retI (np := 23) (x := 0) (by decide +kernel) l14 (Or.inl (by decide +kernel)) ⟨_, rfl, l14, ?_⟩
  exact ⟨j8, f12, (by first | decide | omega)⟩
set_option maxHeartbeats 0 in
/-- LentNames$Table.at(II)I -/
theorem c68_T7_c0 {sc : Nat × Nat} {d ra0 a1 : Nat} {h : xh} (hJ : J h) (ta0 : tw ra0) (ba1 : 2147483648 ≤ a1 ∧ a1 ≤ 2147483657) : X sc 68 d (xI fun r h' => h' = h ∧ (2147483647 ≤ r ∧ r ≤ 2147483653)) 0 0 0 [x_r (ra0 + 7), iv_c a1, iv_c 2147483648, 147573952589676412928] [] h := by
  have la1 : a1 < 4294967296 := by first | decide | omega
  refine x_iload (np := 1) (x := 1) (by decide +kernel) rfl la1 ?_
  refine x_ifz (k := 2) (tg := 28) (np := 4) (by decide +kernel) (by decide) la1 (fun q1 => ?_) (fun q2 => ?_)
  · have q1 : a1 < 2147483648 := q1
    exfalso; omega
  have q2 : ¬ (a1 < 2147483648) := q2
  refine x_iload (np := 5) (x := 1) (by decide +kernel) rfl la1 ?_
  refine x_aload (np := 6) (x := 0) (by decide +kernel) rfl (x_nc_le (tn_7 ta0)) ?_
  have b3 := jB (e := 2) 0 hJ (rg_T7_2_0_1 ta0) (by first | decide | omega) (by first | decide | omega)
  refine x_getC (np := 9) (x := 386) (f := 2) (q := (h (ra0 + 7) 2)) (by decide +kernel) (by decide) (tg_7_386_2_0 ta0) rfl (fun l4 => ?_)
  refine x_icmp (k := 3) (tg := 28) (np := 12) (by decide +kernel) (by decide) la1 l4 (fun q5 => ?_) (fun q6 => ?_)
  · have q5 : (h (ra0 + 7) 2) ≤ a1 := q5
    refine x_const (np := 29) (x := 9223372039002259456) (a := 2147483648) (by decide +kernel) (by decide) (by decide) ?_
    refine x_istore (np := 30) (x := 3) (lo' := [x_r (ra0 + 7), iv_c a1, iv_c 2147483648, iv_c 2147483648]) (by decide +kernel) (by decide) (Nat.le_of_ble_eq_true rfl) rfl ?_
    refine x_iload (np := 31) (x := 3) (by decide +kernel) rfl (by decide) ?_
    refine x_ifz (k := 0) (tg := 50) (np := 34) (by decide +kernel) (by decide) (by decide) (fun q7 => ?_) (fun q8 => ?_)
    · have q7 : 2147483648 = 2147483648 := q7
      refine x_const (np := 51) (x := 9223372034707292159) (a := 2147483647) (by decide +kernel) (by decide) (by decide) ?_
      refine x_retI (np := 52) (x := 0) (by decide +kernel) (by decide) (Or.inl (by decide +kernel)) ⟨_, rfl, (by decide), ?_⟩
      exact ⟨rfl, (by first | decide | omega)⟩
    have q8 : ¬ (2147483648 = 2147483648) := q8
    exfalso; omega
  have q6 : ¬ ((h (ra0 + 7) 2) ≤ a1) := q6
  refine x_iload (np := 13) (x := 2) (by decide +kernel) rfl (by decide) ?_
  refine x_ifz (k := 2) (tg := 28) (np := 16) (by decide +kernel) (by decide) (by decide) (fun q9 => ?_) (fun q10 => ?_)
  · have q9 : 2147483648 < 2147483648 := q9
    exfalso; omega
  have q10 : ¬ (2147483648 < 2147483648) := q10
  refine x_iload (np := 17) (x := 2) (by decide +kernel) rfl (by decide) ?_
  refine x_aload (np := 18) (x := 0) (by decide +kernel) rfl (x_nc_le (tn_7 ta0)) ?_
  have b11 := jB (e := 0) 0 hJ (rg_T7_0_0_1 ta0) (by first | decide | omega) (by first | decide | omega)
  have q12 : (h (ra0 + 7) 0) = 2147483652 := by first | decide | omega
  refine x_getC (np := 21) (x := 384) (f := 0) (q := 2147483652) (by decide +kernel) (by decide) (tg_7_384_0_0 ta0) q12 (fun l13 => ?_)
  refine x_icmp (k := 3) (tg := 28) (np := 24) (by decide +kernel) (by decide) (by decide) (by decide) (fun q14 => ?_) (fun q15 => ?_)
  · have q14 : 2147483652 ≤ 2147483648 := q14
    exfalso; omega
  have q15 : ¬ (2147483652 ≤ 2147483648) := q15
  refine x_const (np := 25) (x := 9223372043297226753) (a := 2147483649) (by decide +kernel) (by decide) (by decide) ?_
  refine x_goto (np := 28) (x := 29) (by decide +kernel) ?_
  refine x_istore (np := 30) (x := 3) (lo' := [x_r (ra0 + 7), iv_c a1, iv_c 2147483648, iv_c 2147483649]) (by decide +kernel) (by decide) (Nat.le_of_ble_eq_true rfl) rfl ?_
  refine x_iload (np := 31) (x := 3) (by decide +kernel) rfl (by decide) ?_
  refine x_ifz (k := 0) (tg := 50) (np := 34) (by decide +kernel) (by decide) (by decide) (fun q16 => ?_) (fun q17 => ?_)
  · have q16 : 2147483649 = 2147483648 := q16
    exfalso; omega
  have q17 : ¬ (2147483649 = 2147483648) := q17
  refine x_aload (np := 35) (x := 0) (by decide +kernel) rfl (x_nc_le (tn_7 ta0)) ?_
  have q18 : h (ra0 + 7) 1 = (ra0 + 8) := tf_7_1 hJ ta0
  refine x_getR (np := 38) (x := 385) (f := 1) (q := (ra0 + 8)) (by decide +kernel) (by decide) (tg_7_385_1_1 ta0) q18 ?_
  refine x_iload (np := 39) (x := 1) (by decide +kernel) rfl la1 ?_
  refine x_aload (np := 40) (x := 0) (by decide +kernel) rfl (x_nc_le (tn_7 ta0)) ?_
  refine x_getC (np := 43) (x := 384) (f := 0) (q := 2147483652) (by decide +kernel) (by decide) (tg_7_384_0_0 ta0) q12 (fun l19 => ?_)
  obtain ⟨u20, q21⟩ : ∃ z, a1 = 2147483648 + z := ⟨a1 - 2147483648, by first | decide | omega⟩
  refine x_imul (np := 44) (x := 0) (i := u20) (j := 4) (v := (2147483648 + 4 * u20)) (by decide +kernel) (by first | decide | omega) (by first | decide | omega) (by first | decide | omega) (by first | decide | omega) la1 (by decide) ?_
  refine x_iload (np := 45) (x := 2) (by decide +kernel) rfl (by decide) ?_
  refine x_iadd (np := 46) (x := 0) (v := (2147483648 + 4 * u20)) (by decide +kernel) (by first | decide | omega) (by decide) (by first | decide | omega) (by first | decide | omega) ?_
  have b23 := jB (e := (4 * u20)) u20 hJ (rg_T8_0_4_10 ta0) (by first | decide | omega) (by first | decide | omega)
  refine x_aldC (np := 47) (x := 0) (n := 40) (i := (4 * u20)) (q := ((h (ra0 + 8) (4 * u20)))) (by decide +kernel) (ta_8_40 ta0) (by first | decide | omega) (by first | decide | omega) (by decide) rfl (fun l24 => ?_)
  refine x_goto (np := 50) (x := 51) (by decide +kernel) ?_
  refine x_retI (np := 52) (x := 0) (by decide +kernel) l24 (Or.inl (by decide +kernel)) ⟨_, rfl, l24, ?_⟩
  exact ⟨rfl, (by first | decide | omega)⟩
set_option maxHeartbeats 0 in
/-- LentNames$Table.at(II)I -/
theorem c68_T7_c1 {sc : Nat × Nat} {d ra0 a1 : Nat} {h : xh} (hJ : J h) (ta0 : tw ra0) (ba1 : 2147483648 ≤ a1 ∧ a1 ≤ 2147483657) : X sc 68 d (xI fun r h' => h' = h ∧ (0 ≤ r ∧ r ≤ 4294967295)) 0 0 0 [x_r (ra0 + 7), iv_c a1, iv_c 2147483649, 147573952589676412928] [] h := by
  have la1 : a1 < 4294967296 := by first | decide | omega
  refine x_iload (np := 1) (x := 1) (by decide +kernel) rfl la1 ?_
  refine x_ifz (k := 2) (tg := 28) (np := 4) (by decide +kernel) (by decide) la1 (fun q1 => ?_) (fun q2 => ?_)
  · have q1 : a1 < 2147483648 := q1
    exfalso; omega
  have q2 : ¬ (a1 < 2147483648) := q2
  refine x_iload (np := 5) (x := 1) (by decide +kernel) rfl la1 ?_
  refine x_aload (np := 6) (x := 0) (by decide +kernel) rfl (x_nc_le (tn_7 ta0)) ?_
  have b3 := jB (e := 2) 0 hJ (rg_T7_2_0_1 ta0) (by first | decide | omega) (by first | decide | omega)
  refine x_getC (np := 9) (x := 386) (f := 2) (q := (h (ra0 + 7) 2)) (by decide +kernel) (by decide) (tg_7_386_2_0 ta0) rfl (fun l4 => ?_)
  refine x_icmp (k := 3) (tg := 28) (np := 12) (by decide +kernel) (by decide) la1 l4 (fun q5 => ?_) (fun q6 => ?_)
  · have q5 : (h (ra0 + 7) 2) ≤ a1 := q5
    refine x_const (np := 29) (x := 9223372039002259456) (a := 2147483648) (by decide +kernel) (by decide) (by decide) ?_
    refine x_istore (np := 30) (x := 3) (lo' := [x_r (ra0 + 7), iv_c a1, iv_c 2147483649, iv_c 2147483648]) (by decide +kernel) (by decide) (Nat.le_of_ble_eq_true rfl) rfl ?_
    refine x_iload (np := 31) (x := 3) (by decide +kernel) rfl (by decide) ?_
    refine x_ifz (k := 0) (tg := 50) (np := 34) (by decide +kernel) (by decide) (by decide) (fun q7 => ?_) (fun q8 => ?_)
    · have q7 : 2147483648 = 2147483648 := q7
      refine x_const (np := 51) (x := 9223372034707292159) (a := 2147483647) (by decide +kernel) (by decide) (by decide) ?_
      refine x_retI (np := 52) (x := 0) (by decide +kernel) (by decide) (Or.inl (by decide +kernel)) ⟨_, rfl, (by decide), ?_⟩
      exact ⟨rfl, (by first | decide | omega)⟩
    have q8 : ¬ (2147483648 = 2147483648) := q8
    exfalso; omega
  have q6 : ¬ ((h (ra0 + 7) 2) ≤ a1) := q6
  refine x_iload (np := 13) (x := 2) (by decide +kernel) rfl (by decide) ?_
  refine x_ifz (k := 2) (tg := 28) (np := 16) (by decide +kernel) (by decide) (by decide) (fun q9 => ?_) (fun q10 => ?_)
  · have q9 : 2147483649 < 2147483648 := q9
    exfalso; omega
  have q10 : ¬ (2147483649 < 2147483648) := q10
  refine x_iload (np := 17) (x := 2) (by decide +kernel) rfl (by decide) ?_
  refine x_aload (np := 18) (x := 0) (by decide +kernel) rfl (x_nc_le (tn_7 ta0)) ?_
  have b11 := jB (e := 0) 0 hJ (rg_T7_0_0_1 ta0) (by first | decide | omega) (by first | decide | omega)
  have q12 : (h (ra0 + 7) 0) = 2147483652 := by first | decide | omega
  refine x_getC (np := 21) (x := 384) (f := 0) (q := 2147483652) (by decide +kernel) (by decide) (tg_7_384_0_0 ta0) q12 (fun l13 => ?_)
  refine x_icmp (k := 3) (tg := 28) (np := 24) (by decide +kernel) (by decide) (by decide) (by decide) (fun q14 => ?_) (fun q15 => ?_)
  · have q14 : 2147483652 ≤ 2147483649 := q14
    exfalso; omega
  have q15 : ¬ (2147483652 ≤ 2147483649) := q15
  refine x_const (np := 25) (x := 9223372043297226753) (a := 2147483649) (by decide +kernel) (by decide) (by decide) ?_
  refine x_goto (np := 28) (x := 29) (by decide +kernel) ?_
  refine x_istore (np := 30) (x := 3) (lo' := [x_r (ra0 + 7), iv_c a1, iv_c 2147483649, iv_c 2147483649]) (by decide +kernel) (by decide) (Nat.le_of_ble_eq_true rfl) rfl ?_
  refine x_iload (np := 31) (x := 3) (by decide +kernel) rfl (by decide) ?_
  refine x_ifz (k := 0) (tg := 50) (np := 34) (by decide +kernel) (by decide) (by decide) (fun q16 => ?_) (fun q17 => ?_)
  · have q16 : 2147483649 = 2147483648 := q16
    exfalso; omega
  have q17 : ¬ (2147483649 = 2147483648) := q17
  refine x_aload (np := 35) (x := 0) (by decide +kernel) rfl (x_nc_le (tn_7 ta0)) ?_
  have q18 : h (ra0 + 7) 1 = (ra0 + 8) := tf_7_1 hJ ta0
  refine x_getR (np := 38) (x := 385) (f := 1) (q := (ra0 + 8)) (by decide +kernel) (by decide) (tg_7_385_1_1 ta0) q18 ?_
  refine x_iload (np := 39) (x := 1) (by decide +kernel) rfl la1 ?_
  refine x_aload (np := 40) (x := 0) (by decide +kernel) rfl (x_nc_le (tn_7 ta0)) ?_
  refine x_getC (np := 43) (x := 384) (f := 0) (q := 2147483652) (by decide +kernel) (by decide) (tg_7_384_0_0 ta0) q12 (fun l19 => ?_)
  obtain ⟨u20, q21⟩ : ∃ z, a1 = 2147483648 + z := ⟨a1 - 2147483648, by first | decide | omega⟩
  refine x_imul (np := 44) (x := 0) (i := u20) (j := 4) (v := (2147483648 + 4 * u20)) (by decide +kernel) (by first | decide | omega) (by first | decide | omega) (by first | decide | omega) (by first | decide | omega) la1 (by decide) ?_
  refine x_iload (np := 45) (x := 2) (by decide +kernel) rfl (by decide) ?_
  refine x_iadd (np := 46) (x := 0) (v := (2147483649 + 4 * u20)) (by decide +kernel) (by first | decide | omega) (by decide) (by first | decide | omega) (by first | decide | omega) ?_
  refine x_aldC (np := 47) (x := 0) (n := 40) (i := (1 + 4 * u20)) (q := ((h (ra0 + 8) (1 + 4 * u20)))) (by decide +kernel) (ta_8_40 ta0) (by first | decide | omega) (by first | decide | omega) (by decide) rfl (fun l23 => ?_)
  refine x_goto (np := 50) (x := 51) (by decide +kernel) ?_
  refine x_retI (np := 52) (x := 0) (by decide +kernel) l23 (Or.inl (by decide +kernel)) ⟨_, rfl, l23, ?_⟩
  exact ⟨rfl, (by first | decide | omega)⟩
set_option maxHeartbeats 0 in
/-- LentNames$Table.at(II)I -/
theorem c68_T7_c2 {sc : Nat × Nat} {d ra0 a1 : Nat} {h : xh} (hJ : J h) (ta0 : tw ra0) (ba1 : 2147483648 ≤ a1 ∧ a1 ≤ 2147483657) : X sc 68 d (xI fun r h' => h' = h ∧ (0 ≤ r ∧ r ≤ 4294967295)) 0 0 0 [x_r (ra0 + 7), iv_c a1, iv_c 2147483650, 147573952589676412928] [] h := by
  have la1 : a1 < 4294967296 := by first | decide | omega
  refine x_iload (np := 1) (x := 1) (by decide +kernel) rfl la1 ?_
  refine x_ifz (k := 2) (tg := 28) (np := 4) (by decide +kernel) (by decide) la1 (fun q1 => ?_) (fun q2 => ?_)
  · have q1 : a1 < 2147483648 := q1
    exfalso; omega
  have q2 : ¬ (a1 < 2147483648) := q2
  refine x_iload (np := 5) (x := 1) (by decide +kernel) rfl la1 ?_
  refine x_aload (np := 6) (x := 0) (by decide +kernel) rfl (x_nc_le (tn_7 ta0)) ?_
  have b3 := jB (e := 2) 0 hJ (rg_T7_2_0_1 ta0) (by first | decide | omega) (by first | decide | omega)
  refine x_getC (np := 9) (x := 386) (f := 2) (q := (h (ra0 + 7) 2)) (by decide +kernel) (by decide) (tg_7_386_2_0 ta0) rfl (fun l4 => ?_)
  refine x_icmp (k := 3) (tg := 28) (np := 12) (by decide +kernel) (by decide) la1 l4 (fun q5 => ?_) (fun q6 => ?_)
  · have q5 : (h (ra0 + 7) 2) ≤ a1 := q5
    refine x_const (np := 29) (x := 9223372039002259456) (a := 2147483648) (by decide +kernel) (by decide) (by decide) ?_
    refine x_istore (np := 30) (x := 3) (lo' := [x_r (ra0 + 7), iv_c a1, iv_c 2147483650, iv_c 2147483648]) (by decide +kernel) (by decide) (Nat.le_of_ble_eq_true rfl) rfl ?_
    refine x_iload (np := 31) (x := 3) (by decide +kernel) rfl (by decide) ?_
    refine x_ifz (k := 0) (tg := 50) (np := 34) (by decide +kernel) (by decide) (by decide) (fun q7 => ?_) (fun q8 => ?_)
    · have q7 : 2147483648 = 2147483648 := q7
      refine x_const (np := 51) (x := 9223372034707292159) (a := 2147483647) (by decide +kernel) (by decide) (by decide) ?_
      refine x_retI (np := 52) (x := 0) (by decide +kernel) (by decide) (Or.inl (by decide +kernel)) ⟨_, rfl, (by decide), ?_⟩
      exact ⟨rfl, (by first | decide | omega)⟩
    have q8 : ¬ (2147483648 = 2147483648) := q8
    exfalso; omega
  have q6 : ¬ ((h (ra0 + 7) 2) ≤ a1) := q6
  refine x_iload (np := 13) (x := 2) (by decide +kernel) rfl (by decide) ?_
  refine x_ifz (k := 2) (tg := 28) (np := 16) (by decide +kernel) (by decide) (by decide) (fun q9 => ?_) (fun q10 => ?_)
  · have q9 : 2147483650 < 2147483648 := q9
    exfalso; omega
  have q10 : ¬ (2147483650 < 2147483648) := q10
  refine x_iload (np := 17) (x := 2) (by decide +kernel) rfl (by decide) ?_
  refine x_aload (np := 18) (x := 0) (by decide +kernel) rfl (x_nc_le (tn_7 ta0)) ?_
  have b11 := jB (e := 0) 0 hJ (rg_T7_0_0_1 ta0) (by first | decide | omega) (by first | decide | omega)
  have q12 : (h (ra0 + 7) 0) = 2147483652 := by first | decide | omega
  refine x_getC (np := 21) (x := 384) (f := 0) (q := 2147483652) (by decide +kernel) (by decide) (tg_7_384_0_0 ta0) q12 (fun l13 => ?_)
  refine x_icmp (k := 3) (tg := 28) (np := 24) (by decide +kernel) (by decide) (by decide) (by decide) (fun q14 => ?_) (fun q15 => ?_)
  · have q14 : 2147483652 ≤ 2147483650 := q14
    exfalso; omega
  have q15 : ¬ (2147483652 ≤ 2147483650) := q15
  refine x_const (np := 25) (x := 9223372043297226753) (a := 2147483649) (by decide +kernel) (by decide) (by decide) ?_
  refine x_goto (np := 28) (x := 29) (by decide +kernel) ?_
  refine x_istore (np := 30) (x := 3) (lo' := [x_r (ra0 + 7), iv_c a1, iv_c 2147483650, iv_c 2147483649]) (by decide +kernel) (by decide) (Nat.le_of_ble_eq_true rfl) rfl ?_
  refine x_iload (np := 31) (x := 3) (by decide +kernel) rfl (by decide) ?_
  refine x_ifz (k := 0) (tg := 50) (np := 34) (by decide +kernel) (by decide) (by decide) (fun q16 => ?_) (fun q17 => ?_)
  · have q16 : 2147483649 = 2147483648 := q16
    exfalso; omega
  have q17 : ¬ (2147483649 = 2147483648) := q17
  refine x_aload (np := 35) (x := 0) (by decide +kernel) rfl (x_nc_le (tn_7 ta0)) ?_
  have q18 : h (ra0 + 7) 1 = (ra0 + 8) := tf_7_1 hJ ta0
  refine x_getR (np := 38) (x := 385) (f := 1) (q := (ra0 + 8)) (by decide +kernel) (by decide) (tg_7_385_1_1 ta0) q18 ?_
  refine x_iload (np := 39) (x := 1) (by decide +kernel) rfl la1 ?_
  refine x_aload (np := 40) (x := 0) (by decide +kernel) rfl (x_nc_le (tn_7 ta0)) ?_
  refine x_getC (np := 43) (x := 384) (f := 0) (q := 2147483652) (by decide +kernel) (by decide) (tg_7_384_0_0 ta0) q12 (fun l19 => ?_)
  obtain ⟨u20, q21⟩ : ∃ z, a1 = 2147483648 + z := ⟨a1 - 2147483648, by first | decide | omega⟩
  refine x_imul (np := 44) (x := 0) (i := u20) (j := 4) (v := (2147483648 + 4 * u20)) (by decide +kernel) (by first | decide | omega) (by first | decide | omega) (by first | decide | omega) (by first | decide | omega) la1 (by decide) ?_
  refine x_iload (np := 45) (x := 2) (by decide +kernel) rfl (by decide) ?_
  refine x_iadd (np := 46) (x := 0) (v := (2147483650 + 4 * u20)) (by decide +kernel) (by first | decide | omega) (by decide) (by first | decide | omega) (by first | decide | omega) ?_
  refine x_aldC (np := 47) (x := 0) (n := 40) (i := (2 + 4 * u20)) (q := ((h (ra0 + 8) (2 + 4 * u20)))) (by decide +kernel) (ta_8_40 ta0) (by first | decide | omega) (by first | decide | omega) (by decide) rfl (fun l23 => ?_)
  refine x_goto (np := 50) (x := 51) (by decide +kernel) ?_
  refine x_retI (np := 52) (x := 0) (by decide +kernel) l23 (Or.inl (by decide +kernel)) ⟨_, rfl, l23, ?_⟩
  exact ⟨rfl, (by first | decide | omega)⟩
set_option maxHeartbeats 0 in
/-- LentNames$Calendar.agrees(I)Z -/
theorem c13_45 {sc : Nat × Nat} {d a1 : Nat} {h : xh} (hJ : J h) (ba1 : 2147483648 ≤ a1 ∧ a1 ≤ 2147483657) : X sc 13 (d + 2) (xI fun r h' => h' = h ∧ (2147483648 ≤ r ∧ r ≤ 2147483649)) 0 0 0 [x_r 45, iv_c a1, 147573952589676412928] [] h := by
  have la1 : a1 < 4294967296 := by first | decide | omega
  refine x_aload (np := 1) (x := 0) (by decide +kernel) rfl (x_nc_le (by decide)) ?_
  refine x_aload (np := 2) (x := 0) (by decide +kernel) rfl (x_nc_le (by decide)) ?_
  have t1 : tw (h 45 5) := hJ.2.2.2.1
  refine x_getR (np := 5) (x := 69) (f := 5) (q := (h 45 5)) (by decide +kernel) (by decide) (by decide +kernel) rfl ?_
  have q2 : h (h 45 5) 3 = ((h 45 5) + 7) := tf_0_3 hJ t1
  refine x_getR (np := 8) (x := 515) (f := 3) (q := ((h 45 5) + 7)) (by decide +kernel) (by decide) (tg_0_515_3_1 t1) q2 ?_
  refine x_iload (np := 9) (x := 1) (by decide +kernel) rfl la1 ?_
  refine x_const (np := 10) (x := 9223372039002259456) (a := 2147483648) (by decide +kernel) (by decide) (by decide) ?_
  refine x_cP (t := 6) (mj := 68) (n := 3) (rc := 7) (ml := 4) (nr := 1) (np := 13) (as := [x_r ((h 45 5) + 7), iv_c a1, iv_c 2147483648]) (rest := [x_r 45]) (lo1 := [x_r ((h 45 5) + 7), iv_c a1, iv_c 2147483648, 147573952589676412928]) (by decide +kernel) (by decide) (by decide +kernel) (x_rb_of (tr_7_7 t1)) rfl rfl (x_wr (tn_7 t1) (x_wi la1 (x_wi (by decide) x_wn))) (x_wr (by decide) x_wn) (by decide) rfl (c68_T7_c0 hJ t1 (by first | decide | omega) ) (fun v4 l5 q6 => ?_)
  refine x_aload (np := 14) (x := 0) (by decide +kernel) rfl (x_nc_le (by decide)) ?_
  refine x_getR (np := 17) (x := 69) (f := 5) (q := (h 45 5)) (by decide +kernel) (by decide) (by decide +kernel) rfl ?_
  have q7 : h (h 45 5) 3 = ((h 45 5) + 7) := tf_0_3 hJ t1
  refine x_getR (np := 20) (x := 515) (f := 3) (q := ((h 45 5) + 7)) (by decide +kernel) (by decide) (tg_0_515_3_1 t1) q7 ?_
  refine x_iload (np := 21) (x := 1) (by decide +kernel) rfl la1 ?_
  refine x_const (np := 22) (x := 9223372043297226753) (a := 2147483649) (by decide +kernel) (by decide) (by decide) ?_
  refine x_cP (t := 6) (mj := 68) (n := 3) (rc := 7) (ml := 4) (nr := 2) (np := 25) (as := [x_r ((h 45 5) + 7), iv_c a1, iv_c 2147483649]) (rest := [iv_c v4, x_r 45]) (lo1 := [x_r ((h 45 5) + 7), iv_c a1, iv_c 2147483649, 147573952589676412928]) (by decide +kernel) (by decide) (by decide +kernel) (x_rb_of (tr_7_7 t1)) rfl rfl (x_wr (tn_7 t1) (x_wi la1 (x_wi (by decide) x_wn))) (x_wi l5 (x_wr (by decide) x_wn)) (by decide) rfl (c68_T7_c1 hJ t1 (by first | decide | omega) ) (fun v9 l10 q11 => ?_)
  refine x_cP (t := 6) (mj := 5) (n := 3) (rc := 2) (ml := 3) (nr := 0) (np := 28) (as := [x_r 45, iv_c v4, iv_c v9]) (rest := []) (lo1 := [x_r 45, iv_c v4, iv_c v9]) (by decide +kernel) (by decide) (by decide +kernel) (x_rb_of (by decide +kernel)) rfl rfl (x_wr (by decide) (x_wi l5 (x_wi l10 x_wn))) x_wn (by decide) rfl (c5_45 hJ  (by first | decide | omega) (by first | decide | omega)) (fun v12 l13 q14 => ?_)
  refine x_istore (np := 29) (x := 2) (lo' := [x_r 45, iv_c a1, iv_c v12]) (by decide +kernel) l13 (Nat.le_of_ble_eq_true rfl) rfl ?_
  refine x_iload (np := 30) (x := 2) (by decide +kernel) rfl l13 ?_
  refine x_const (np := 31) (x := 9223372034707292159) (a := 2147483647) (by decide +kernel) (by decide) (by decide) ?_
  refine x_icmp (k := 0) (tg := 57) (np := 34) (by decide +kernel) (by decide) l13 (by decide) (fun q15 => ?_) (fun q16 => ?_)
  · have q15 : v12 = 2147483647 := q15
    refine x_const (np := 58) (x := 9223372039002259456) (a := 2147483648) (by decide +kernel) (by decide) (by decide) ?_
    refine x_retI (np := 59) (x := 0) (by decide +kernel) (by decide) (Or.inr ⟨by decide +kernel, by first | decide | omega, by first | decide | omega⟩) ⟨_, rfl, (by decide), ?_⟩
    exact ⟨rfl, (by first | decide | omega)⟩
  have q16 : ¬ (v12 = 2147483647) := q16
  refine x_aload (np := 35) (x := 0) (by decide +kernel) rfl (x_nc_le (by decide)) ?_
  refine x_getR (np := 38) (x := 69) (f := 5) (q := (h 45 5)) (by decide +kernel) (by decide) (by decide +kernel) rfl ?_
  have q17 : h (h 45 5) 3 = ((h 45 5) + 7) := tf_0_3 hJ t1
  refine x_getR (np := 41) (x := 515) (f := 3) (q := ((h 45 5) + 7)) (by decide +kernel) (by decide) (tg_0_515_3_1 t1) q17 ?_
  refine x_iload (np := 42) (x := 1) (by decide +kernel) rfl la1 ?_
  refine x_const (np := 43) (x := 9223372047592194050) (a := 2147483650) (by decide +kernel) (by decide) (by decide) ?_
  refine x_cP (t := 6) (mj := 68) (n := 3) (rc := 7) (ml := 4) (nr := 0) (np := 46) (as := [x_r ((h 45 5) + 7), iv_c a1, iv_c 2147483650]) (rest := []) (lo1 := [x_r ((h 45 5) + 7), iv_c a1, iv_c 2147483650, 147573952589676412928]) (by decide +kernel) (by decide) (by decide +kernel) (x_rb_of (tr_7_7 t1)) rfl rfl (x_wr (tn_7 t1) (x_wi la1 (x_wi (by decide) x_wn))) x_wn (by decide) rfl (c68_T7_c2 hJ t1 (by first | decide | omega) ) (fun v19 l20 q21 => ?_)
  refine x_iload (np := 47) (x := 2) (by decide +kernel) rfl l13 ?_
  refine x_cP (t := 7) (mj := 148) (n := 2) (rc := 0) (ml := 2) (nr := 0) (np := 50) (as := [iv_c v19, iv_c v12]) (rest := []) (lo1 := [iv_c v19, iv_c v12]) (by decide +kernel) (by decide) (by decide +kernel) (Or.inl rfl) rfl rfl (x_wi l20 (x_wi l13 x_wn)) x_wn (by decide) rfl (c148 hJ (by first | decide | omega) (by first | decide | omega)) (fun v22 l23 q24 => ?_)
  refine x_ifz (k := 0) (tg := 57) (np := 53) (by decide +kernel) (by decide) l23 (fun q25 => ?_) (fun q26 => ?_)
  · have q25 : v22 = 2147483648 := q25
    refine x_const (np := 58) (x := 9223372039002259456) (a := 2147483648) (by decide +kernel) (by decide) (by decide) ?_
    refine x_retI (np := 59) (x := 0) (by decide +kernel) (by decide) (Or.inr ⟨by decide +kernel, by first | decide | omega, by first | decide | omega⟩) ⟨_, rfl, (by decide), ?_⟩
    exact ⟨rfl, (by first | decide | omega)⟩
  have q26 : ¬ (v22 = 2147483648) := q26
  refine x_const (np := 54) (x := 9223372043297226753) (a := 2147483649) (by decide +kernel) (by decide) (by decide) ?_
  refine x_goto (np := 57) (x := 58) (by decide +kernel) ?_
  refine x_retI (np := 59) (x := 0) (by decide +kernel) (by decide) (Or.inr ⟨by decide +kernel, by first | decide | omega, by first | decide | omega⟩) ⟨_, rfl, (by decide), ?_⟩
  exact ⟨rfl, (by first | decide | omega)⟩
set_option maxHeartbeats 0 in
/-- LentNames.agree()I -/
theorem c134_0 {sc : Nat × Nat} {d  : Nat} {h : xh} (hJ : J h) : X sc 134 (d + 3) (xI fun r h' => h' = h ∧ (0 ≤ r ∧ r ≤ 4294967295)) 0 0 0 [x_r 0, 147573952589676412928, 147573952589676412928] [] h := by
  refine x_const (np := 1) (x := 9223372039002259456) (a := 2147483648) (by decide +kernel) (by decide) (by decide) ?_
  refine x_istore (np := 2) (x := 1) (lo' := [x_r 0, iv_c 2147483648, 147573952589676412928]) (by decide +kernel) (by decide) (Nat.le_of_ble_eq_true rfl) rfl ?_
  refine x_const (np := 3) (x := 9223372039002259456) (a := 2147483648) (by decide +kernel) (by decide) (by decide) ?_
  refine x_istore (np := 4) (x := 2) (lo' := [x_r 0, iv_c 2147483648, iv_c 2147483648]) (by decide +kernel) (by decide) (Nat.le_of_ble_eq_true rfl) rfl ?_
  have p185 : ∀ (n : Nat) (v181 : Nat) (v183 : Nat), 4294967296 - v183 < n → (0 ≤ v181 ∧ v181 ≤ 4294967295) → (2147483648 ≤ v183 ∧ v183 ≤ 2147483658) → X sc 134 (d + 3) (xI fun r h' => h' = h ∧ (0 ≤ r ∧ r ≤ 4294967295)) 0 0 4 [x_r 0, iv_c v181, iv_c v183] [] h := by
    intro n
    induction n with
    | zero => intro v181 v183 q186; exact absurd q186 (Nat.not_lt_zero _)
    | succ n i187 =>
      intro v181 v183 q186 b182 b184
      refine x_iload (np := 5) (x := 2) (by decide +kernel) rfl (by first | decide | omega) ?_
      refine x_aload (np := 6) (x := 0) (by decide +kernel) rfl (x_nc_le (by decide)) ?_
      have t188 : tw (h 0 8) := hJ.2.1
      refine x_getR (np := 9) (x := 648) (f := 8) (q := (h 0 8)) (by decide +kernel) (by decide) (by decide +kernel) rfl ?_
      have q189 : h (h 0 8) 3 = ((h 0 8) + 7) := tf_0_3 hJ t188
      refine x_getR (np := 12) (x := 515) (f := 3) (q := ((h 0 8) + 7)) (by decide +kernel) (by decide) (tg_0_515_3_1 t188) q189 ?_
      have b190 := jB (e := 2) 0 hJ (rg_T7_2_0_1 t188) (by first | decide | omega) (by first | decide | omega)
      refine x_getC (np := 15) (x := 386) (f := 2) (q := (h ((h 0 8) + 7) 2)) (by decide +kernel) (by decide) (tg_7_386_2_0 t188) rfl (fun l191 => ?_)
      refine x_icmp (k := 3) (tg := 41) (np := 18) (by decide +kernel) (by decide) (by first | decide | omega) l191 (fun q192 => ?_) (fun q193 => ?_)
      · have q192 : (h ((h 0 8) + 7) 2) ≤ v183 := q192
        refine x_iload (np := 42) (x := 1) (by decide +kernel) rfl (by first | decide | omega) ?_
        refine x_retI (np := 43) (x := 0) (by decide +kernel) (by first | decide | omega) (Or.inl (by decide +kernel)) ⟨_, rfl, (by first | decide | omega), ?_⟩
        exact ⟨rfl, (by first | decide | omega)⟩
      have q193 : ¬ ((h ((h 0 8) + 7) 2) ≤ v183) := q193
      refine x_aload (np := 19) (x := 0) (by decide +kernel) rfl (x_nc_le (by decide)) ?_
      have q194 : h 0 1 = 45 := by have z := jB (e := 1) 0 hJ rg_0_1_0_1 (by decide) (by decide); omega
      refine x_getR (np := 22) (x := 641) (f := 1) (q := 45) (by decide +kernel) (by decide) (by decide +kernel) q194 ?_
      refine x_iload (np := 23) (x := 2) (by decide +kernel) rfl (by first | decide | omega) ?_
      refine x_cP (t := 6) (mj := 13) (n := 2) (rc := 2) (ml := 3) (nr := 0) (np := 26) (as := [x_r 45, iv_c v183]) (rest := []) (lo1 := [x_r 45, iv_c v183, 147573952589676412928]) (by decide +kernel) (by decide) (by decide +kernel) (x_rb_of (by decide +kernel)) rfl rfl (x_wr (by decide) (x_wi (by first | decide | omega) x_wn)) x_wn (by decide) rfl (c13_45 hJ  (by first | decide | omega)) (fun v195 l196 q197 => ?_)
      refine x_ifz (k := 0) (tg := 35) (np := 29) (by decide +kernel) (by decide) l196 (fun q198 => ?_) (fun q199 => ?_)
      · have q198 : v195 = 2147483648 := q198
        refine x_iinc (np := 38) (i := 2) (j := 2147483649) (v := (1 + v183)) (lo' := [x_r 0, iv_c v181, iv_c (1 + v183)]) (by decide +kernel) (by decide) (by decide) rfl (by first | decide | omega) (by first | decide | omega) (by first | decide | omega) rfl ?_
        refine x_goto (np := 41) (x := 4) (by decide +kernel) ?_
        exact i187 v181 (1 + v183) (by first | decide | omega) (by first | decide | omega) (by first | decide | omega)
      have q199 : ¬ (v195 = 2147483648) := q199
      refine x_iload (np := 30) (x := 1) (by decide +kernel) rfl (by first | decide | omega) ?_
      refine x_const (np := 31) (x := 9223372043297226753) (a := 2147483649) (by decide +kernel) (by decide) (by decide) ?_
      refine x_iload (np := 32) (x := 2) (by decide +kernel) rfl (by first | decide | omega) ?_
      refine x_any (np := 33) (k9 := 3) (by decide +kernel) (by decide) (by decide) (by first | decide | omega) (fun v200 l201 => ?_)
      refine x_any (np := 34) (k9 := 1) (by decide +kernel) (by decide) (by first | decide | omega) l201 (fun v202 l203 => ?_)
      refine x_istore (np := 35) (x := 1) (lo' := [x_r 0, iv_c v202, iv_c v183]) (by decide +kernel) l203 (Nat.le_of_ble_eq_true rfl) rfl ?_
      refine x_iinc (np := 38) (i := 2) (j := 2147483649) (v := (1 + v183)) (lo' := [x_r 0, iv_c v202, iv_c (1 + v183)]) (by decide +kernel) (by decide) (by decide) rfl (by first | decide | omega) (by first | decide | omega) (by first | decide | omega) rfl ?_
      refine x_goto (np := 41) (x := 4) (by decide +kernel) ?_
      exact i187 v202 (1 + v183) (by first | decide | omega) (by first | decide | omega) (by first | decide | omega)
  exact p185 _ 2147483648 2147483648 (Nat.lt_succ_self _) (by first | decide | omega) (by first | decide | omega)
set_option maxHeartbeats 0 in
/-- LentNames$Town.copy(LLentNames$Town;)V -/
theorem c84_3_T0 {sc : Nat × Nat} {d ra1 : Nat} {h : xh} (hJ : J h) (ta1 : tw ra1) : X sc 84 (d + 1) (xV fun h' => J h' ∧ Fr 4503599627370753 h h' ∧ (h' 3 7 = h ra1 7) ∧ (h' 3 8 = h ra1 8) ∧ (h' 4 2 = h (ra1 + 1) 2) ∧ (h' 6 2 = h (ra1 + 3) 2) ∧ (h' 8 2 = h (ra1 + 5) 2) ∧ (h' 10 2 = h (ra1 + 7) 2)) 0 0 0 [x_r 3, x_r ra1] [] h := by
  have hF := Fr.refl 4503599627370753 h
  refine x_aload (np := 1) (x := 0) (by decide +kernel) rfl (x_nc_le (by decide)) ?_
  have q1 : h 3 0 = 4 := by have z := jB (e := 0) 0 hJ rg_3_0_0_1 (by decide) (by decide); omega
  refine x_getR (np := 4) (x := 512) (f := 0) (q := 4) (by decide +kernel) (by decide) (by decide +kernel) q1 ?_
  refine x_aload (np := 5) (x := 1) (by decide +kernel) rfl (x_nc_le (tn_0 ta1)) ?_
  have q2 : h ra1 0 = (ra1 + 1) := tf_0_0 hJ ta1
  refine x_getR (np := 8) (x := 512) (f := 0) (q := (ra1 + 1)) (by decide +kernel) (by decide) (tg_0_512_0_1 ta1) q2 ?_
  refine x_nV (t := 6) (mj := 70) (n := 2) (rc := 7) (ml := 2) (nr := 0) (np := 11) (as := [x_r 4, x_r (ra1 + 1)]) (rest := []) (lo1 := [x_r 4, x_r (ra1 + 1)]) (by decide +kernel) (by decide) (by decide +kernel) (x_rb_of (by decide +kernel)) rfl rfl (x_wr (by decide) (x_wr (tn_1 ta1) x_wn)) x_wn (by decide) rfl ?_
  refine x_aload (np := 1) (x := 0) (by decide +kernel) rfl (x_nc_le (by decide)) ?_
  refine x_aload (np := 2) (x := 1) (by decide +kernel) rfl (x_nc_le (tn_1 ta1)) ?_
  have b3 := jB (e := 2) 0 hJ (rg_T1_2_0_1 ta1) (by first | decide | omega) (by first | decide | omega)
  refine x_getC (np := 5) (x := 386) (f := 2) (q := (h (ra1 + 1) 2)) (by decide +kernel) (by decide) (tg_1_386_2_0 ta1) rfl (fun l4 => ?_)
  refine x_putI (np := 8) (x := 386) (f := 2) (by decide +kernel) (by decide +kernel) l4 (Or.inl (by decide)) ?_
  have j6 := jU (e := 2) (v := (h (ra1 + 1) 2)) 0 hJ rg_4_2_0_1 (by first | decide | omega) (by first | decide | omega) (by first | decide | omega)
  have f8 := jF (e := 2) (v := (h (ra1 + 1) 2)) 0 hF rg_4_2_0_1 (by first | decide | omega) (by first | decide | omega) (by decide)
  generalize e7 : x_up h 4 2 (h (ra1 + 1) 2) = h5 at j6 f8 ⊢
  refine x_aload (np := 9) (x := 1) (by decide +kernel) rfl (x_nc_le (tn_1 ta1)) ?_
  have q9 : h5 (ra1 + 1) 1 = (ra1 + 2) := tf_1_1 j6 ta1
  refine x_getR (np := 12) (x := 385) (f := 1) (q := (ra1 + 2)) (by decide +kernel) (by decide) (tg_1_385_1_1 ta1) q9 ?_
  refine x_const (np := 13) (x := 9223372039002259456) (a := 2147483648) (by decide +kernel) (by decide) (by decide) ?_
  refine x_aload (np := 14) (x := 0) (by decide +kernel) rfl (x_nc_le (by decide)) ?_
  have q10 : h5 4 1 = 5 := by have z := jB (e := 1) 0 j6 rg_4_1_0_1 (by decide) (by decide); omega
  refine x_getR (np := 17) (x := 385) (f := 1) (q := 5) (by decide +kernel) (by decide) (by decide +kernel) q10 ?_
  refine x_const (np := 18) (x := 9223372039002259456) (a := 2147483648) (by decide +kernel) (by decide) (by decide) ?_
  refine x_aload (np := 19) (x := 0) (by decide +kernel) rfl (x_nc_le (by decide)) ?_
  have q11 : h5 4 1 = 5 := by have z := jB (e := 1) 0 j6 rg_4_1_0_1 (by decide) (by decide); omega
  refine x_getR (np := 22) (x := 385) (f := 1) (q := 5) (by decide +kernel) (by decide) (by decide +kernel) q11 ?_
  refine x_alen (np := 23) (x := 0) (n := 140) (by decide +kernel) (by decide) (by decide +kernel) (by decide +kernel) (by decide) ?_
  show X _ _ _ _ _ _ _ _ [iv_c 2147483788, iv_c 2147483648, x_r 5, iv_c 2147483648, x_r (ra1 + 2)] _
  refine x_aload (np := 24) (x := 1) (by decide +kernel) rfl (x_nc_le (tn_1 ta1)) ?_
  have q12 : h5 (ra1 + 1) 1 = (ra1 + 2) := tf_1_1 j6 ta1
  refine x_getR (np := 27) (x := 385) (f := 1) (q := (ra1 + 2)) (by decide +kernel) (by decide) (tg_1_385_1_1 ta1) q12 ?_
  refine x_alen (np := 28) (x := 0) (n := 140) (by decide +kernel) (tn_2 ta1) (tl_2 ta1).1 (tl_2 ta1).2 (by decide) ?_
  show X _ _ _ _ _ _ _ _ [iv_c 2147483788, iv_c 2147483788, iv_c 2147483648, x_r 5, iv_c 2147483648, x_r (ra1 + 2)] _
  refine x_min (np := 31) (by decide +kernel) (by decide) (by decide) (Nat.le_trans (x_wi (by decide) (x_wi (by decide) (x_wi (by decide) (x_wr (by decide) (x_wi (by decide) (x_wr (tn_2 ta1) x_wn)))))) (by decide)) ?_
  rw [show min 2147483788 2147483788 = 2147483788 by decide]
  refine x_copy (np := 34) (q := 5) (r := (ra1 + 2)) (N := 140) (nq := 140) (nr := 140) (n8 := 0) (by decide +kernel) (ta_2_140 ta1) (by decide +kernel) (by decide) (by decide) (by decide) (by decide) x_wn (by decide) ?_
  have j16 := J_cp (q := 5) (r := (ra1 + 2)) (N := 140) j6 (tn_2 ta1) (ctb_5_T2_140 ta1).1 (ctb_5_T2_140 ta1).2.1 (ctb_5_T2_140 ta1).2.2
  have f17 := Fr_cp (q := 5) (r := (ra1 + 2)) (N := 140) (Fr.refl 256 h5) (fun i _ => show Nat.testBit 256 8 = true by decide)
  generalize e18 : x_cp h5 5 (ra1 + 2) 140 = h15 at j16 f17 ⊢
  have f19 := Fr.trans f8 f17 (by decide)
  refine x_retV (np := 35) (x := 0) (by decide +kernel) (by decide +kernel) ⟨rfl, ?_⟩
  refine x_aload (np := 12) (x := 0) (by decide +kernel) rfl (x_nc_le (by decide)) ?_
  have q20 : h15 3 1 = 6 := by have z := jB (e := 1) 0 j16 rg_3_1_0_1 (by decide) (by decide); omega
  refine x_getR (np := 15) (x := 513) (f := 1) (q := 6) (by decide +kernel) (by decide) (by decide +kernel) q20 ?_
  refine x_aload (np := 16) (x := 1) (by decide +kernel) rfl (x_nc_le (tn_0 ta1)) ?_
  have q21 : h15 ra1 1 = (ra1 + 3) := tf_0_1 j16 ta1
  refine x_getR (np := 19) (x := 513) (f := 1) (q := (ra1 + 3)) (by decide +kernel) (by decide) (tg_0_513_1_1 ta1) q21 ?_
  refine x_nV (t := 6) (mj := 70) (n := 2) (rc := 7) (ml := 2) (nr := 0) (np := 22) (as := [x_r 6, x_r (ra1 + 3)]) (rest := []) (lo1 := [x_r 6, x_r (ra1 + 3)]) (by decide +kernel) (by decide) (by decide +kernel) (x_rb_of (by decide +kernel)) rfl rfl (x_wr (by decide) (x_wr (tn_3 ta1) x_wn)) x_wn (by decide) rfl ?_
  refine x_aload (np := 1) (x := 0) (by decide +kernel) rfl (x_nc_le (by decide)) ?_
  refine x_aload (np := 2) (x := 1) (by decide +kernel) rfl (x_nc_le (tn_3 ta1)) ?_
  have q22 : h15 (ra1 + 3) 2 = h5 (ra1 + 3) 2 := jK 0 f17 (rg_T3_2_0_1 ta1) (by first | decide | omega) (by first | decide | omega) (by decide)
  have q23 : h5 (ra1 + 3) 2 = h (ra1 + 3) 2 := by rw [← e7]; exact x_up_k (tne_3_4 ta1)
  have b24 := jB (e := 2) 0 hJ (rg_T3_2_0_1 ta1) (by first | decide | omega) (by first | decide | omega)
  refine x_getC (np := 5) (x := 386) (f := 2) (q := (h (ra1 + 3) 2)) (by decide +kernel) (by decide) (tg_3_386_2_0 ta1) (q22.trans q23) (fun l25 => ?_)
  refine x_putI (np := 8) (x := 386) (f := 2) (by decide +kernel) (by decide +kernel) l25 (Or.inl (by decide)) ?_
  have j27 := jU (e := 2) (v := (h (ra1 + 3) 2)) 0 j16 rg_6_2_0_1 (by first | decide | omega) (by first | decide | omega) (by first | decide | omega)
  have f29 := jF (e := 2) (v := (h (ra1 + 3) 2)) 0 f19 rg_6_2_0_1 (by first | decide | omega) (by first | decide | omega) (by decide)
  generalize e28 : x_up h15 6 2 (h (ra1 + 3) 2) = h26 at j27 f29 ⊢
  refine x_aload (np := 9) (x := 1) (by decide +kernel) rfl (x_nc_le (tn_3 ta1)) ?_
  have q30 : h26 (ra1 + 3) 1 = (ra1 + 4) := tf_3_1 j27 ta1
  refine x_getR (np := 12) (x := 385) (f := 1) (q := (ra1 + 4)) (by decide +kernel) (by decide) (tg_3_385_1_1 ta1) q30 ?_
  refine x_const (np := 13) (x := 9223372039002259456) (a := 2147483648) (by decide +kernel) (by decide) (by decide) ?_
  refine x_aload (np := 14) (x := 0) (by decide +kernel) rfl (x_nc_le (by decide)) ?_
  have q31 : h26 6 1 = 7 := by have z := jB (e := 1) 0 j27 rg_6_1_0_1 (by decide) (by decide); omega
  refine x_getR (np := 17) (x := 385) (f := 1) (q := 7) (by decide +kernel) (by decide) (by decide +kernel) q31 ?_
  refine x_const (np := 18) (x := 9223372039002259456) (a := 2147483648) (by decide +kernel) (by decide) (by decide) ?_
  refine x_aload (np := 19) (x := 0) (by decide +kernel) rfl (x_nc_le (by decide)) ?_
  have q32 : h26 6 1 = 7 := by have z := jB (e := 1) 0 j27 rg_6_1_0_1 (by decide) (by decide); omega
  refine x_getR (np := 22) (x := 385) (f := 1) (q := 7) (by decide +kernel) (by decide) (by decide +kernel) q32 ?_
  refine x_alen (np := 23) (x := 0) (n := 40) (by decide +kernel) (by decide) (by decide +kernel) (by decide +kernel) (by decide) ?_
  show X _ _ _ _ _ _ _ _ [iv_c 2147483688, iv_c 2147483648, x_r 7, iv_c 2147483648, x_r (ra1 + 4)] _
  refine x_aload (np := 24) (x := 1) (by decide +kernel) rfl (x_nc_le (tn_3 ta1)) ?_
  have q33 : h26 (ra1 + 3) 1 = (ra1 + 4) := tf_3_1 j27 ta1
  refine x_getR (np := 27) (x := 385) (f := 1) (q := (ra1 + 4)) (by decide +kernel) (by decide) (tg_3_385_1_1 ta1) q33 ?_
  refine x_alen (np := 28) (x := 0) (n := 40) (by decide +kernel) (tn_4 ta1) (tl_4 ta1).1 (tl_4 ta1).2 (by decide) ?_
  show X _ _ _ _ _ _ _ _ [iv_c 2147483688, iv_c 2147483688, iv_c 2147483648, x_r 7, iv_c 2147483648, x_r (ra1 + 4)] _
  refine x_min (np := 31) (by decide +kernel) (by decide) (by decide) (Nat.le_trans (x_wi (by decide) (x_wi (by decide) (x_wi (by decide) (x_wr (by decide) (x_wi (by decide) (x_wr (tn_4 ta1) x_wn)))))) (by decide)) ?_
  rw [show min 2147483688 2147483688 = 2147483688 by decide]
  refine x_copy (np := 34) (q := 7) (r := (ra1 + 4)) (N := 40) (nq := 40) (nr := 40) (n8 := 0) (by decide +kernel) (ta_4_40 ta1) (by decide +kernel) (by decide) (by decide) (by decide) (by decide) x_wn (by decide) ?_
  have j37 := J_cp (q := 7) (r := (ra1 + 4)) (N := 40) j27 (tn_4 ta1) (ctb_7_T4_40 ta1).1 (ctb_7_T4_40 ta1).2.1 (ctb_7_T4_40 ta1).2.2
  have f38 := Fr_cp (q := 7) (r := (ra1 + 4)) (N := 40) (Fr.refl 256 h26) (fun i _ => show Nat.testBit 256 8 = true by decide)
  generalize e39 : x_cp h26 7 (ra1 + 4) 40 = h36 at j37 f38 ⊢
  have f40 := Fr.trans f29 f38 (by decide)
  refine x_retV (np := 35) (x := 0) (by decide +kernel) (by decide +kernel) ⟨rfl, ?_⟩
  refine x_aload (np := 23) (x := 0) (by decide +kernel) rfl (x_nc_le (by decide)) ?_
  have q41 : h36 3 2 = 8 := by have z := jB (e := 2) 0 j37 rg_3_2_0_1 (by decide) (by decide); omega
  refine x_getR (np := 26) (x := 514) (f := 2) (q := 8) (by decide +kernel) (by decide) (by decide +kernel) q41 ?_
  refine x_aload (np := 27) (x := 1) (by decide +kernel) rfl (x_nc_le (tn_0 ta1)) ?_
  have q42 : h36 ra1 2 = (ra1 + 5) := tf_0_2 j37 ta1
  refine x_getR (np := 30) (x := 514) (f := 2) (q := (ra1 + 5)) (by decide +kernel) (by decide) (tg_0_514_2_1 ta1) q42 ?_
  refine x_nV (t := 6) (mj := 70) (n := 2) (rc := 7) (ml := 2) (nr := 0) (np := 33) (as := [x_r 8, x_r (ra1 + 5)]) (rest := []) (lo1 := [x_r 8, x_r (ra1 + 5)]) (by decide +kernel) (by decide) (by decide +kernel) (x_rb_of (by decide +kernel)) rfl rfl (x_wr (by decide) (x_wr (tn_5 ta1) x_wn)) x_wn (by decide) rfl ?_
  refine x_aload (np := 1) (x := 0) (by decide +kernel) rfl (x_nc_le (by decide)) ?_
  refine x_aload (np := 2) (x := 1) (by decide +kernel) rfl (x_nc_le (tn_5 ta1)) ?_
  have q43 : h36 (ra1 + 5) 2 = h26 (ra1 + 5) 2 := jK 0 f38 (rg_T5_2_0_1 ta1) (by first | decide | omega) (by first | decide | omega) (by decide)
  have q44 : h26 (ra1 + 5) 2 = h15 (ra1 + 5) 2 := by rw [← e28]; exact x_up_k (tne_5_6 ta1)
  have q45 : h15 (ra1 + 5) 2 = h5 (ra1 + 5) 2 := jK 0 f17 (rg_T5_2_0_1 ta1) (by first | decide | omega) (by first | decide | omega) (by decide)
  have q46 : h5 (ra1 + 5) 2 = h (ra1 + 5) 2 := by rw [← e7]; exact x_up_k (tne_5_4 ta1)
  have b47 := jB (e := 2) 0 hJ (rg_T5_2_0_1 ta1) (by first | decide | omega) (by first | decide | omega)
  refine x_getC (np := 5) (x := 386) (f := 2) (q := (h (ra1 + 5) 2)) (by decide +kernel) (by decide) (tg_5_386_2_0 ta1) (((q43.trans q44).trans q45).trans q46) (fun l48 => ?_)
  refine x_putI (np := 8) (x := 386) (f := 2) (by decide +kernel) (by decide +kernel) l48 (Or.inl (by decide)) ?_
  have j50 := jU (e := 2) (v := (h (ra1 + 5) 2)) 0 j37 rg_8_2_0_1 (by first | decide | omega) (by first | decide | omega) (by first | decide | omega)
  have f52 := jF (e := 2) (v := (h (ra1 + 5) 2)) 0 f40 rg_8_2_0_1 (by first | decide | omega) (by first | decide | omega) (by decide)
  generalize e51 : x_up h36 8 2 (h (ra1 + 5) 2) = h49 at j50 f52 ⊢
  refine x_aload (np := 9) (x := 1) (by decide +kernel) rfl (x_nc_le (tn_5 ta1)) ?_
  have q53 : h49 (ra1 + 5) 1 = (ra1 + 6) := tf_5_1 j50 ta1
  refine x_getR (np := 12) (x := 385) (f := 1) (q := (ra1 + 6)) (by decide +kernel) (by decide) (tg_5_385_1_1 ta1) q53 ?_
  refine x_const (np := 13) (x := 9223372039002259456) (a := 2147483648) (by decide +kernel) (by decide) (by decide) ?_
  refine x_aload (np := 14) (x := 0) (by decide +kernel) rfl (x_nc_le (by decide)) ?_
  have q54 : h49 8 1 = 9 := by have z := jB (e := 1) 0 j50 rg_8_1_0_1 (by decide) (by decide); omega
  refine x_getR (np := 17) (x := 385) (f := 1) (q := 9) (by decide +kernel) (by decide) (by decide +kernel) q54 ?_
  refine x_const (np := 18) (x := 9223372039002259456) (a := 2147483648) (by decide +kernel) (by decide) (by decide) ?_
  refine x_aload (np := 19) (x := 0) (by decide +kernel) rfl (x_nc_le (by decide)) ?_
  have q55 : h49 8 1 = 9 := by have z := jB (e := 1) 0 j50 rg_8_1_0_1 (by decide) (by decide); omega
  refine x_getR (np := 22) (x := 385) (f := 1) (q := 9) (by decide +kernel) (by decide) (by decide +kernel) q55 ?_
  refine x_alen (np := 23) (x := 0) (n := 40) (by decide +kernel) (by decide) (by decide +kernel) (by decide +kernel) (by decide) ?_
  show X _ _ _ _ _ _ _ _ [iv_c 2147483688, iv_c 2147483648, x_r 9, iv_c 2147483648, x_r (ra1 + 6)] _
  refine x_aload (np := 24) (x := 1) (by decide +kernel) rfl (x_nc_le (tn_5 ta1)) ?_
  have q56 : h49 (ra1 + 5) 1 = (ra1 + 6) := tf_5_1 j50 ta1
  refine x_getR (np := 27) (x := 385) (f := 1) (q := (ra1 + 6)) (by decide +kernel) (by decide) (tg_5_385_1_1 ta1) q56 ?_
  refine x_alen (np := 28) (x := 0) (n := 40) (by decide +kernel) (tn_6 ta1) (tl_6 ta1).1 (tl_6 ta1).2 (by decide) ?_
  show X _ _ _ _ _ _ _ _ [iv_c 2147483688, iv_c 2147483688, iv_c 2147483648, x_r 9, iv_c 2147483648, x_r (ra1 + 6)] _
  refine x_min (np := 31) (by decide +kernel) (by decide) (by decide) (Nat.le_trans (x_wi (by decide) (x_wi (by decide) (x_wi (by decide) (x_wr (by decide) (x_wi (by decide) (x_wr (tn_6 ta1) x_wn)))))) (by decide)) ?_
  rw [show min 2147483688 2147483688 = 2147483688 by decide]
  refine x_copy (np := 34) (q := 9) (r := (ra1 + 6)) (N := 40) (nq := 40) (nr := 40) (n8 := 0) (by decide +kernel) (ta_6_40 ta1) (by decide +kernel) (by decide) (by decide) (by decide) (by decide) x_wn (by decide) ?_
  have j60 := J_cp (q := 9) (r := (ra1 + 6)) (N := 40) j50 (tn_6 ta1) (ctb_9_T6_40 ta1).1 (ctb_9_T6_40 ta1).2.1 (ctb_9_T6_40 ta1).2.2
  have f61 := Fr_cp (q := 9) (r := (ra1 + 6)) (N := 40) (Fr.refl 256 h49) (fun i _ => show Nat.testBit 256 8 = true by decide)
  generalize e62 : x_cp h49 9 (ra1 + 6) 40 = h59 at j60 f61 ⊢
  have f63 := Fr.trans f52 f61 (by decide)
  refine x_retV (np := 35) (x := 0) (by decide +kernel) (by decide +kernel) ⟨rfl, ?_⟩
  refine x_aload (np := 34) (x := 0) (by decide +kernel) rfl (x_nc_le (by decide)) ?_
  have q64 : h59 3 3 = 10 := by have z := jB (e := 3) 0 j60 rg_3_3_0_1 (by decide) (by decide); omega
  refine x_getR (np := 37) (x := 515) (f := 3) (q := 10) (by decide +kernel) (by decide) (by decide +kernel) q64 ?_
  refine x_aload (np := 38) (x := 1) (by decide +kernel) rfl (x_nc_le (tn_0 ta1)) ?_
  have q65 : h59 ra1 3 = (ra1 + 7) := tf_0_3 j60 ta1
  refine x_getR (np := 41) (x := 515) (f := 3) (q := (ra1 + 7)) (by decide +kernel) (by decide) (tg_0_515_3_1 ta1) q65 ?_
  refine x_nV (t := 6) (mj := 70) (n := 2) (rc := 7) (ml := 2) (nr := 0) (np := 44) (as := [x_r 10, x_r (ra1 + 7)]) (rest := []) (lo1 := [x_r 10, x_r (ra1 + 7)]) (by decide +kernel) (by decide) (by decide +kernel) (x_rb_of (by decide +kernel)) rfl rfl (x_wr (by decide) (x_wr (tn_7 ta1) x_wn)) x_wn (by decide) rfl ?_
  refine x_aload (np := 1) (x := 0) (by decide +kernel) rfl (x_nc_le (by decide)) ?_
  refine x_aload (np := 2) (x := 1) (by decide +kernel) rfl (x_nc_le (tn_7 ta1)) ?_
  have q66 : h59 (ra1 + 7) 2 = h49 (ra1 + 7) 2 := jK 0 f61 (rg_T7_2_0_1 ta1) (by first | decide | omega) (by first | decide | omega) (by decide)
  have q67 : h49 (ra1 + 7) 2 = h36 (ra1 + 7) 2 := by rw [← e51]; exact x_up_k (tne_7_8 ta1)
  have q68 : h36 (ra1 + 7) 2 = h26 (ra1 + 7) 2 := jK 0 f38 (rg_T7_2_0_1 ta1) (by first | decide | omega) (by first | decide | omega) (by decide)
  have q69 : h26 (ra1 + 7) 2 = h15 (ra1 + 7) 2 := by rw [← e28]; exact x_up_k (tne_7_6 ta1)
  have q70 : h15 (ra1 + 7) 2 = h5 (ra1 + 7) 2 := jK 0 f17 (rg_T7_2_0_1 ta1) (by first | decide | omega) (by first | decide | omega) (by decide)
  have q71 : h5 (ra1 + 7) 2 = h (ra1 + 7) 2 := by rw [← e7]; exact x_up_k (tne_7_4 ta1)
  have b72 := jB (e := 2) 0 hJ (rg_T7_2_0_1 ta1) (by first | decide | omega) (by first | decide | omega)
  refine x_getC (np := 5) (x := 386) (f := 2) (q := (h (ra1 + 7) 2)) (by decide +kernel) (by decide) (tg_7_386_2_0 ta1) (((((q66.trans q67).trans q68).trans q69).trans q70).trans q71) (fun l73 => ?_)
  refine x_putI (np := 8) (x := 386) (f := 2) (by decide +kernel) (by decide +kernel) l73 (Or.inl (by decide)) ?_
  have j75 := jU (e := 2) (v := (h (ra1 + 7) 2)) 0 j60 rg_10_2_0_1 (by first | decide | omega) (by first | decide | omega) (by first | decide | omega)
  have f77 := jF (e := 2) (v := (h (ra1 + 7) 2)) 0 f63 rg_10_2_0_1 (by first | decide | omega) (by first | decide | omega) (by decide)
  generalize e76 : x_up h59 10 2 (h (ra1 + 7) 2) = h74 at j75 f77 ⊢
  refine x_aload (np := 9) (x := 1) (by decide +kernel) rfl (x_nc_le (tn_7 ta1)) ?_
  have q78 : h74 (ra1 + 7) 1 = (ra1 + 8) := tf_7_1 j75 ta1
  refine x_getR (np := 12) (x := 385) (f := 1) (q := (ra1 + 8)) (by decide +kernel) (by decide) (tg_7_385_1_1 ta1) q78 ?_
  refine x_const (np := 13) (x := 9223372039002259456) (a := 2147483648) (by decide +kernel) (by decide) (by decide) ?_
  refine x_aload (np := 14) (x := 0) (by decide +kernel) rfl (x_nc_le (by decide)) ?_
  have q79 : h74 10 1 = 11 := by have z := jB (e := 1) 0 j75 rg_10_1_0_1 (by decide) (by decide); omega
  refine x_getR (np := 17) (x := 385) (f := 1) (q := 11) (by decide +kernel) (by decide) (by decide +kernel) q79 ?_
  refine x_const (np := 18) (x := 9223372039002259456) (a := 2147483648) (by decide +kernel) (by decide) (by decide) ?_
  refine x_aload (np := 19) (x := 0) (by decide +kernel) rfl (x_nc_le (by decide)) ?_
  have q80 : h74 10 1 = 11 := by have z := jB (e := 1) 0 j75 rg_10_1_0_1 (by decide) (by decide); omega
  refine x_getR (np := 22) (x := 385) (f := 1) (q := 11) (by decide +kernel) (by decide) (by decide +kernel) q80 ?_
  refine x_alen (np := 23) (x := 0) (n := 40) (by decide +kernel) (by decide) (by decide +kernel) (by decide +kernel) (by decide) ?_
  show X _ _ _ _ _ _ _ _ [iv_c 2147483688, iv_c 2147483648, x_r 11, iv_c 2147483648, x_r (ra1 + 8)] _
  refine x_aload (np := 24) (x := 1) (by decide +kernel) rfl (x_nc_le (tn_7 ta1)) ?_
  have q81 : h74 (ra1 + 7) 1 = (ra1 + 8) := tf_7_1 j75 ta1
  refine x_getR (np := 27) (x := 385) (f := 1) (q := (ra1 + 8)) (by decide +kernel) (by decide) (tg_7_385_1_1 ta1) q81 ?_
  refine x_alen (np := 28) (x := 0) (n := 40) (by decide +kernel) (tn_8 ta1) (tl_8 ta1).1 (tl_8 ta1).2 (by decide) ?_
  show X _ _ _ _ _ _ _ _ [iv_c 2147483688, iv_c 2147483688, iv_c 2147483648, x_r 11, iv_c 2147483648, x_r (ra1 + 8)] _
  refine x_min (np := 31) (by decide +kernel) (by decide) (by decide) (Nat.le_trans (x_wi (by decide) (x_wi (by decide) (x_wi (by decide) (x_wr (by decide) (x_wi (by decide) (x_wr (tn_8 ta1) x_wn)))))) (by decide)) ?_
  rw [show min 2147483688 2147483688 = 2147483688 by decide]
  refine x_copy (np := 34) (q := 11) (r := (ra1 + 8)) (N := 40) (nq := 40) (nr := 40) (n8 := 0) (by decide +kernel) (ta_8_40 ta1) (by decide +kernel) (by decide) (by decide) (by decide) (by decide) x_wn (by decide) ?_
  have j85 := J_cp (q := 11) (r := (ra1 + 8)) (N := 40) j75 (tn_8 ta1) (ctb_11_T8_40 ta1).1 (ctb_11_T8_40 ta1).2.1 (ctb_11_T8_40 ta1).2.2
  have f86 := Fr_cp (q := 11) (r := (ra1 + 8)) (N := 40) (Fr.refl 256 h74) (fun i _ => show Nat.testBit 256 8 = true by decide)
  generalize e87 : x_cp h74 11 (ra1 + 8) 40 = h84 at j85 f86 ⊢
  have f88 := Fr.trans f77 f86 (by decide)
  refine x_retV (np := 35) (x := 0) (by decide +kernel) (by decide +kernel) ⟨rfl, ?_⟩
  refine x_aload (np := 45) (x := 1) (by decide +kernel) rfl (x_nc_le (tn_0 ta1)) ?_
  have q89 : h84 ra1 4 = (ra1 + 9) := tf_0_4 j85 ta1
  refine x_getR (np := 48) (x := 516) (f := 4) (q := (ra1 + 9)) (by decide +kernel) (by decide) (tg_0_516_4_1 ta1) q89 ?_
  refine x_const (np := 49) (x := 9223372039002259456) (a := 2147483648) (by decide +kernel) (by decide) (by decide) ?_
  refine x_aload (np := 50) (x := 0) (by decide +kernel) rfl (x_nc_le (by decide)) ?_
  have q90 : h84 3 4 = 12 := by have z := jB (e := 4) 0 j85 rg_3_4_0_1 (by decide) (by decide); omega
  refine x_getR (np := 53) (x := 516) (f := 4) (q := 12) (by decide +kernel) (by decide) (by decide +kernel) q90 ?_
  refine x_const (np := 54) (x := 9223372039002259456) (a := 2147483648) (by decide +kernel) (by decide) (by decide) ?_
  refine x_const (np := 56) (x := 9223372064772063238) (a := 2147483654) (by decide +kernel) (by decide) (by decide) ?_
  refine x_copy (np := 59) (q := 12) (r := (ra1 + 9)) (N := 6) (nq := 6) (nr := 6) (n8 := 0) (by decide +kernel) (ta_9_6 ta1) (by decide +kernel) (by decide) (by decide) (by decide) (by decide) x_wn (by decide) ?_
  have j92 := J_cp (q := 12) (r := (ra1 + 9)) (N := 6) j85 (tn_9 ta1) (ctb_12_T9_6 ta1).1 (ctb_12_T9_6 ta1).2.1 (ctb_12_T9_6 ta1).2.2
  have f93 := Fr_cp (q := 12) (r := (ra1 + 9)) (N := 6) (Fr.refl 256 h84) (fun i _ => show Nat.testBit 256 8 = true by decide)
  generalize e94 : x_cp h84 12 (ra1 + 9) 6 = h91 at j92 f93 ⊢
  have f95 := Fr.trans f88 f93 (by decide)
  refine x_aload (np := 60) (x := 1) (by decide +kernel) rfl (x_nc_le (tn_0 ta1)) ?_
  have q96 : h91 ra1 5 = (ra1 + 10) := tf_0_5 j92 ta1
  refine x_getR (np := 63) (x := 517) (f := 5) (q := (ra1 + 10)) (by decide +kernel) (by decide) (tg_0_517_5_1 ta1) q96 ?_
  refine x_const (np := 64) (x := 9223372039002259456) (a := 2147483648) (by decide +kernel) (by decide) (by decide) ?_
  refine x_aload (np := 65) (x := 0) (by decide +kernel) rfl (x_nc_le (by decide)) ?_
  have q97 : h91 3 5 = 13 := by have z := jB (e := 5) 0 j92 rg_3_5_0_1 (by decide) (by decide); omega
  refine x_getR (np := 68) (x := 517) (f := 5) (q := 13) (by decide +kernel) (by decide) (by decide +kernel) q97 ?_
  refine x_const (np := 69) (x := 9223372039002259456) (a := 2147483648) (by decide +kernel) (by decide) (by decide) ?_
  refine x_const (np := 71) (x := 9223372064772063238) (a := 2147483654) (by decide +kernel) (by decide) (by decide) ?_
  refine x_copy (np := 74) (q := 13) (r := (ra1 + 10)) (N := 6) (nq := 6) (nr := 6) (n8 := 0) (by decide +kernel) (ta_10_6 ta1) (by decide +kernel) (by decide) (by decide) (by decide) (by decide) x_wn (by decide) ?_
  have j99 := J_cp (q := 13) (r := (ra1 + 10)) (N := 6) j92 (tn_10 ta1) (ctb_13_T10_6 ta1).1 (ctb_13_T10_6 ta1).2.1 (ctb_13_T10_6 ta1).2.2
  have f100 := Fr_cp (q := 13) (r := (ra1 + 10)) (N := 6) (Fr.refl 256 h91) (fun i _ => show Nat.testBit 256 8 = true by decide)
  generalize e101 : x_cp h91 13 (ra1 + 10) 6 = h98 at j99 f100 ⊢
  have f102 := Fr.trans f95 f100 (by decide)
  refine x_aload (np := 75) (x := 0) (by decide +kernel) rfl (x_nc_le (by decide)) ?_
  have q103 : h98 3 6 = 14 := by have z := jB (e := 6) 0 j99 rg_3_6_0_1 (by decide) (by decide); omega
  refine x_getR (np := 78) (x := 518) (f := 6) (q := 14) (by decide +kernel) (by decide) (by decide +kernel) q103 ?_
  refine x_aload (np := 79) (x := 1) (by decide +kernel) rfl (x_nc_le (tn_0 ta1)) ?_
  have q104 : h98 ra1 6 = (ra1 + 11) := tf_0_6 j99 ta1
  refine x_getR (np := 82) (x := 518) (f := 6) (q := (ra1 + 11)) (by decide +kernel) (by decide) (tg_0_518_6_1 ta1) q104 ?_
  refine x_nV (t := 6) (mj := 37) (n := 2) (rc := 3) (ml := 2) (nr := 0) (np := 85) (as := [x_r 14, x_r (ra1 + 11)]) (rest := []) (lo1 := [x_r 14, x_r (ra1 + 11)]) (by decide +kernel) (by decide) (by decide +kernel) (x_rb_of (by decide +kernel)) rfl rfl (x_wr (by decide) (x_wr (tn_11 ta1) x_wn)) x_wn (by decide) rfl ?_
  refine x_aload (np := 1) (x := 0) (by decide +kernel) rfl (x_nc_le (by decide)) ?_
  refine x_aload (np := 2) (x := 1) (by decide +kernel) rfl (x_nc_le (tn_11 ta1)) ?_
  have q105 : h98 (ra1 + 11) 2 = h91 (ra1 + 11) 2 := jK 0 f100 (rg_T11_2_0_1 ta1) (by first | decide | omega) (by first | decide | omega) (by decide)
  have q106 : h91 (ra1 + 11) 2 = h84 (ra1 + 11) 2 := jK 0 f93 (rg_T11_2_0_1 ta1) (by first | decide | omega) (by first | decide | omega) (by decide)
  have q107 : h84 (ra1 + 11) 2 = h74 (ra1 + 11) 2 := jK 0 f86 (rg_T11_2_0_1 ta1) (by first | decide | omega) (by first | decide | omega) (by decide)
  have q108 : h74 (ra1 + 11) 2 = h59 (ra1 + 11) 2 := by rw [← e76]; exact x_up_k (tne_11_10 ta1)
  have q109 : h59 (ra1 + 11) 2 = h49 (ra1 + 11) 2 := jK 0 f61 (rg_T11_2_0_1 ta1) (by first | decide | omega) (by first | decide | omega) (by decide)
  have q110 : h49 (ra1 + 11) 2 = h36 (ra1 + 11) 2 := by rw [← e51]; exact x_up_k (tne_11_8 ta1)
  have q111 : h36 (ra1 + 11) 2 = h26 (ra1 + 11) 2 := jK 0 f38 (rg_T11_2_0_1 ta1) (by first | decide | omega) (by first | decide | omega) (by decide)
  have q112 : h26 (ra1 + 11) 2 = h15 (ra1 + 11) 2 := by rw [← e28]; exact x_up_k (tne_11_6 ta1)
  have q113 : h15 (ra1 + 11) 2 = h5 (ra1 + 11) 2 := jK 0 f17 (rg_T11_2_0_1 ta1) (by first | decide | omega) (by first | decide | omega) (by decide)
  have q114 : h5 (ra1 + 11) 2 = h (ra1 + 11) 2 := by rw [← e7]; exact x_up_k (tne_11_4 ta1)
  have b115 := jB (e := 2) 0 hJ (rg_T11_2_0_1 ta1) (by first | decide | omega) (by first | decide | omega)
  refine x_getC (np := 5) (x := 130) (f := 2) (q := (h (ra1 + 11) 2)) (by decide +kernel) (by decide) (tg_11_130_2_0 ta1) (((((((((q105.trans q106).trans q107).trans q108).trans q109).trans q110).trans q111).trans q112).trans q113).trans q114) (fun l116 => ?_)
  refine x_putI (np := 8) (x := 130) (f := 2) (by decide +kernel) (by decide +kernel) l116 (Or.inl (by decide)) ?_
  have j118 := jU (e := 2) (v := (h (ra1 + 11) 2)) 0 j99 rg_14_2_0_1 (by first | decide | omega) (by first | decide | omega) (by first | decide | omega)
  have f120 := jF (e := 2) (v := (h (ra1 + 11) 2)) 0 f102 rg_14_2_0_1 (by first | decide | omega) (by first | decide | omega) (by decide)
  generalize e119 : x_up h98 14 2 (h (ra1 + 11) 2) = h117 at j118 f120 ⊢
  refine x_aload (np := 9) (x := 0) (by decide +kernel) rfl (x_nc_le (by decide)) ?_
  refine x_aload (np := 10) (x := 1) (by decide +kernel) rfl (x_nc_le (tn_11 ta1)) ?_
  have q121 : h117 (ra1 + 11) 3 = h98 (ra1 + 11) 3 := by rw [← e119]; exact x_up_k (tne_11_14 ta1)
  have q122 : h98 (ra1 + 11) 3 = h91 (ra1 + 11) 3 := jK 0 f100 (rg_T11_3_0_1 ta1) (by first | decide | omega) (by first | decide | omega) (by decide)
  have q123 : h91 (ra1 + 11) 3 = h84 (ra1 + 11) 3 := jK 0 f93 (rg_T11_3_0_1 ta1) (by first | decide | omega) (by first | decide | omega) (by decide)
  have q124 : h84 (ra1 + 11) 3 = h74 (ra1 + 11) 3 := jK 0 f86 (rg_T11_3_0_1 ta1) (by first | decide | omega) (by first | decide | omega) (by decide)
  have q125 : h74 (ra1 + 11) 3 = h59 (ra1 + 11) 3 := by rw [← e76]; exact x_up_k (tne_11_10 ta1)
  have q126 : h59 (ra1 + 11) 3 = h49 (ra1 + 11) 3 := jK 0 f61 (rg_T11_3_0_1 ta1) (by first | decide | omega) (by first | decide | omega) (by decide)
  have q127 : h49 (ra1 + 11) 3 = h36 (ra1 + 11) 3 := by rw [← e51]; exact x_up_k (tne_11_8 ta1)
  have q128 : h36 (ra1 + 11) 3 = h26 (ra1 + 11) 3 := jK 0 f38 (rg_T11_3_0_1 ta1) (by first | decide | omega) (by first | decide | omega) (by decide)
  have q129 : h26 (ra1 + 11) 3 = h15 (ra1 + 11) 3 := by rw [← e28]; exact x_up_k (tne_11_6 ta1)
  have q130 : h15 (ra1 + 11) 3 = h5 (ra1 + 11) 3 := jK 0 f17 (rg_T11_3_0_1 ta1) (by first | decide | omega) (by first | decide | omega) (by decide)
  have q131 : h5 (ra1 + 11) 3 = h (ra1 + 11) 3 := by rw [← e7]; exact x_up_k (tne_11_4 ta1)
  refine x_getC (np := 13) (x := 131) (f := 3) (q := (h (ra1 + 11) 3)) (by decide +kernel) (by decide) (tg_11_131_3_0 ta1) ((((((((((q121.trans q122).trans q123).trans q124).trans q125).trans q126).trans q127).trans q128).trans q129).trans q130).trans q131) (fun l132 => ?_)
  refine x_putI (np := 16) (x := 131) (f := 3) (by decide +kernel) (by decide +kernel) l132 (Or.inl (by decide)) ?_
  have j134 := jU (e := 3) (v := (h (ra1 + 11) 3)) 0 j118 rg_14_3_0_1 (by first | decide | omega) (by first | decide | omega) (by first | decide | omega)
  have f136 := jF (e := 3) (v := (h (ra1 + 11) 3)) 0 f120 rg_14_3_0_1 (by first | decide | omega) (by first | decide | omega) (by decide)
  generalize e135 : x_up h117 14 3 (h (ra1 + 11) 3) = h133 at j134 f136 ⊢
  refine x_aload (np := 17) (x := 1) (by decide +kernel) rfl (x_nc_le (tn_11 ta1)) ?_
  have q137 : h133 (ra1 + 11) 0 = (ra1 + 12) := tf_11_0 j134 ta1
  refine x_getR (np := 20) (x := 128) (f := 0) (q := (ra1 + 12)) (by decide +kernel) (by decide) (tg_11_128_0_1 ta1) q137 ?_
  refine x_const (np := 21) (x := 9223372039002259456) (a := 2147483648) (by decide +kernel) (by decide) (by decide) ?_
  refine x_aload (np := 22) (x := 0) (by decide +kernel) rfl (x_nc_le (by decide)) ?_
  have q138 : h133 14 0 = 15 := by have z := jB (e := 0) 0 j134 rg_14_0_0_1 (by decide) (by decide); omega
  refine x_getR (np := 25) (x := 128) (f := 0) (q := 15) (by decide +kernel) (by decide) (by decide +kernel) q138 ?_
  refine x_const (np := 26) (x := 9223372039002259456) (a := 2147483648) (by decide +kernel) (by decide) (by decide) ?_
  refine x_const (np := 29) (x := 9223373756989178256) (a := 2147484048) (by decide +kernel) (by decide) (by decide) ?_
  refine x_copy (np := 32) (q := 15) (r := (ra1 + 12)) (N := 400) (nq := 400) (nr := 400) (n8 := 0) (by decide +kernel) (ta_12_400 ta1) (by decide +kernel) (by decide) (by decide) (by decide) (by decide) x_wn (by decide) ?_
  have j140 := J_cp (q := 15) (r := (ra1 + 12)) (N := 400) j134 (tn_12 ta1) (ctb_15_T12_400 ta1).1 (ctb_15_T12_400 ta1).2.1 (ctb_15_T12_400 ta1).2.2
  have f141 := Fr_cp (q := 15) (r := (ra1 + 12)) (N := 400) (Fr.refl 256 h133) (fun i _ => show Nat.testBit 256 8 = true by decide)
  generalize e142 : x_cp h133 15 (ra1 + 12) 400 = h139 at j140 f141 ⊢
  have f143 := Fr.trans f136 f141 (by decide)
  refine x_retV (np := 33) (x := 0) (by decide +kernel) (by decide +kernel) ⟨rfl, ?_⟩
  refine x_aload (np := 86) (x := 0) (by decide +kernel) rfl (x_nc_le (by decide)) ?_
  refine x_aload (np := 87) (x := 1) (by decide +kernel) rfl (x_nc_le (tn_0 ta1)) ?_
  have q144 : h139 ra1 7 = h133 ra1 7 := jK 0 f141 (rg_T0_7_0_1 ta1) (by first | decide | omega) (by first | decide | omega) (by decide)
  have q145 : h133 ra1 7 = h117 ra1 7 := by rw [← e135]; exact x_up_k (tne_0_14 ta1)
  have q146 : h117 ra1 7 = h98 ra1 7 := by rw [← e119]; exact x_up_k (tne_0_14 ta1)
  have q147 : h98 ra1 7 = h91 ra1 7 := jK 0 f100 (rg_T0_7_0_1 ta1) (by first | decide | omega) (by first | decide | omega) (by decide)
  have q148 : h91 ra1 7 = h84 ra1 7 := jK 0 f93 (rg_T0_7_0_1 ta1) (by first | decide | omega) (by first | decide | omega) (by decide)
  have q149 : h84 ra1 7 = h74 ra1 7 := jK 0 f86 (rg_T0_7_0_1 ta1) (by first | decide | omega) (by first | decide | omega) (by decide)
  have q150 : h74 ra1 7 = h59 ra1 7 := by rw [← e76]; exact x_up_k (tne_0_10 ta1)
  have q151 : h59 ra1 7 = h49 ra1 7 := jK 0 f61 (rg_T0_7_0_1 ta1) (by first | decide | omega) (by first | decide | omega) (by decide)
  have q152 : h49 ra1 7 = h36 ra1 7 := by rw [← e51]; exact x_up_k (tne_0_8 ta1)
  have q153 : h36 ra1 7 = h26 ra1 7 := jK 0 f38 (rg_T0_7_0_1 ta1) (by first | decide | omega) (by first | decide | omega) (by decide)
  have q154 : h26 ra1 7 = h15 ra1 7 := by rw [← e28]; exact x_up_k (tne_0_6 ta1)
  have q155 : h15 ra1 7 = h5 ra1 7 := jK 0 f17 (rg_T0_7_0_1 ta1) (by first | decide | omega) (by first | decide | omega) (by decide)
  have q156 : h5 ra1 7 = h ra1 7 := by rw [← e7]; exact x_up_k (tne_0_4 ta1)
  have b157 := jB (e := 7) 0 hJ (rg_T0_7_0_1 ta1) (by first | decide | omega) (by first | decide | omega)
  refine x_getC (np := 90) (x := 519) (f := 7) (q := (h ra1 7)) (by decide +kernel) (by decide) (tg_0_519_7_0 ta1) ((((((((((((q144.trans q145).trans q146).trans q147).trans q148).trans q149).trans q150).trans q151).trans q152).trans q153).trans q154).trans q155).trans q156) (fun l158 => ?_)
  refine x_putI (np := 93) (x := 519) (f := 7) (by decide +kernel) (by decide +kernel) l158 (Or.inl (by decide)) ?_
  have j160 := jU (e := 7) (v := (h ra1 7)) 0 j140 rg_3_7_0_1 (by first | decide | omega) (by first | decide | omega) (by first | decide | omega)
  have f162 := jF (e := 7) (v := (h ra1 7)) 0 f143 rg_3_7_0_1 (by first | decide | omega) (by first | decide | omega) (by decide)
  generalize e161 : x_up h139 3 7 (h ra1 7) = h159 at j160 f162 ⊢
  refine x_aload (np := 94) (x := 0) (by decide +kernel) rfl (x_nc_le (by decide)) ?_
  refine x_aload (np := 95) (x := 1) (by decide +kernel) rfl (x_nc_le (tn_0 ta1)) ?_
  have q163 : h159 ra1 8 = h139 ra1 8 := by rw [← e161]; exact x_up_k (tne_0_3 ta1)
  have q164 : h139 ra1 8 = h133 ra1 8 := jK 0 f141 (rg_T0_8_0_1 ta1) (by first | decide | omega) (by first | decide | omega) (by decide)
  have q165 : h133 ra1 8 = h117 ra1 8 := by rw [← e135]; exact x_up_k (tne_0_14 ta1)
  have q166 : h117 ra1 8 = h98 ra1 8 := by rw [← e119]; exact x_up_k (tne_0_14 ta1)
  have q167 : h98 ra1 8 = h91 ra1 8 := jK 0 f100 (rg_T0_8_0_1 ta1) (by first | decide | omega) (by first | decide | omega) (by decide)
  have q168 : h91 ra1 8 = h84 ra1 8 := jK 0 f93 (rg_T0_8_0_1 ta1) (by first | decide | omega) (by first | decide | omega) (by decide)
  have q169 : h84 ra1 8 = h74 ra1 8 := jK 0 f86 (rg_T0_8_0_1 ta1) (by first | decide | omega) (by first | decide | omega) (by decide)
  have q170 : h74 ra1 8 = h59 ra1 8 := by rw [← e76]; exact x_up_k (tne_0_10 ta1)
  have q171 : h59 ra1 8 = h49 ra1 8 := jK 0 f61 (rg_T0_8_0_1 ta1) (by first | decide | omega) (by first | decide | omega) (by decide)
  have q172 : h49 ra1 8 = h36 ra1 8 := by rw [← e51]; exact x_up_k (tne_0_8 ta1)
  have q173 : h36 ra1 8 = h26 ra1 8 := jK 0 f38 (rg_T0_8_0_1 ta1) (by first | decide | omega) (by first | decide | omega) (by decide)
  have q174 : h26 ra1 8 = h15 ra1 8 := by rw [← e28]; exact x_up_k (tne_0_6 ta1)
  have q175 : h15 ra1 8 = h5 ra1 8 := jK 0 f17 (rg_T0_8_0_1 ta1) (by first | decide | omega) (by first | decide | omega) (by decide)
  have q176 : h5 ra1 8 = h ra1 8 := by rw [← e7]; exact x_up_k (tne_0_4 ta1)
  refine x_getC (np := 98) (x := 520) (f := 8) (q := (h ra1 8)) (by decide +kernel) (by decide) (tg_0_520_8_0 ta1) (((((((((((((q163.trans q164).trans q165).trans q166).trans q167).trans q168).trans q169).trans q170).trans q171).trans q172).trans q173).trans q174).trans q175).trans q176) (fun l177 => ?_)
  refine x_putI (np := 101) (x := 520) (f := 8) (by decide +kernel) (by decide +kernel) l177 (Or.inl (by decide)) ?_
  have j179 := jU (e := 8) (v := (h ra1 8)) 0 j160 rg_3_8_0_1 (by first | decide | omega) (by first | decide | omega) (by first | decide | omega)
  have f181 := jF (e := 8) (v := (h ra1 8)) 0 f162 rg_3_8_0_1 (by first | decide | omega) (by first | decide | omega) (by decide)
  generalize e180 : x_up h159 3 8 (h ra1 8) = h178 at j179 f181 ⊢
  refine x_aload (np := 102) (x := 0) (by decide +kernel) rfl (x_nc_le (by decide)) ?_
  refine x_aload (np := 103) (x := 1) (by decide +kernel) rfl (x_nc_le (tn_0 ta1)) ?_
  have q182 : h178 ra1 9 = h159 ra1 9 := by rw [← e180]; exact x_up_k (tne_0_3 ta1)
  have q183 : h159 ra1 9 = h139 ra1 9 := by rw [← e161]; exact x_up_k (tne_0_3 ta1)
  have q184 : h139 ra1 9 = h133 ra1 9 := jK 0 f141 (rg_T0_9_0_1 ta1) (by first | decide | omega) (by first | decide | omega) (by decide)
  have q185 : h133 ra1 9 = h117 ra1 9 := by rw [← e135]; exact x_up_k (tne_0_14 ta1)
  have q186 : h117 ra1 9 = h98 ra1 9 := by rw [← e119]; exact x_up_k (tne_0_14 ta1)
  have q187 : h98 ra1 9 = h91 ra1 9 := jK 0 f100 (rg_T0_9_0_1 ta1) (by first | decide | omega) (by first | decide | omega) (by decide)
  have q188 : h91 ra1 9 = h84 ra1 9 := jK 0 f93 (rg_T0_9_0_1 ta1) (by first | decide | omega) (by first | decide | omega) (by decide)
  have q189 : h84 ra1 9 = h74 ra1 9 := jK 0 f86 (rg_T0_9_0_1 ta1) (by first | decide | omega) (by first | decide | omega) (by decide)
  have q190 : h74 ra1 9 = h59 ra1 9 := by rw [← e76]; exact x_up_k (tne_0_10 ta1)
  have q191 : h59 ra1 9 = h49 ra1 9 := jK 0 f61 (rg_T0_9_0_1 ta1) (by first | decide | omega) (by first | decide | omega) (by decide)
  have q192 : h49 ra1 9 = h36 ra1 9 := by rw [← e51]; exact x_up_k (tne_0_8 ta1)
  have q193 : h36 ra1 9 = h26 ra1 9 := jK 0 f38 (rg_T0_9_0_1 ta1) (by first | decide | omega) (by first | decide | omega) (by decide)
  have q194 : h26 ra1 9 = h15 ra1 9 := by rw [← e28]; exact x_up_k (tne_0_6 ta1)
  have q195 : h15 ra1 9 = h5 ra1 9 := jK 0 f17 (rg_T0_9_0_1 ta1) (by first | decide | omega) (by first | decide | omega) (by decide)
  have q196 : h5 ra1 9 = h ra1 9 := by rw [← e7]; exact x_up_k (tne_0_4 ta1)
  refine x_getC (np := 106) (x := 521) (f := 9) (q := (h ra1 9)) (by decide +kernel) (by decide) (tg_0_521_9_0 ta1) ((((((((((((((q182.trans q183).trans q184).trans q185).trans q186).trans q187).trans q188).trans q189).trans q190).trans q191).trans q192).trans q193).trans q194).trans q195).trans q196) (fun l197 => ?_)
  refine x_putI (np := 109) (x := 521) (f := 9) (by decide +kernel) (by decide +kernel) l197 (Or.inl (by decide)) ?_
  have j199 := jU (e := 9) (v := (h ra1 9)) 0 j179 rg_3_9_0_1 (by first | decide | omega) (by first | decide | omega) (by first | decide | omega)
  have f201 := jF (e := 9) (v := (h ra1 9)) 0 f181 rg_3_9_0_1 (by first | decide | omega) (by first | decide | omega) (by decide)
  generalize e200 : x_up h178 3 9 (h ra1 9) = h198 at j199 f201 ⊢
  have q202 : h198 3 7 = h178 3 7 := by rw [← e200]; exact x_up_i (by first | decide | omega)
  have q203 : h178 3 7 = h159 3 7 := by rw [← e180]; exact x_up_i (by first | decide | omega)
  have q204 : h159 3 7 = (h ra1 7) := by rw [← e161]; exact x_up_at
  have q205 : h198 3 8 = h178 3 8 := by rw [← e200]; exact x_up_i (by first | decide | omega)
  have q206 : h178 3 8 = (h ra1 8) := by rw [← e180]; exact x_up_at
  have q207 : h198 4 2 = h178 4 2 := by rw [← e200]; exact x_up_k (by decide)
  have q208 : h178 4 2 = h159 4 2 := by rw [← e180]; exact x_up_k (by decide)
  have q209 : h159 4 2 = h139 4 2 := by rw [← e161]; exact x_up_k (by decide)
  have q210 : h139 4 2 = h133 4 2 := jK 0 f141 rg_4_2_0_1 (by first | decide | omega) (by first | decide | omega) (by decide)
  have q211 : h133 4 2 = h117 4 2 := by rw [← e135]; exact x_up_k (by decide)
  have q212 : h117 4 2 = h98 4 2 := by rw [← e119]; exact x_up_k (by decide)
  have q213 : h98 4 2 = h91 4 2 := jK 0 f100 rg_4_2_0_1 (by first | decide | omega) (by first | decide | omega) (by decide)
  have q214 : h91 4 2 = h84 4 2 := jK 0 f93 rg_4_2_0_1 (by first | decide | omega) (by first | decide | omega) (by decide)
  have q215 : h84 4 2 = h74 4 2 := jK 0 f86 rg_4_2_0_1 (by first | decide | omega) (by first | decide | omega) (by decide)
  have q216 : h74 4 2 = h59 4 2 := by rw [← e76]; exact x_up_k (by decide)
  have q217 : h59 4 2 = h49 4 2 := jK 0 f61 rg_4_2_0_1 (by first | decide | omega) (by first | decide | omega) (by decide)
  have q218 : h49 4 2 = h36 4 2 := by rw [← e51]; exact x_up_k (by decide)
  have q219 : h36 4 2 = h26 4 2 := jK 0 f38 rg_4_2_0_1 (by first | decide | omega) (by first | decide | omega) (by decide)
  have q220 : h26 4 2 = h15 4 2 := by rw [← e28]; exact x_up_k (by decide)
  have q221 : h15 4 2 = h5 4 2 := jK 0 f17 rg_4_2_0_1 (by first | decide | omega) (by first | decide | omega) (by decide)
  have q222 : h5 4 2 = (h (ra1 + 1) 2) := by rw [← e7]; exact x_up_at
  have q223 : h198 6 2 = h178 6 2 := by rw [← e200]; exact x_up_k (by decide)
  have q224 : h178 6 2 = h159 6 2 := by rw [← e180]; exact x_up_k (by decide)
  have q225 : h159 6 2 = h139 6 2 := by rw [← e161]; exact x_up_k (by decide)
  have q226 : h139 6 2 = h133 6 2 := jK 0 f141 rg_6_2_0_1 (by first | decide | omega) (by first | decide | omega) (by decide)
  have q227 : h133 6 2 = h117 6 2 := by rw [← e135]; exact x_up_k (by decide)
  have q228 : h117 6 2 = h98 6 2 := by rw [← e119]; exact x_up_k (by decide)
  have q229 : h98 6 2 = h91 6 2 := jK 0 f100 rg_6_2_0_1 (by first | decide | omega) (by first | decide | omega) (by decide)
  have q230 : h91 6 2 = h84 6 2 := jK 0 f93 rg_6_2_0_1 (by first | decide | omega) (by first | decide | omega) (by decide)
  have q231 : h84 6 2 = h74 6 2 := jK 0 f86 rg_6_2_0_1 (by first | decide | omega) (by first | decide | omega) (by decide)
  have q232 : h74 6 2 = h59 6 2 := by rw [← e76]; exact x_up_k (by decide)
  have q233 : h59 6 2 = h49 6 2 := jK 0 f61 rg_6_2_0_1 (by first | decide | omega) (by first | decide | omega) (by decide)
  have q234 : h49 6 2 = h36 6 2 := by rw [← e51]; exact x_up_k (by decide)
  have q235 : h36 6 2 = h26 6 2 := jK 0 f38 rg_6_2_0_1 (by first | decide | omega) (by first | decide | omega) (by decide)
  have q236 : h26 6 2 = (h (ra1 + 3) 2) := by rw [← e28]; exact x_up_at
  have q237 : h198 8 2 = h178 8 2 := by rw [← e200]; exact x_up_k (by decide)
  have q238 : h178 8 2 = h159 8 2 := by rw [← e180]; exact x_up_k (by decide)
  have q239 : h159 8 2 = h139 8 2 := by rw [← e161]; exact x_up_k (by decide)
  have q240 : h139 8 2 = h133 8 2 := jK 0 f141 rg_8_2_0_1 (by first | decide | omega) (by first | decide | omega) (by decide)
  have q241 : h133 8 2 = h117 8 2 := by rw [← e135]; exact x_up_k (by decide)
  have q242 : h117 8 2 = h98 8 2 := by rw [← e119]; exact x_up_k (by decide)
  have q243 : h98 8 2 = h91 8 2 := jK 0 f100 rg_8_2_0_1 (by first | decide | omega) (by first | decide | omega) (by decide)
  have q244 : h91 8 2 = h84 8 2 := jK 0 f93 rg_8_2_0_1 (by first | decide | omega) (by first | decide | omega) (by decide)
  have q245 : h84 8 2 = h74 8 2 := jK 0 f86 rg_8_2_0_1 (by first | decide | omega) (by first | decide | omega) (by decide)
  have q246 : h74 8 2 = h59 8 2 := by rw [← e76]; exact x_up_k (by decide)
  have q247 : h59 8 2 = h49 8 2 := jK 0 f61 rg_8_2_0_1 (by first | decide | omega) (by first | decide | omega) (by decide)
  have q248 : h49 8 2 = (h (ra1 + 5) 2) := by rw [← e51]; exact x_up_at
  have q249 : h198 10 2 = h178 10 2 := by rw [← e200]; exact x_up_k (by decide)
  have q250 : h178 10 2 = h159 10 2 := by rw [← e180]; exact x_up_k (by decide)
  have q251 : h159 10 2 = h139 10 2 := by rw [← e161]; exact x_up_k (by decide)
  have q252 : h139 10 2 = h133 10 2 := jK 0 f141 rg_10_2_0_1 (by first | decide | omega) (by first | decide | omega) (by decide)
  have q253 : h133 10 2 = h117 10 2 := by rw [← e135]; exact x_up_k (by decide)
  have q254 : h117 10 2 = h98 10 2 := by rw [← e119]; exact x_up_k (by decide)
  have q255 : h98 10 2 = h91 10 2 := jK 0 f100 rg_10_2_0_1 (by first | decide | omega) (by first | decide | omega) (by decide)
  have q256 : h91 10 2 = h84 10 2 := jK 0 f93 rg_10_2_0_1 (by first | decide | omega) (by first | decide | omega) (by decide)
  have q257 : h84 10 2 = h74 10 2 := jK 0 f86 rg_10_2_0_1 (by first | decide | omega) (by first | decide | omega) (by decide)
  have q258 : h74 10 2 = (h (ra1 + 7) 2) := by rw [← e76]; exact x_up_at
  refine x_retV (np := 110) (x := 0) (by decide +kernel) (by decide +kernel) ⟨rfl, ?_⟩
  exact ⟨j199, f201, (by first | decide | omega), (by first | decide | omega), (by first | decide | omega), (by first | decide | omega), (by first | decide | omega), (by first | decide | omega)⟩
