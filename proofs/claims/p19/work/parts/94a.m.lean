/-! ===== tables of regions, methods ===== -/
theorem rg_76_1122_3_10 : rgn 76 1122 3 10 0 4294967295 26 := by
  unfold rgn j_nt
  decide +kernel
theorem rg_76_1123_3_10 : rgn 76 1123 3 10 2147483648 2147484048 26 := by
  unfold rgn j_nt
  decide +kernel
theorem rg_75_10_0_1 : rgn 75 10 0 1 2147483648 2147483654 23 := by
  unfold rgn j_nt
  decide +kernel
theorem rg_76_1124_3_10 : rgn 76 1124 3 10 2147483648 2147484048 26 := by
  unfold rgn j_nt
  decide +kernel
theorem rg_76_1152_2_394 : rgn 76 1152 2 394 2147483647 2147483662 26 := by
  unfold rgn j_nt
  decide +kernel
theorem rg_76_1153_2_394 : rgn 76 1153 2 394 0 4294967295 26 := by
  unfold rgn j_nt
  decide +kernel
theorem rg_76_1152_2_395 : rgn 76 1152 2 395 2147483647 2147483662 26 := by
  unfold rgn j_nt
  decide +kernel
theorem rg_76_1153_2_395 : rgn 76 1153 2 395 0 4294967295 26 := by
  unfold rgn j_nt
  decide +kernel
theorem rg_76_1152_2_391 : rgn 76 1152 2 391 2147483647 2147483662 26 := by
  unfold rgn j_nt
  decide +kernel
theorem rg_76_1153_2_391 : rgn 76 1153 2 391 0 4294967295 26 := by
  unfold rgn j_nt
  decide +kernel
theorem rg_76_1152_2_392 : rgn 76 1152 2 392 2147483647 2147483662 26 := by
  unfold rgn j_nt
  decide +kernel
theorem rg_76_1153_2_392 : rgn 76 1153 2 392 0 4294967295 26 := by
  unfold rgn j_nt
  decide +kernel
theorem rg_76_1152_2_390 : rgn 76 1152 2 390 2147483647 2147483662 26 := by
  unfold rgn j_nt
  decide +kernel
theorem rg_76_1153_2_390 : rgn 76 1153 2 390 0 4294967295 26 := by
  unfold rgn j_nt
  decide +kernel
theorem rg_76_1152_2_393 : rgn 76 1152 2 393 2147483647 2147483662 26 := by
  unfold rgn j_nt
  decide +kernel
theorem rg_76_1153_2_393 : rgn 76 1153 2 393 0 4294967295 26 := by
  unfold rgn j_nt
  decide +kernel
theorem rg_76_1152_2_396 : rgn 76 1152 2 396 2147483647 2147483662 26 := by
  unfold rgn j_nt
  decide +kernel
theorem rg_76_1153_2_396 : rgn 76 1153 2 396 0 4294967295 26 := by
  unfold rgn j_nt
  decide +kernel
theorem rg_76_1121_0_1 : rgn 76 1121 0 1 2147483648 2147483658 26 := by
  unfold rgn j_nt
  decide +kernel
theorem rg_76_1121_1_1 : rgn 76 1121 1 1 2147483648 2147483658 26 := by
  unfold rgn j_nt
  decide +kernel
theorem rg_76_290_1_1 : rgn 76 290 1 1 2147483648 2147483658 25 := by
  unfold rgn j_nt
  decide +kernel
theorem rg_78_5_0_1 : rgn 78 5 0 1 2147483648 2147483658 28 := by
  unfold rgn j_nt
  decide +kernel
theorem rg_78_250_4_10 : rgn 78 250 4 10 2147483647 2147483653 28 := by
  unfold rgn j_nt
  decide +kernel
theorem rg_78_251_4_10 : rgn 78 251 4 10 2147483647 2147483659 28 := by
  unfold rgn j_nt
  decide +kernel
theorem rg_78_252_4_10 : rgn 78 252 4 10 0 4294967295 28 := by
  unfold rgn j_nt
  decide +kernel
theorem rg_78_253_4_10 : rgn 78 253 4 10 0 4294967295 28 := by
  unfold rgn j_nt
  decide +kernel
theorem rg_78_4_0_1 : rgn 78 4 0 1 2147483648 2147483658 28 := by
  unfold rgn j_nt
  decide +kernel
theorem rg_78_200_5_10 : rgn 78 200 5 10 0 4294967295 28 := by
  unfold rgn j_nt
  decide +kernel
theorem rg_78_201_5_10 : rgn 78 201 5 10 2147483647 2147483653 28 := by
  unfold rgn j_nt
  decide +kernel
theorem rg_78_202_5_10 : rgn 78 202 5 10 0 4294967295 28 := by
  unfold rgn j_nt
  decide +kernel
theorem rg_78_203_5_10 : rgn 78 203 5 10 2147483647 2147483659 28 := by
  unfold rgn j_nt
  decide +kernel
theorem rg_78_204_5_10 : rgn 78 204 5 10 0 4294967295 28 := by
  unfold rgn j_nt
  decide +kernel
theorem rg_76_202_5_10 : rgn 76 202 5 10 0 4294967295 25 := by
  unfold rgn j_nt
  decide +kernel
theorem rg_78_3_0_1 : rgn 78 3 0 1 2147483648 2147483658 28 := by
  unfold rgn j_nt
  decide +kernel
theorem rg_78_160_4_10 : rgn 78 160 4 10 2147483647 2147483653 28 := by
  unfold rgn j_nt
  decide +kernel
theorem rg_78_161_4_10 : rgn 78 161 4 10 2147483647 2147483659 28 := by
  unfold rgn j_nt
  decide +kernel
theorem rg_78_162_4_10 : rgn 78 162 4 10 2147483647 2147483659 28 := by
  unfold rgn j_nt
  decide +kernel
theorem rg_78_163_4_10 : rgn 78 163 4 10 0 4294967295 28 := by
  unfold rgn j_nt
  decide +kernel
theorem rg_78_7_0_1 : rgn 78 7 0 1 0 4294967295 28 := by
  unfold rgn j_nt
  decide +kernel
theorem rg_78_8_1_6 : rgn 78 8 1 6 0 4294967295 28 := by
  unfold rgn j_nt
  decide +kernel
theorem rg_78_2_0_1 : rgn 78 2 0 1 2147483648 2147483668 28 := by
  unfold rgn j_nt
  decide +kernel
theorem rg_78_26_7_20 : rgn 78 26 7 20 0 4294967295 28 := by
  unfold rgn j_nt
  decide +kernel
theorem rg_78_20_7_20 : rgn 78 20 7 20 2147483647 2147483653 28 := by
  unfold rgn j_nt
  decide +kernel
theorem rg_78_21_7_20 : rgn 78 21 7 20 2147483647 2147483653 28 := by
  unfold rgn j_nt
  decide +kernel
theorem rg_78_22_7_20 : rgn 78 22 7 20 0 4294967295 28 := by
  unfold rgn j_nt
  decide +kernel
theorem rg_78_23_7_20 : rgn 78 23 7 20 0 4294967295 28 := by
  unfold rgn j_nt
  decide +kernel
theorem rg_78_24_7_20 : rgn 78 24 7 20 0 4294967295 28 := by
  unfold rgn j_nt
  decide +kernel
theorem rg_78_25_7_20 : rgn 78 25 7 20 0 4294967295 28 := by
  unfold rgn j_nt
  decide +kernel
theorem cw_76_290_76_1121_2 : cwn 76 290 76 1121 2 25 := by
  unfold cwn j_nt
  decide +kernel
theorem cw_76_290_76_1121_3 : cwn 76 290 76 1121 3 25 := by
  unfold cwn j_nt
  decide +kernel
theorem cw_76_290_76_1121_5 : cwn 76 290 76 1121 5 25 := by
  unfold cwn j_nt
  decide +kernel
theorem cw_76_290_76_1121_6 : cwn 76 290 76 1121 6 25 := by
  unfold cwn j_nt
  decide +kernel
theorem cw_76_290_76_1121_7 : cwn 76 290 76 1121 7 25 := by
  unfold cwn j_nt
  decide +kernel
theorem cw_76_290_76_1121_8 : cwn 76 290 76 1121 8 25 := by
  unfold cwn j_nt
  decide +kernel
theorem cw_76_290_76_1121_10 : cwn 76 290 76 1121 10 25 := by
  unfold cwn j_nt
  decide +kernel
theorem cw_76_290_76_1121_11 : cwn 76 290 76 1121 11 25 := by
  unfold cwn j_nt
  decide +kernel
theorem cw_76_290_76_1121_12 : cwn 76 290 76 1121 12 25 := by
  unfold cwn j_nt
  decide +kernel
theorem cw_76_290_76_1121_13 : cwn 76 290 76 1121 13 25 := by
  unfold cwn j_nt
  decide +kernel
theorem cw_76_290_76_1121_14 : cwn 76 290 76 1121 14 25 := by
  unfold cwn j_nt
  decide +kernel
theorem cw_76_290_76_1121_15 : cwn 76 290 76 1121 15 25 := by
  unfold cwn j_nt
  decide +kernel
theorem cw_76_290_76_1121_20 : cwn 76 290 76 1121 20 25 := by
  unfold cwn j_nt
  decide +kernel
theorem cw_76_290_76_1121_21 : cwn 76 290 76 1121 21 25 := by
  unfold cwn j_nt
  decide +kernel
theorem cw_76_290_76_1121_22 : cwn 76 290 76 1121 22 25 := by
  unfold cwn j_nt
  decide +kernel
theorem cw_76_290_76_1121_36 : cwn 76 290 76 1121 36 25 := by
  unfold cwn j_nt
  decide +kernel
theorem cw_76_290_76_1121_72 : cwn 76 290 76 1121 72 25 := by
  unfold cwn j_nt
  decide +kernel
theorem cw_76_290_76_1121_106 : cwn 76 290 76 1121 106 25 := by
  unfold cwn j_nt
  decide +kernel
theorem cw_76_290_76_1121_141 : cwn 76 290 76 1121 141 25 := by
  unfold cwn j_nt
  decide +kernel
theorem cw_76_290_76_1121_291 : cwn 76 290 76 1121 291 25 := by
  unfold cwn j_nt
  decide +kernel
theorem cw_76_290_76_1121_400 : cwn 76 290 76 1121 400 25 := by
  unfold cwn j_nt
  decide +kernel
theorem cw_76_290_76_1121_401 : cwn 76 290 76 1121 401 25 := by
  unfold cwn j_nt
  decide +kernel
theorem cw_76_290_76_1121_831 : cwn 76 290 76 1121 831 25 := by
  unfold cwn j_nt
  decide +kernel
set_option maxHeartbeats 0 in
/-- LentNamesModel.blanks()V -/
theorem c168_75 {sc : Nat × Nat} {d  : Nat} {h : xh} (hJ : J h) : X sc 168 (d + 1) (xV fun h' => J h' ∧ Fr 5242881 h h' ∧ (h 75 7 + 0 ≤ h' 75 7) ∧ (h' 75 9 = h' 75 7)) 0 0 0 [x_r 75] [] h := by
  have hF := Fr.refl 5242881 h
  have p76 : ∀ (n : Nat) (h73 : xh), 4294967296 - h73 75 7 < n → h 75 7 ≤ h73 75 7 → J h73 → Fr 1048576 h h73 → X sc 168 (d + 1) (xV fun h' => J h' ∧ Fr 5242881 h h' ∧ (h 75 7 + 0 ≤ h' 75 7) ∧ (h' 75 9 = h' 75 7)) 0 0 0 [x_r 75] [] h73 := by
    intro n
    induction n with
    | zero => intro h73 q78; exact absurd q78 (Nat.not_lt_zero _)
    | succ n i79 =>
      intro h73 q78 b77 j75 f74
      have f80 := Fr.trans hF f74 (by decide)
      refine x_aload (np := 1) (x := 0) (by decide +kernel) rfl (x_nc_le (by decide)) ?_
      refine x_const (np := 3) (x := 9223372176441212960) (a := 2147483680) (by decide +kernel) (by decide) (by decide) ?_
      refine x_const (np := 5) (x := 9223372176441212960) (a := 2147483680) (by decide +kernel) (by decide) (by decide) ?_
      refine x_nI (t := 6) (mj := 167) (n := 3) (rc := 12) (ml := 3) (nr := 0) (np := 8) (as := [x_r 75, iv_c 2147483680, iv_c 2147483680]) (rest := []) (lo1 := [x_r 75, iv_c 2147483680, iv_c 2147483680]) (by decide +kernel) (by decide) (by decide +kernel) (x_rb_of (by decide +kernel)) rfl rfl (x_wr (by decide) (x_wi (by decide) (x_wi (by decide) x_wn))) x_wn (by decide) rfl ?_
      refine x_aload (np := 1) (x := 0) (by decide +kernel) rfl (x_nc_le (by decide)) ?_
      have b81 := jB (e := 7) 0 j75 rg_75_7_0_1 (by omega) (by omega)
      refine x_getC (np := 4) (x := 711) (f := 7) (q := (h73 75 7)) (by decide +kernel) (by decide) (by decide +kernel) rfl (fun l82 => ?_)
      refine x_aload (np := 5) (x := 0) (by decide +kernel) rfl (x_nc_le (by decide)) ?_
      have q83 : h73 75 8 = h 75 8 := jK 0 f74 rg_75_8_0_1 (by omega) (by omega) (by decide)
      have b84 := jB (e := 8) 0 hJ rg_75_8_0_1 (by omega) (by omega)
      refine x_getC (np := 8) (x := 712) (f := 8) (q := (h 75 8)) (by decide +kernel) (by decide) (by decide +kernel) q83 (fun l85 => ?_)
      refine x_icmp (k := 3) (tg := 41) (np := 11) (by decide +kernel) (by decide) l82 l85 (fun q86 => ?_) (fun q87 => ?_)
      · have q86 : (h 75 8) ≤ (h73 75 7) := q86
        refine x_const (np := 42) (x := 9223372039002259456) (a := 2147483648) (by decide +kernel) (by decide) (by decide) ?_
        refine x_retI (np := 43) (x := 0) (by decide +kernel) (by decide) (Or.inr ⟨by decide +kernel, by omega, by omega⟩) ⟨_, rfl, (by decide), ?_⟩
        refine x_ifz (k := 0) (tg := 24) (np := 11) (by decide +kernel) (by decide) (by decide) (fun q88 => ?_) (fun q89 => ?_)
        · have q88 : 2147483648 = 2147483648 := q88
          refine x_aload (np := 25) (x := 0) (by decide +kernel) rfl (x_nc_le (by decide)) ?_
          refine x_aload (np := 26) (x := 0) (by decide +kernel) rfl (x_nc_le (by decide)) ?_
          refine x_getC (np := 29) (x := 711) (f := 7) (q := (h73 75 7)) (by decide +kernel) (by decide) (by decide +kernel) rfl (fun l90 => ?_)
          refine x_putI (np := 32) (x := 713) (f := 9) (by decide +kernel) (by decide +kernel) l82 (Or.inl (by decide)) ?_
          have j92 := jU (e := 9) (v := (h73 75 7)) 0 j75 rg_75_9_0_1 (by omega) (by omega) (by omega)
          have f94 := jF (e := 9) (v := (h73 75 7)) 0 f80 rg_75_9_0_1 (by omega) (by omega) (by decide)
          generalize e93 : x_up h73 75 9 (h73 75 7) = h91 at j92 f94 ⊢
          have b95 := jB (e := 7) 0 hJ rg_75_7_0_1 (by omega) (by omega)
          have q96 : h91 75 7 = h73 75 7 := by rw [← e93]; exact x_up_i (by omega)
          have q97 : h91 75 7 = h73 75 7 := by rw [← e93]; exact x_up_i (by omega)
          have q98 : h91 75 9 = (h73 75 7) := by rw [← e93]; exact x_up_at
          refine x_retV (np := 33) (x := 0) (by decide +kernel) (by decide +kernel) ⟨rfl, ?_⟩
          exact ⟨j92, f94, (by omega), (by omega)⟩
        have q89 : ¬ (2147483648 = 2147483648) := q89
        exfalso; omega
      have q87 : ¬ ((h 75 8) ≤ (h73 75 7)) := q87
      refine x_aload (np := 12) (x := 0) (by decide +kernel) rfl (x_nc_le (by decide)) ?_
      have q99 : h73 75 5 = 79 := by have z := jB (e := 5) 0 j75 rg_75_5_0_1 (by decide) (by decide); omega
      refine x_getR (np := 15) (x := 709) (f := 5) (q := 79) (by decide +kernel) (by decide) (by decide +kernel) q99 ?_
      refine x_aload (np := 16) (x := 0) (by decide +kernel) rfl (x_nc_le (by decide)) ?_
      refine x_getC (np := 19) (x := 711) (f := 7) (q := (h73 75 7)) (by decide +kernel) (by decide) (by decide +kernel) rfl (fun l100 => ?_)
      obtain ⟨u101, q102⟩ : ∃ z, (h73 75 7) = 2147483648 + z := ⟨(h73 75 7) - 2147483648, by omega⟩
      have q103 : h73 79 u101 = h 79 u101 := jK u101 f74 rg_79_0_1_400 (by omega) (by omega) (by decide)
      have b104 := jB (e := u101) u101 hJ rg_79_0_1_400 (by omega) (by omega)
      refine x_baldC (np := 20) (x := 0) (n := 400) (i := u101) (q := (h 79 u101)) (by decide +kernel) (by decide +kernel) (by omega) (by omega) (by decide) q103 (fun l105 => ?_)
      refine x_iload (np := 21) (x := 1) (by decide +kernel) rfl (by decide) ?_
      refine x_icmp (k := 2) (tg := 41) (np := 24) (by decide +kernel) (by decide) l105 (by decide) (fun q106 => ?_) (fun q107 => ?_)
      · have q106 : (h 79 u101) < 2147483680 := q106
        refine x_const (np := 42) (x := 9223372039002259456) (a := 2147483648) (by decide +kernel) (by decide) (by decide) ?_
        refine x_retI (np := 43) (x := 0) (by decide +kernel) (by decide) (Or.inr ⟨by decide +kernel, by omega, by omega⟩) ⟨_, rfl, (by decide), ?_⟩
        refine x_ifz (k := 0) (tg := 24) (np := 11) (by decide +kernel) (by decide) (by decide) (fun q108 => ?_) (fun q109 => ?_)
        · have q108 : 2147483648 = 2147483648 := q108
          refine x_aload (np := 25) (x := 0) (by decide +kernel) rfl (x_nc_le (by decide)) ?_
          refine x_aload (np := 26) (x := 0) (by decide +kernel) rfl (x_nc_le (by decide)) ?_
          refine x_getC (np := 29) (x := 711) (f := 7) (q := (h73 75 7)) (by decide +kernel) (by decide) (by decide +kernel) rfl (fun l110 => ?_)
          refine x_putI (np := 32) (x := 713) (f := 9) (by decide +kernel) (by decide +kernel) l82 (Or.inl (by decide)) ?_
          have j112 := jU (e := 9) (v := (h73 75 7)) 0 j75 rg_75_9_0_1 (by omega) (by omega) (by omega)
          have f114 := jF (e := 9) (v := (h73 75 7)) 0 f80 rg_75_9_0_1 (by omega) (by omega) (by decide)
          generalize e113 : x_up h73 75 9 (h73 75 7) = h111 at j112 f114 ⊢
          have b115 := jB (e := 7) 0 hJ rg_75_7_0_1 (by omega) (by omega)
          have q116 : h111 75 7 = h73 75 7 := by rw [← e113]; exact x_up_i (by omega)
          have q117 : h111 75 7 = h73 75 7 := by rw [← e113]; exact x_up_i (by omega)
          have q118 : h111 75 9 = (h73 75 7) := by rw [← e113]; exact x_up_at
          refine x_retV (np := 33) (x := 0) (by decide +kernel) (by decide +kernel) ⟨rfl, ?_⟩
          exact ⟨j112, f114, (by omega), (by omega)⟩
        have q109 : ¬ (2147483648 = 2147483648) := q109
        exfalso; omega
      have q107 : ¬ ((h 79 u101) < 2147483680) := q107
      refine x_aload (np := 25) (x := 0) (by decide +kernel) rfl (x_nc_le (by decide)) ?_
      have q119 : h73 75 5 = 79 := by have z := jB (e := 5) 0 j75 rg_75_5_0_1 (by decide) (by decide); omega
      refine x_getR (np := 28) (x := 709) (f := 5) (q := 79) (by decide +kernel) (by decide) (by decide +kernel) q119 ?_
      refine x_aload (np := 29) (x := 0) (by decide +kernel) rfl (x_nc_le (by decide)) ?_
      refine x_getC (np := 32) (x := 711) (f := 7) (q := (h73 75 7)) (by decide +kernel) (by decide) (by decide +kernel) rfl (fun l120 => ?_)
      have q121 : h73 79 u101 = h 79 u101 := jK u101 f74 rg_79_0_1_400 (by omega) (by omega) (by decide)
      refine x_baldC (np := 33) (x := 0) (n := 400) (i := u101) (q := (h 79 u101)) (by decide +kernel) (by decide +kernel) (by omega) (by omega) (by decide) q121 (fun l122 => ?_)
      refine x_iload (np := 34) (x := 2) (by decide +kernel) rfl (by decide) ?_
      refine x_icmp (k := 4) (tg := 41) (np := 37) (by decide +kernel) (by decide) l105 (by decide) (fun q123 => ?_) (fun q124 => ?_)
      · have q123 : 2147483680 < (h 79 u101) := q123
        refine x_const (np := 42) (x := 9223372039002259456) (a := 2147483648) (by decide +kernel) (by decide) (by decide) ?_
        refine x_retI (np := 43) (x := 0) (by decide +kernel) (by decide) (Or.inr ⟨by decide +kernel, by omega, by omega⟩) ⟨_, rfl, (by decide), ?_⟩
        refine x_ifz (k := 0) (tg := 24) (np := 11) (by decide +kernel) (by decide) (by decide) (fun q125 => ?_) (fun q126 => ?_)
        · have q125 : 2147483648 = 2147483648 := q125
          refine x_aload (np := 25) (x := 0) (by decide +kernel) rfl (x_nc_le (by decide)) ?_
          refine x_aload (np := 26) (x := 0) (by decide +kernel) rfl (x_nc_le (by decide)) ?_
          refine x_getC (np := 29) (x := 711) (f := 7) (q := (h73 75 7)) (by decide +kernel) (by decide) (by decide +kernel) rfl (fun l127 => ?_)
          refine x_putI (np := 32) (x := 713) (f := 9) (by decide +kernel) (by decide +kernel) l82 (Or.inl (by decide)) ?_
          have j129 := jU (e := 9) (v := (h73 75 7)) 0 j75 rg_75_9_0_1 (by omega) (by omega) (by omega)
          have f131 := jF (e := 9) (v := (h73 75 7)) 0 f80 rg_75_9_0_1 (by omega) (by omega) (by decide)
          generalize e130 : x_up h73 75 9 (h73 75 7) = h128 at j129 f131 ⊢
          have b132 := jB (e := 7) 0 hJ rg_75_7_0_1 (by omega) (by omega)
          have q133 : h128 75 7 = h73 75 7 := by rw [← e130]; exact x_up_i (by omega)
          have q134 : h128 75 7 = h73 75 7 := by rw [← e130]; exact x_up_i (by omega)
          have q135 : h128 75 9 = (h73 75 7) := by rw [← e130]; exact x_up_at
          refine x_retV (np := 33) (x := 0) (by decide +kernel) (by decide +kernel) ⟨rfl, ?_⟩
          exact ⟨j129, f131, (by omega), (by omega)⟩
        have q126 : ¬ (2147483648 = 2147483648) := q126
        exfalso; omega
      have q124 : ¬ (2147483680 < (h 79 u101)) := q124
      refine x_const (np := 38) (x := 9223372043297226753) (a := 2147483649) (by decide +kernel) (by decide) (by decide) ?_
      refine x_goto (np := 41) (x := 42) (by decide +kernel) ?_
      refine x_retI (np := 43) (x := 0) (by decide +kernel) (by decide) (Or.inr ⟨by decide +kernel, by omega, by omega⟩) ⟨_, rfl, (by decide), ?_⟩
      refine x_ifz (k := 0) (tg := 24) (np := 11) (by decide +kernel) (by decide) (by decide) (fun q136 => ?_) (fun q137 => ?_)
      · have q136 : 2147483649 = 2147483648 := q136
        exfalso; omega
      have q137 : ¬ (2147483649 = 2147483648) := q137
      refine x_aload (np := 12) (x := 0) (by decide +kernel) rfl (x_nc_le (by decide)) ?_
      refine x_dup (np := 13) (x := 0) (by decide +kernel) (by have z := x_nc_le (k := 75) (by decide); unfold x_r; omega) ?_
      refine x_getC (np := 16) (x := 711) (f := 7) (q := (h73 75 7)) (by decide +kernel) (by decide) (by decide +kernel) rfl (fun l138 => ?_)
      refine x_const (np := 17) (x := 9223372043297226753) (a := 2147483649) (by decide +kernel) (by decide) (by decide) ?_
      refine x_iadd (np := 18) (x := 0) (v := (1 + (h73 75 7))) (by decide +kernel) l82 (by decide) (by omega) (by omega) ?_
      refine x_putI (np := 21) (x := 711) (f := 7) (by decide +kernel) (by decide +kernel) (by omega) (Or.inl (by decide)) ?_
      have j140 := jU (e := 7) (v := (1 + (h73 75 7))) 0 j75 rg_75_7_0_1 (by omega) (by omega) (by omega)
      have f142 := jF (e := 7) (v := (1 + (h73 75 7))) 0 f80 rg_75_7_0_1 (by omega) (by omega) (by decide)
      have f143 := jF (e := 7) (v := (1 + (h73 75 7))) 0 f74 rg_75_7_0_1 (by omega) (by omega) (by decide)
      generalize e141 : x_up h73 75 7 (1 + (h73 75 7)) = h139 at j140 f142 f143 ⊢
      refine x_goto (np := 24) (x := 0) (by decide +kernel) ?_
      have q144 : h139 75 7 = (1 + (h73 75 7)) := by rw [← e141]; exact x_up_at
      have b145 := jB (e := 7) 0 hJ rg_75_7_0_1 (by omega) (by omega)
      have q146 : h139 75 7 = (1 + (h73 75 7)) := by rw [← e141]; exact x_up_at
      exact i79  h139 (by omega) (by omega) j140 f143
  have b147 := jB (e := 7) 0 hJ rg_75_7_0_1 (by omega) (by omega)
  exact p76 _  h (Nat.lt_succ_self _) (by omega) hJ (Fr.refl _ _)
set_option maxHeartbeats 0 in
/-- LentNamesModel.letters()V -/
theorem c169_75 {sc : Nat × Nat} {d  : Nat} {h : xh} (hJ : J h) : X sc 169 (d + 2) (xV fun h' => J h' ∧ Fr 5242881 h h' ∧ (h 75 7 ≤ h' 75 9) ∧ (h' 75 9 ≤ h' 75 7)) 0 0 0 [x_r 75] [] h := by
  have hF := Fr.refl 5242881 h
  refine x_aload (np := 1) (x := 0) (by decide +kernel) rfl (x_nc_le (by decide)) ?_
  refine x_cV (t := 6) (mj := 168) (n := 1) (rc := 12) (ml := 1) (nr := 0) (np := 4) (as := [x_r 75]) (rest := []) (lo1 := [x_r 75]) (by decide +kernel) (by decide) (by decide +kernel) (x_rb_of (by decide +kernel)) rfl rfl (x_wr (by decide) x_wn) x_wn (by decide) rfl (c168_75 hJ ) (fun h4 q3 => ?_)
  obtain ⟨j5, f6, c9, c10⟩ := q3
  have f11 := Fr.trans hF f6 (by decide)
  have b12 := jB (e := 7) 0 hJ rg_75_7_0_1 (by omega) (by omega)
  have b13 := jB (e := 7) 0 j5 rg_75_7_0_1 (by omega) (by omega)
  have b14 := jB (e := 9) 0 j5 rg_75_9_0_1 (by omega) (by omega)
  have p95 : ∀ (n : Nat) (h92 : xh), 4294967296 - h92 75 7 < n → h 75 7 ≤ h92 75 9 → h92 75 9 ≤ h92 75 7 → J h92 → Fr 1048576 h4 h92 → X sc 169 (d + 2) (xV fun h' => J h' ∧ Fr 5242881 h h' ∧ (h 75 7 ≤ h' 75 9) ∧ (h' 75 9 ≤ h' 75 7)) 0 0 4 [x_r 75] [] h92 := by
    intro n
    induction n with
    | zero => intro h92 q98; exact absurd q98 (Nat.not_lt_zero _)
    | succ n i99 =>
      intro h92 q98 b96 b97 j94 f93
      have f100 := Fr.trans f11 f93 (by decide)
      refine x_aload (np := 5) (x := 0) (by decide +kernel) rfl (x_nc_le (by decide)) ?_
      refine x_const (np := 7) (x := 9223372455614087265) (a := 2147483745) (by decide +kernel) (by decide) (by decide) ?_
      refine x_const (np := 9) (x := 9223372562988269690) (a := 2147483770) (by decide +kernel) (by decide) (by decide) ?_
      refine x_nI (t := 6) (mj := 167) (n := 3) (rc := 12) (ml := 3) (nr := 0) (np := 12) (as := [x_r 75, iv_c 2147483745, iv_c 2147483770]) (rest := []) (lo1 := [x_r 75, iv_c 2147483745, iv_c 2147483770]) (by decide +kernel) (by decide) (by decide +kernel) (x_rb_of (by decide +kernel)) rfl rfl (x_wr (by decide) (x_wi (by decide) (x_wi (by decide) x_wn))) x_wn (by decide) rfl ?_
      refine x_aload (np := 1) (x := 0) (by decide +kernel) rfl (x_nc_le (by decide)) ?_
      have b101 := jB (e := 7) 0 j94 rg_75_7_0_1 (by omega) (by omega)
      refine x_getC (np := 4) (x := 711) (f := 7) (q := (h92 75 7)) (by decide +kernel) (by decide) (by decide +kernel) rfl (fun l102 => ?_)
      refine x_aload (np := 5) (x := 0) (by decide +kernel) rfl (x_nc_le (by decide)) ?_
      have q103 : h92 75 8 = h4 75 8 := jK 0 f93 rg_75_8_0_1 (by omega) (by omega) (by decide)
      have q104 : h4 75 8 = h 75 8 := jK 0 f6 rg_75_8_0_1 (by omega) (by omega) (by decide)
      have b105 := jB (e := 8) 0 hJ rg_75_8_0_1 (by omega) (by omega)
      refine x_getC (np := 8) (x := 712) (f := 8) (q := (h 75 8)) (by decide +kernel) (by decide) (by decide +kernel) (q103.trans q104) (fun l106 => ?_)
      refine x_icmp (k := 3) (tg := 41) (np := 11) (by decide +kernel) (by decide) l102 l106 (fun q107 => ?_) (fun q108 => ?_)
      · have q107 : (h 75 8) ≤ (h92 75 7) := q107
        refine x_const (np := 42) (x := 9223372039002259456) (a := 2147483648) (by decide +kernel) (by decide) (by decide) ?_
        refine x_retI (np := 43) (x := 0) (by decide +kernel) (by decide) (Or.inr ⟨by decide +kernel, by omega, by omega⟩) ⟨_, rfl, (by decide), ?_⟩
        refine x_ifz (k := 0) (tg := 28) (np := 15) (by decide +kernel) (by decide) (by decide) (fun q109 => ?_) (fun q110 => ?_)
        · have q109 : 2147483648 = 2147483648 := q109
          have q111 : h92 75 9 = h4 75 9 := jK 0 f93 rg_75_9_0_1 (by omega) (by omega) (by decide)
          have q112 : h92 75 9 = h4 75 9 := jK 0 f93 rg_75_9_0_1 (by omega) (by omega) (by decide)
          refine x_retV (np := 29) (x := 0) (by decide +kernel) (by decide +kernel) ⟨rfl, ?_⟩
          exact ⟨j94, f100, (by omega), (by omega)⟩
        have q110 : ¬ (2147483648 = 2147483648) := q110
        exfalso; omega
      have q108 : ¬ ((h 75 8) ≤ (h92 75 7)) := q108
      refine x_aload (np := 12) (x := 0) (by decide +kernel) rfl (x_nc_le (by decide)) ?_
      have q113 : h92 75 5 = 79 := by have z := jB (e := 5) 0 j94 rg_75_5_0_1 (by decide) (by decide); omega
      refine x_getR (np := 15) (x := 709) (f := 5) (q := 79) (by decide +kernel) (by decide) (by decide +kernel) q113 ?_
      refine x_aload (np := 16) (x := 0) (by decide +kernel) rfl (x_nc_le (by decide)) ?_
      refine x_getC (np := 19) (x := 711) (f := 7) (q := (h92 75 7)) (by decide +kernel) (by decide) (by decide +kernel) rfl (fun l114 => ?_)
      obtain ⟨u115, q116⟩ : ∃ z, (h92 75 7) = 2147483648 + z := ⟨(h92 75 7) - 2147483648, by omega⟩
      have q117 : h92 79 u115 = h4 79 u115 := jK u115 f93 rg_79_0_1_400 (by omega) (by omega) (by decide)
      have q118 : h4 79 u115 = h 79 u115 := jK u115 f6 rg_79_0_1_400 (by omega) (by omega) (by decide)
      have b119 := jB (e := u115) u115 hJ rg_79_0_1_400 (by omega) (by omega)
      refine x_baldC (np := 20) (x := 0) (n := 400) (i := u115) (q := (h 79 u115)) (by decide +kernel) (by decide +kernel) (by omega) (by omega) (by decide) (q117.trans q118) (fun l120 => ?_)
      refine x_iload (np := 21) (x := 1) (by decide +kernel) rfl (by decide) ?_
      refine x_icmp (k := 2) (tg := 41) (np := 24) (by decide +kernel) (by decide) l120 (by decide) (fun q121 => ?_) (fun q122 => ?_)
      · have q121 : (h 79 u115) < 2147483745 := q121
        refine x_const (np := 42) (x := 9223372039002259456) (a := 2147483648) (by decide +kernel) (by decide) (by decide) ?_
        refine x_retI (np := 43) (x := 0) (by decide +kernel) (by decide) (Or.inr ⟨by decide +kernel, by omega, by omega⟩) ⟨_, rfl, (by decide), ?_⟩
        refine x_ifz (k := 0) (tg := 28) (np := 15) (by decide +kernel) (by decide) (by decide) (fun q123 => ?_) (fun q124 => ?_)
        · have q123 : 2147483648 = 2147483648 := q123
          have q125 : h92 75 9 = h4 75 9 := jK 0 f93 rg_75_9_0_1 (by omega) (by omega) (by decide)
          have q126 : h92 75 9 = h4 75 9 := jK 0 f93 rg_75_9_0_1 (by omega) (by omega) (by decide)
          refine x_retV (np := 29) (x := 0) (by decide +kernel) (by decide +kernel) ⟨rfl, ?_⟩
          exact ⟨j94, f100, (by omega), (by omega)⟩
        have q124 : ¬ (2147483648 = 2147483648) := q124
        exfalso; omega
      have q122 : ¬ ((h 79 u115) < 2147483745) := q122
      refine x_aload (np := 25) (x := 0) (by decide +kernel) rfl (x_nc_le (by decide)) ?_
      have q127 : h92 75 5 = 79 := by have z := jB (e := 5) 0 j94 rg_75_5_0_1 (by decide) (by decide); omega
      refine x_getR (np := 28) (x := 709) (f := 5) (q := 79) (by decide +kernel) (by decide) (by decide +kernel) q127 ?_
      refine x_aload (np := 29) (x := 0) (by decide +kernel) rfl (x_nc_le (by decide)) ?_
      refine x_getC (np := 32) (x := 711) (f := 7) (q := (h92 75 7)) (by decide +kernel) (by decide) (by decide +kernel) rfl (fun l128 => ?_)
      have q129 : h92 79 u115 = h4 79 u115 := jK u115 f93 rg_79_0_1_400 (by omega) (by omega) (by decide)
      have q130 : h4 79 u115 = h 79 u115 := jK u115 f6 rg_79_0_1_400 (by omega) (by omega) (by decide)
      refine x_baldC (np := 33) (x := 0) (n := 400) (i := u115) (q := (h 79 u115)) (by decide +kernel) (by decide +kernel) (by omega) (by omega) (by decide) (q129.trans q130) (fun l131 => ?_)
      refine x_iload (np := 34) (x := 2) (by decide +kernel) rfl (by decide) ?_
      refine x_icmp (k := 4) (tg := 41) (np := 37) (by decide +kernel) (by decide) l120 (by decide) (fun q132 => ?_) (fun q133 => ?_)
      · have q132 : 2147483770 < (h 79 u115) := q132
        refine x_const (np := 42) (x := 9223372039002259456) (a := 2147483648) (by decide +kernel) (by decide) (by decide) ?_
        refine x_retI (np := 43) (x := 0) (by decide +kernel) (by decide) (Or.inr ⟨by decide +kernel, by omega, by omega⟩) ⟨_, rfl, (by decide), ?_⟩
        refine x_ifz (k := 0) (tg := 28) (np := 15) (by decide +kernel) (by decide) (by decide) (fun q134 => ?_) (fun q135 => ?_)
        · have q134 : 2147483648 = 2147483648 := q134
          have q136 : h92 75 9 = h4 75 9 := jK 0 f93 rg_75_9_0_1 (by omega) (by omega) (by decide)
          have q137 : h92 75 9 = h4 75 9 := jK 0 f93 rg_75_9_0_1 (by omega) (by omega) (by decide)
          refine x_retV (np := 29) (x := 0) (by decide +kernel) (by decide +kernel) ⟨rfl, ?_⟩
          exact ⟨j94, f100, (by omega), (by omega)⟩
        have q135 : ¬ (2147483648 = 2147483648) := q135
        exfalso; omega
      have q133 : ¬ (2147483770 < (h 79 u115)) := q133
      refine x_const (np := 38) (x := 9223372043297226753) (a := 2147483649) (by decide +kernel) (by decide) (by decide) ?_
      refine x_goto (np := 41) (x := 42) (by decide +kernel) ?_
      refine x_retI (np := 43) (x := 0) (by decide +kernel) (by decide) (Or.inr ⟨by decide +kernel, by omega, by omega⟩) ⟨_, rfl, (by decide), ?_⟩
      refine x_ifz (k := 0) (tg := 28) (np := 15) (by decide +kernel) (by decide) (by decide) (fun q138 => ?_) (fun q139 => ?_)
      · have q138 : 2147483649 = 2147483648 := q138
        exfalso; omega
      have q139 : ¬ (2147483649 = 2147483648) := q139
      refine x_aload (np := 16) (x := 0) (by decide +kernel) rfl (x_nc_le (by decide)) ?_
      refine x_dup (np := 17) (x := 0) (by decide +kernel) (by have z := x_nc_le (k := 75) (by decide); unfold x_r; omega) ?_
      refine x_getC (np := 20) (x := 711) (f := 7) (q := (h92 75 7)) (by decide +kernel) (by decide) (by decide +kernel) rfl (fun l140 => ?_)
      refine x_const (np := 21) (x := 9223372043297226753) (a := 2147483649) (by decide +kernel) (by decide) (by decide) ?_
      refine x_iadd (np := 22) (x := 0) (v := (1 + (h92 75 7))) (by decide +kernel) l102 (by decide) (by omega) (by omega) ?_
      refine x_putI (np := 25) (x := 711) (f := 7) (by decide +kernel) (by decide +kernel) (by omega) (Or.inl (by decide)) ?_
      have j142 := jU (e := 7) (v := (1 + (h92 75 7))) 0 j94 rg_75_7_0_1 (by omega) (by omega) (by omega)
      have f144 := jF (e := 7) (v := (1 + (h92 75 7))) 0 f100 rg_75_7_0_1 (by omega) (by omega) (by decide)
      have f145 := jF (e := 7) (v := (1 + (h92 75 7))) 0 f93 rg_75_7_0_1 (by omega) (by omega) (by decide)
      generalize e143 : x_up h92 75 7 (1 + (h92 75 7)) = h141 at j142 f144 f145 ⊢
      refine x_goto (np := 28) (x := 4) (by decide +kernel) ?_
      have q146 : h141 75 7 = (1 + (h92 75 7)) := by rw [← e143]; exact x_up_at
      have q147 : h141 75 7 = (1 + (h92 75 7)) := by rw [← e143]; exact x_up_at
      have q148 : h141 75 9 = h92 75 9 := by rw [← e143]; exact x_up_i (by omega)
      have q149 : h92 75 9 = h4 75 9 := jK 0 f93 rg_75_9_0_1 (by omega) (by omega) (by decide)
      exact i99  h141 (by omega) (by omega) (by omega) j142 f145
  exact p95 _  h4 (Nat.lt_succ_self _) (by omega) (by omega) j5 (Fr.refl _ _)
set_option maxHeartbeats 0 in
/-- LentNamesModel.isWord(Ljava/lang/String;)Z -/
theorem c170_75_S0 {sc : Nat × Nat} {d ia1 : Nat} {h : xh} (hJ : J h) (hia1 : ia1 < 32) : X sc 170 (d + 4) (xI fun r h' => h' = h ∧ (2147483648 ≤ r ∧ r ≤ 2147483649) ∧ (r = 2147483649 → h 75 7 = h 75 9 + iv_tl ia1)) 0 0 0 [x_r 75, x_b (ia1 + 1), 147573952589676412928, 147573952589676412928] [] h := by
  refine x_aload (np := 1) (x := 0) (by decide +kernel) rfl (x_nc_le (by decide)) ?_
  have b1 := jB (e := 7) 0 hJ rg_75_7_0_1 (by omega) (by omega)
  refine x_getC (np := 4) (x := 711) (f := 7) (q := (h 75 7)) (by decide +kernel) (by decide) (by decide +kernel) rfl (fun l2 => ?_)
  refine x_aload (np := 5) (x := 0) (by decide +kernel) rfl (x_nc_le (by decide)) ?_
  have b3 := jB (e := 9) 0 hJ rg_75_9_0_1 (by omega) (by omega)
  refine x_getC (np := 8) (x := 713) (f := 9) (q := (h 75 9)) (by decide +kernel) (by decide) (by decide +kernel) rfl (fun l4 => ?_)
  obtain ⟨v5, q6⟩ : ∃ z, z + (h 75 9) = (h 75 7) + 2147483648 := ⟨(h 75 7) + 2147483648 - (h 75 9), by omega⟩
  refine x_isub (np := 9) (x := 0) (v := v5) (by decide +kernel) l2 l4 (by omega) (by omega) ?_
  refine x_aloadB (i := ia1) (k4 := 1) rfl hia1 (by rw [tb_b170]; decide +kernel) ?_
  have b7 := (iv_tl_lt ia1 hia1).1
  have b8 := iv_tl_ge ia1 hia1
  refine x_len (by decide +kernel) (by rw [tb_y170]; exact sl_Ml) hia1 (by rw [tb_b170]; decide +kernel) (Nat.le_trans (x_wi (by omega) x_wn) (by decide)) ?_
  refine x_icmp (k := 1) (tg := 20) (np := 16) (by decide +kernel) (by decide) (by omega) (by omega) (fun q9 => ?_) (fun q10 => ?_)
  · have q9 : v5 ≠ (2147483648 + (iv_tl ia1)) := q9
    refine x_const (np := 21) (x := 9223372039002259456) (a := 2147483648) (by decide +kernel) (by decide) (by decide) ?_
    refine x_istore (np := 22) (x := 2) (lo' := [x_r 75, x_b (ia1 + 1), iv_c 2147483648, 147573952589676412928]) (by decide +kernel) (by decide) (Nat.le_of_ble_eq_true rfl) rfl ?_
    refine x_const (np := 23) (x := 9223372039002259456) (a := 2147483648) (by decide +kernel) (by decide) (by decide) ?_
    refine x_istore (np := 24) (x := 3) (lo' := [x_r 75, x_b (ia1 + 1), iv_c 2147483648, iv_c 2147483648]) (by decide +kernel) (by decide) (Nat.le_of_ble_eq_true rfl) rfl ?_
    have p21 : ∀ (n : Nat) (v17 : Nat) (v19 : Nat), 0 < n → (2147483648 ≤ v17 ∧ v17 ≤ 2147483648) → (2147483648 ≤ v19 ∧ v19 ≤ 2147483648) → X sc 170 (d + 4) (xI fun r h' => h' = h ∧ (2147483648 ≤ r ∧ r ≤ 2147483649) ∧ (r = 2147483649 → h 75 7 = h 75 9 + iv_tl ia1)) 0 0 24 [x_r 75, x_b (ia1 + 1), iv_c v17, iv_c v19] [] h := by
      intro n
      induction n with
      | zero => intro v17 v19 q22; exact absurd q22 (Nat.not_lt_zero _)
      | succ n i23 =>
        intro v17 v19 q22 b18 b20
        refine x_iload (np := 25) (x := 2) (by decide +kernel) rfl (by omega) ?_
        refine x_ifz (k := 0) (tg := 67) (np := 28) (by decide +kernel) (by decide) (by omega) (fun q24 => ?_) (fun q25 => ?_)
        · have q24 : v17 = 2147483648 := q24
          refine x_iload (np := 68) (x := 2) (by decide +kernel) rfl (by omega) ?_
          have b26 := iv_tl_ge ia1 hia1
          refine x_retI (np := 69) (x := 0) (by decide +kernel) (by omega) (Or.inr ⟨by decide +kernel, by omega, by omega⟩) ⟨_, rfl, (by omega), ?_⟩
          exact ⟨rfl, (by omega), (fun z => by omega)⟩
        have q25 : ¬ (v17 = 2147483648) := q25
        exfalso; omega
    exact p21 _ 2147483648 2147483648 (Nat.lt_succ_self _) (by omega) (by omega)
  have q10 : ¬ (v5 ≠ (2147483648 + (iv_tl ia1))) := q10
  refine x_const (np := 17) (x := 9223372043297226753) (a := 2147483649) (by decide +kernel) (by decide) (by decide) ?_
  refine x_goto (np := 20) (x := 21) (by decide +kernel) ?_
  refine x_istore (np := 22) (x := 2) (lo' := [x_r 75, x_b (ia1 + 1), iv_c 2147483649, 147573952589676412928]) (by decide +kernel) (by decide) (Nat.le_of_ble_eq_true rfl) rfl ?_
  refine x_const (np := 23) (x := 9223372039002259456) (a := 2147483648) (by decide +kernel) (by decide) (by decide) ?_
  refine x_istore (np := 24) (x := 3) (lo' := [x_r 75, x_b (ia1 + 1), iv_c 2147483649, iv_c 2147483648]) (by decide +kernel) (by decide) (Nat.le_of_ble_eq_true rfl) rfl ?_
  have p353 : ∀ (n : Nat) (v349 : Nat) (v351 : Nat), 4294967296 - v351 < n → (2147483648 ≤ v349 ∧ v349 ≤ 2147483649) → (2147483648 ≤ v351 ∧ v351 ≤ 2147483667) → X sc 170 (d + 4) (xI fun r h' => h' = h ∧ (2147483648 ≤ r ∧ r ≤ 2147483649) ∧ (r = 2147483649 → h 75 7 = h 75 9 + iv_tl ia1)) 0 0 24 [x_r 75, x_b (ia1 + 1), iv_c v349, iv_c v351] [] h := by
    intro n
    induction n with
    | zero => intro v349 v351 q354; exact absurd q354 (Nat.not_lt_zero _)
    | succ n i355 =>
      intro v349 v351 q354 b350 b352
      refine x_iload (np := 25) (x := 2) (by decide +kernel) rfl (by omega) ?_
      refine x_ifz (k := 0) (tg := 67) (np := 28) (by decide +kernel) (by decide) (by omega) (fun q356 => ?_) (fun q357 => ?_)
      · have q356 : v349 = 2147483648 := q356
        refine x_iload (np := 68) (x := 2) (by decide +kernel) rfl (by omega) ?_
        have b358 := iv_tl_ge ia1 hia1
        refine x_retI (np := 69) (x := 0) (by decide +kernel) (by omega) (Or.inr ⟨by decide +kernel, by omega, by omega⟩) ⟨_, rfl, (by omega), ?_⟩
        exact ⟨rfl, (by omega), (fun z => by omega)⟩
      have q357 : ¬ (v349 = 2147483648) := q357
      refine x_iload (np := 29) (x := 3) (by decide +kernel) rfl (by omega) ?_
      refine x_aloadB (i := ia1) (k4 := 1) rfl hia1 (by rw [tb_b170]; decide +kernel) ?_
      have b359 := (iv_tl_lt ia1 hia1).1
      have b360 := iv_tl_ge ia1 hia1
      refine x_len (by decide +kernel) (by rw [tb_y170]; exact sl_Ml) hia1 (by rw [tb_b170]; decide +kernel) (Nat.le_trans (x_wi (by omega) x_wn) (by decide)) ?_
      refine x_icmp (k := 3) (tg := 67) (np := 36) (by decide +kernel) (by decide) (by omega) (by omega) (fun q361 => ?_) (fun q362 => ?_)
      · have q361 : (2147483648 + (iv_tl ia1)) ≤ v351 := q361
        refine x_iload (np := 68) (x := 2) (by decide +kernel) rfl (by omega) ?_
        have b363 := iv_tl_ge ia1 hia1
        refine x_retI (np := 69) (x := 0) (by decide +kernel) (by omega) (Or.inr ⟨by decide +kernel, by omega, by omega⟩) ⟨_, rfl, (by omega), ?_⟩
        exact ⟨rfl, (by omega), (fun z => by omega)⟩
      have q362 : ¬ ((2147483648 + (iv_tl ia1)) ≤ v351) := q362
      refine x_aload (np := 37) (x := 0) (by decide +kernel) rfl (x_nc_le (by decide)) ?_
      have q364 : h 75 5 = 79 := by have z := jB (e := 5) 0 hJ rg_75_5_0_1 (by decide) (by decide); omega
      refine x_getR (np := 40) (x := 709) (f := 5) (q := 79) (by decide +kernel) (by decide) (by decide +kernel) q364 ?_
      refine x_aload (np := 41) (x := 0) (by decide +kernel) rfl (x_nc_le (by decide)) ?_
      refine x_getC (np := 44) (x := 713) (f := 9) (q := (h 75 9)) (by decide +kernel) (by decide) (by decide +kernel) rfl (fun l365 => ?_)
      refine x_iload (np := 45) (x := 3) (by decide +kernel) rfl (by omega) ?_
      obtain ⟨v366, q367⟩ : ∃ z, z + 2147483648 = (h 75 9) + v351 := ⟨(h 75 9) + v351 - 2147483648, by omega⟩
      refine x_iadd (np := 46) (x := 0) (v := v366) (by decide +kernel) l4 (by omega) (by omega) (by omega) ?_
      obtain ⟨u368, q369⟩ : ∃ z, v366 = 2147483648 + z := ⟨v366 - 2147483648, by omega⟩
      have b370 := jB (e := u368) u368 hJ rg_79_0_1_400 (by omega) (by omega)
      refine x_baldC (np := 47) (x := 0) (n := 400) (i := u368) (q := (h 79 u368)) (by decide +kernel) (by decide +kernel) (by omega) (by omega) (by decide) rfl (fun l371 => ?_)
      refine x_aloadB (i := ia1) (k4 := 1) rfl hia1 (by rw [tb_b170]; decide +kernel) ?_
      refine x_iload (np := 49) (x := 3) (by decide +kernel) rfl (by omega) ?_
      obtain ⟨u373, q374⟩ : ∃ z, v351 = 2147483648 + z := ⟨v351 - 2147483648, by omega⟩
      have b372 := (iv_tl_lt ia1 hia1).2 u373 (by omega)
      refine x_chr (j := u373) (by decide +kernel) (by rw [tb_y170]; exact sl_Mc) hia1 (by omega) (by omega) (by rw [tb_b170]; decide +kernel) (Nat.le_trans (x_wi l371 x_wn) (by decide)) ?_
      refine x_icmp (k := 1) (tg := 59) (np := 55) (by decide +kernel) (by decide) l371 (by omega) (fun q375 => ?_) (fun q376 => ?_)
      · have q375 : (h 79 u368) ≠ (2147483648 + (iv_tc ia1 u373)) := q375
        refine x_const (np := 60) (x := 9223372039002259456) (a := 2147483648) (by decide +kernel) (by decide) (by decide) ?_
        refine x_istore (np := 61) (x := 2) (lo' := [x_r 75, x_b (ia1 + 1), iv_c 2147483648, iv_c v351]) (by decide +kernel) (by decide) (Nat.le_of_ble_eq_true rfl) rfl ?_
        refine x_iinc (np := 64) (i := 3) (j := 2147483649) (v := (1 + v351)) (lo' := [x_r 75, x_b (ia1 + 1), iv_c 2147483648, iv_c (1 + v351)]) (by decide +kernel) (by decide) (by decide) rfl (by omega) (by omega) (by omega) rfl ?_
        refine x_goto (np := 67) (x := 24) (by decide +kernel) ?_
        exact i355 2147483648 (1 + v351) (by omega) (by omega) (by omega)
      have q376 : ¬ ((h 79 u368) ≠ (2147483648 + (iv_tc ia1 u373))) := q376
      refine x_const (np := 56) (x := 9223372043297226753) (a := 2147483649) (by decide +kernel) (by decide) (by decide) ?_
      refine x_goto (np := 59) (x := 60) (by decide +kernel) ?_
      refine x_istore (np := 61) (x := 2) (lo' := [x_r 75, x_b (ia1 + 1), iv_c 2147483649, iv_c v351]) (by decide +kernel) (by decide) (Nat.le_of_ble_eq_true rfl) rfl ?_
      refine x_iinc (np := 64) (i := 3) (j := 2147483649) (v := (1 + v351)) (lo' := [x_r 75, x_b (ia1 + 1), iv_c 2147483649, iv_c (1 + v351)]) (by decide +kernel) (by decide) (by decide) rfl (by omega) (by omega) (by omega) rfl ?_
      refine x_goto (np := 67) (x := 24) (by decide +kernel) ?_
      exact i355 2147483649 (1 + v351) (by omega) (by omega) (by omega)
  exact p353 _ 2147483649 2147483648 (Nat.lt_succ_self _) (by omega) (by omega)
set_option maxHeartbeats 0 in
/-- LentNamesModel.passes(Ljava/lang/String;)Z -/
theorem c171_75_S0 {sc : Nat × Nat} {d ia1 : Nat} {h : xh} (hJ : J h) (hia1 : ia1 < 32) : X sc 171 (d + 5) (xI fun r h' => J h' ∧ Fr 5242881 h h' ∧ (2147483648 ≤ r ∧ r ≤ 2147483649) ∧ (h 75 7 + 0 ≤ h' 75 7) ∧ (r = 2147483649 → h 75 7 + 2 ≤ h' 75 7)) 0 0 0 [x_r 75, x_b (ia1 + 1)] [] h := by
  have hF := Fr.refl 5242881 h
  refine x_aload (np := 1) (x := 0) (by decide +kernel) rfl (x_nc_le (by decide)) ?_
  refine x_cV (t := 6) (mj := 169) (n := 1) (rc := 12) (ml := 1) (nr := 0) (np := 4) (as := [x_r 75]) (rest := []) (lo1 := [x_r 75]) (by decide +kernel) (by decide) (by decide +kernel) (x_rb_of (by decide +kernel)) rfl rfl (x_wr (by decide) x_wn) x_wn (by decide) rfl (c169_75 hJ ) (fun h4 q3 => ?_)
  obtain ⟨j5, f6, c9, c10⟩ := q3
  have f11 := Fr.trans hF f6 (by decide)
  have b12 := jB (e := 7) 0 hJ rg_75_7_0_1 (by omega) (by omega)
  have b13 := jB (e := 9) 0 j5 rg_75_9_0_1 (by omega) (by omega)
  have b14 := jB (e := 7) 0 j5 rg_75_7_0_1 (by omega) (by omega)
  refine x_aload (np := 5) (x := 0) (by decide +kernel) rfl (x_nc_le (by decide)) ?_
  refine x_aloadB (i := ia1) (k4 := 1) rfl hia1 (by rw [tb_b171]; decide +kernel) ?_
  refine x_cP (t := 6) (mj := 170) (n := 2) (rc := 12) (ml := 4) (nr := 0) (np := 9) (as := [x_r 75, x_b (ia1 + 1)]) (rest := []) (lo1 := [x_r 75, x_b (ia1 + 1), 147573952589676412928, 147573952589676412928]) (by decide +kernel) (by decide) (by decide +kernel) (x_rb_of (by decide +kernel)) rfl rfl (x_wr (by decide) (x_wB hia1 x_wn)) x_wn (by decide) rfl (c170_75_S0 j5  hia1) (fun v15 l16 q17 => ?_)
  obtain ⟨b19, c18⟩ := q17
  have b20 := iv_tl_ge ia1 hia1
  refine x_ifz (k := 0) (tg := 14) (np := 12) (by decide +kernel) (by decide) l16 (fun q21 => ?_) (fun q22 => ?_)
  · have q21 : v15 = 2147483648 := q21
    refine x_aload (np := 15) (x := 0) (by decide +kernel) rfl (x_nc_le (by decide)) ?_
    refine x_aload (np := 16) (x := 0) (by decide +kernel) rfl (x_nc_le (by decide)) ?_
    refine x_getC (np := 19) (x := 713) (f := 9) (q := (h4 75 9)) (by decide +kernel) (by decide) (by decide +kernel) rfl (fun l23 => ?_)
    refine x_putI (np := 22) (x := 711) (f := 7) (by decide +kernel) (by decide +kernel) l23 (Or.inl (by decide)) ?_
    have j25 := jU (e := 7) (v := (h4 75 9)) 0 j5 rg_75_7_0_1 (by omega) (by omega) (by omega)
    have f27 := jF (e := 7) (v := (h4 75 9)) 0 f11 rg_75_7_0_1 (by omega) (by omega) (by decide)
    generalize e26 : x_up h4 75 7 (h4 75 9) = h24 at j25 f27 ⊢
    refine x_const (np := 23) (x := 9223372039002259456) (a := 2147483648) (by decide +kernel) (by decide) (by decide) ?_
    have q28 : h24 75 7 = (h4 75 9) := by rw [← e26]; exact x_up_at
    have q29 : h24 75 7 = (h4 75 9) := by rw [← e26]; exact x_up_at
    refine x_retI (np := 24) (x := 0) (by decide +kernel) (by decide) (Or.inr ⟨by decide +kernel, by omega, by omega⟩) ⟨_, rfl, (by decide), ?_⟩
    exact ⟨j25, f27, (by omega), (by omega), (fun z => by omega)⟩
  have q22 : ¬ (v15 = 2147483648) := q22
  have b30 := c18 (by omega)
  refine x_const (np := 13) (x := 9223372043297226753) (a := 2147483649) (by decide +kernel) (by decide) (by decide) ?_
  refine x_retI (np := 14) (x := 0) (by decide +kernel) (by decide) (Or.inr ⟨by decide +kernel, by omega, by omega⟩) ⟨_, rfl, (by decide), ?_⟩
  exact ⟨j5, f11, (by omega), (by omega), (fun z => by omega)⟩
set_option maxHeartbeats 0 in
/-- LentNamesModel.sign(I)Z -/
theorem c173_75 {sc : Nat × Nat} {d a1 : Nat} {h : xh} (hJ : J h) (ba1 : 2147483683 ≤ a1 ∧ a1 ≤ 2147483719) : X sc 173 (d + 2) (xI fun r h' => J h' ∧ Fr 5242881 h h' ∧ (2147483648 ≤ r ∧ r ≤ 2147483649) ∧ (h 75 7 + 0 ≤ h' 75 7) ∧ (r = 2147483649 → h 75 7 + 1 ≤ h' 75 7)) 0 0 0 [x_r 75, iv_c a1] [] h := by
  have la1 : a1 < 4294967296 := by omega
  have hF := Fr.refl 5242881 h
  refine x_aload (np := 1) (x := 0) (by decide +kernel) rfl (x_nc_le (by decide)) ?_
  refine x_cV (t := 6) (mj := 168) (n := 1) (rc := 12) (ml := 1) (nr := 0) (np := 4) (as := [x_r 75]) (rest := []) (lo1 := [x_r 75]) (by decide +kernel) (by decide) (by decide +kernel) (x_rb_of (by decide +kernel)) rfl rfl (x_wr (by decide) x_wn) x_wn (by decide) rfl (c168_75 hJ ) (fun h4 q3 => ?_)
  obtain ⟨j5, f6, c9, c10⟩ := q3
  have f11 := Fr.trans hF f6 (by decide)
  have b12 := jB (e := 7) 0 hJ rg_75_7_0_1 (by omega) (by omega)
  have b13 := jB (e := 7) 0 j5 rg_75_7_0_1 (by omega) (by omega)
  have b14 := jB (e := 9) 0 j5 rg_75_9_0_1 (by omega) (by omega)
  refine x_aload (np := 5) (x := 0) (by decide +kernel) rfl (x_nc_le (by decide)) ?_
  refine x_iload (np := 6) (x := 1) (by decide +kernel) rfl la1 ?_
  refine x_iload (np := 7) (x := 1) (by decide +kernel) rfl la1 ?_
  refine x_nI (t := 6) (mj := 167) (n := 3) (rc := 12) (ml := 3) (nr := 0) (np := 10) (as := [x_r 75, iv_c a1, iv_c a1]) (rest := []) (lo1 := [x_r 75, iv_c a1, iv_c a1]) (by decide +kernel) (by decide) (by decide +kernel) (x_rb_of (by decide +kernel)) rfl rfl (x_wr (by decide) (x_wi la1 (x_wi la1 x_wn))) x_wn (by decide) rfl ?_
  refine x_aload (np := 1) (x := 0) (by decide +kernel) rfl (x_nc_le (by decide)) ?_
  refine x_getC (np := 4) (x := 711) (f := 7) (q := (h4 75 7)) (by decide +kernel) (by decide) (by decide +kernel) rfl (fun l15 => ?_)
  refine x_aload (np := 5) (x := 0) (by decide +kernel) rfl (x_nc_le (by decide)) ?_
  have q16 : h4 75 8 = h 75 8 := jK 0 f6 rg_75_8_0_1 (by omega) (by omega) (by decide)
  have b17 := jB (e := 8) 0 hJ rg_75_8_0_1 (by omega) (by omega)
  refine x_getC (np := 8) (x := 712) (f := 8) (q := (h 75 8)) (by decide +kernel) (by decide) (by decide +kernel) q16 (fun l18 => ?_)
  refine x_icmp (k := 3) (tg := 41) (np := 11) (by decide +kernel) (by decide) l15 l18 (fun q19 => ?_) (fun q20 => ?_)
  · have q19 : (h 75 8) ≤ (h4 75 7) := q19
    refine x_const (np := 42) (x := 9223372039002259456) (a := 2147483648) (by decide +kernel) (by decide) (by decide) ?_
    refine x_retI (np := 43) (x := 0) (by decide +kernel) (by decide) (Or.inr ⟨by decide +kernel, by omega, by omega⟩) ⟨_, rfl, (by decide), ?_⟩
    refine x_ifz (k := 1) (tg := 15) (np := 13) (by decide +kernel) (by decide) (by decide) (fun q21 => ?_) (fun q22 => ?_)
    · have q21 : 2147483648 ≠ 2147483648 := q21
      exfalso; omega
    have q22 : ¬ (2147483648 ≠ 2147483648) := q22
    refine x_const (np := 14) (x := 9223372039002259456) (a := 2147483648) (by decide +kernel) (by decide) (by decide) ?_
    refine x_retI (np := 15) (x := 0) (by decide +kernel) (by decide) (Or.inr ⟨by decide +kernel, by omega, by omega⟩) ⟨_, rfl, (by decide), ?_⟩
    exact ⟨j5, f11, (by omega), (by omega), (fun z => by omega)⟩
  have q20 : ¬ ((h 75 8) ≤ (h4 75 7)) := q20
  refine x_aload (np := 12) (x := 0) (by decide +kernel) rfl (x_nc_le (by decide)) ?_
  have q23 : h4 75 5 = 79 := by have z := jB (e := 5) 0 j5 rg_75_5_0_1 (by decide) (by decide); omega
  refine x_getR (np := 15) (x := 709) (f := 5) (q := 79) (by decide +kernel) (by decide) (by decide +kernel) q23 ?_
  refine x_aload (np := 16) (x := 0) (by decide +kernel) rfl (x_nc_le (by decide)) ?_
  refine x_getC (np := 19) (x := 711) (f := 7) (q := (h4 75 7)) (by decide +kernel) (by decide) (by decide +kernel) rfl (fun l24 => ?_)
  obtain ⟨u25, q26⟩ : ∃ z, (h4 75 7) = 2147483648 + z := ⟨(h4 75 7) - 2147483648, by omega⟩
  have q27 : h4 79 u25 = h 79 u25 := jK u25 f6 rg_79_0_1_400 (by omega) (by omega) (by decide)
  have b28 := jB (e := u25) u25 hJ rg_79_0_1_400 (by omega) (by omega)
  refine x_baldC (np := 20) (x := 0) (n := 400) (i := u25) (q := (h 79 u25)) (by decide +kernel) (by decide +kernel) (by omega) (by omega) (by decide) q27 (fun l29 => ?_)
  refine x_iload (np := 21) (x := 1) (by decide +kernel) rfl la1 ?_
  refine x_icmp (k := 2) (tg := 41) (np := 24) (by decide +kernel) (by decide) l29 la1 (fun q30 => ?_) (fun q31 => ?_)
  · have q30 : (h 79 u25) < a1 := q30
    refine x_const (np := 42) (x := 9223372039002259456) (a := 2147483648) (by decide +kernel) (by decide) (by decide) ?_
    refine x_retI (np := 43) (x := 0) (by decide +kernel) (by decide) (Or.inr ⟨by decide +kernel, by omega, by omega⟩) ⟨_, rfl, (by decide), ?_⟩
    refine x_ifz (k := 1) (tg := 15) (np := 13) (by decide +kernel) (by decide) (by decide) (fun q32 => ?_) (fun q33 => ?_)
    · have q32 : 2147483648 ≠ 2147483648 := q32
      exfalso; omega
    have q33 : ¬ (2147483648 ≠ 2147483648) := q33
    refine x_const (np := 14) (x := 9223372039002259456) (a := 2147483648) (by decide +kernel) (by decide) (by decide) ?_
    refine x_retI (np := 15) (x := 0) (by decide +kernel) (by decide) (Or.inr ⟨by decide +kernel, by omega, by omega⟩) ⟨_, rfl, (by decide), ?_⟩
    exact ⟨j5, f11, (by omega), (by omega), (fun z => by omega)⟩
  have q31 : ¬ ((h 79 u25) < a1) := q31
  refine x_aload (np := 25) (x := 0) (by decide +kernel) rfl (x_nc_le (by decide)) ?_
  have q34 : h4 75 5 = 79 := by have z := jB (e := 5) 0 j5 rg_75_5_0_1 (by decide) (by decide); omega
  refine x_getR (np := 28) (x := 709) (f := 5) (q := 79) (by decide +kernel) (by decide) (by decide +kernel) q34 ?_
  refine x_aload (np := 29) (x := 0) (by decide +kernel) rfl (x_nc_le (by decide)) ?_
  refine x_getC (np := 32) (x := 711) (f := 7) (q := (h4 75 7)) (by decide +kernel) (by decide) (by decide +kernel) rfl (fun l35 => ?_)
  have q36 : h4 79 u25 = h 79 u25 := jK u25 f6 rg_79_0_1_400 (by omega) (by omega) (by decide)
  refine x_baldC (np := 33) (x := 0) (n := 400) (i := u25) (q := (h 79 u25)) (by decide +kernel) (by decide +kernel) (by omega) (by omega) (by decide) q36 (fun l37 => ?_)
  refine x_iload (np := 34) (x := 2) (by decide +kernel) rfl la1 ?_
  refine x_icmp (k := 4) (tg := 41) (np := 37) (by decide +kernel) (by decide) l29 la1 (fun q38 => ?_) (fun q39 => ?_)
  · have q38 : a1 < (h 79 u25) := q38
    refine x_const (np := 42) (x := 9223372039002259456) (a := 2147483648) (by decide +kernel) (by decide) (by decide) ?_
    refine x_retI (np := 43) (x := 0) (by decide +kernel) (by decide) (Or.inr ⟨by decide +kernel, by omega, by omega⟩) ⟨_, rfl, (by decide), ?_⟩
    refine x_ifz (k := 1) (tg := 15) (np := 13) (by decide +kernel) (by decide) (by decide) (fun q40 => ?_) (fun q41 => ?_)
    · have q40 : 2147483648 ≠ 2147483648 := q40
      exfalso; omega
    have q41 : ¬ (2147483648 ≠ 2147483648) := q41
    refine x_const (np := 14) (x := 9223372039002259456) (a := 2147483648) (by decide +kernel) (by decide) (by decide) ?_
    refine x_retI (np := 15) (x := 0) (by decide +kernel) (by decide) (Or.inr ⟨by decide +kernel, by omega, by omega⟩) ⟨_, rfl, (by decide), ?_⟩
    exact ⟨j5, f11, (by omega), (by omega), (fun z => by omega)⟩
  have q39 : ¬ (a1 < (h 79 u25)) := q39
  refine x_const (np := 38) (x := 9223372043297226753) (a := 2147483649) (by decide +kernel) (by decide) (by decide) ?_
  refine x_goto (np := 41) (x := 42) (by decide +kernel) ?_
  refine x_retI (np := 43) (x := 0) (by decide +kernel) (by decide) (Or.inr ⟨by decide +kernel, by omega, by omega⟩) ⟨_, rfl, (by decide), ?_⟩
  refine x_ifz (k := 1) (tg := 15) (np := 13) (by decide +kernel) (by decide) (by decide) (fun q42 => ?_) (fun q43 => ?_)
  · have q42 : 2147483649 ≠ 2147483648 := q42
    refine x_aload (np := 16) (x := 0) (by decide +kernel) rfl (x_nc_le (by decide)) ?_
    refine x_dup (np := 17) (x := 0) (by decide +kernel) (by have z := x_nc_le (k := 75) (by decide); unfold x_r; omega) ?_
    refine x_getC (np := 20) (x := 711) (f := 7) (q := (h4 75 7)) (by decide +kernel) (by decide) (by decide +kernel) rfl (fun l44 => ?_)
    refine x_const (np := 21) (x := 9223372043297226753) (a := 2147483649) (by decide +kernel) (by decide) (by decide) ?_
    refine x_iadd (np := 22) (x := 0) (v := (1 + (h4 75 7))) (by decide +kernel) l15 (by decide) (by omega) (by omega) ?_
    refine x_putI (np := 25) (x := 711) (f := 7) (by decide +kernel) (by decide +kernel) (by omega) (Or.inl (by decide)) ?_
    have j46 := jU (e := 7) (v := (1 + (h4 75 7))) 0 j5 rg_75_7_0_1 (by omega) (by omega) (by omega)
    have f48 := jF (e := 7) (v := (1 + (h4 75 7))) 0 f11 rg_75_7_0_1 (by omega) (by omega) (by decide)
    generalize e47 : x_up h4 75 7 (1 + (h4 75 7)) = h45 at j46 f48 ⊢
    refine x_const (np := 26) (x := 9223372043297226753) (a := 2147483649) (by decide +kernel) (by decide) (by decide) ?_
    have q49 : h45 75 7 = (1 + (h4 75 7)) := by rw [← e47]; exact x_up_at
    have q50 : h45 75 7 = (1 + (h4 75 7)) := by rw [← e47]; exact x_up_at
    refine x_retI (np := 27) (x := 0) (by decide +kernel) (by decide) (Or.inr ⟨by decide +kernel, by omega, by omega⟩) ⟨_, rfl, (by decide), ?_⟩
    exact ⟨j46, f48, (by omega), (by omega), (fun z => by omega)⟩
  have q43 : ¬ (2147483649 ≠ 2147483648) := q43
  exfalso; omega
set_option maxHeartbeats 0 in
/-- LentNamesModel.number(II)I -/
theorem c174_75 {sc : Nat × Nat} {d a1 a2 : Nat} {h : xh} (hJ : J h) (ba1 : 2147483647 ≤ a1 ∧ a1 ≤ 2147483659) (ba2 : 2147483647 ≤ a2 ∧ a2 ≤ 2147484769) : X sc 174 (d + 2) (xI fun r h' => J h' ∧ Fr 5242881 h h' ∧ (2147483647 ≤ r ∧ r ≤ 2147484769) ∧ (h 75 7 + 0 ≤ h' 75 7) ∧ (2147483648 ≤ r → h 75 7 + 1 ≤ h' 75 7) ∧ (2147483648 ≤ r → r ≤ a2) ∧ (2147483648 ≤ r → a1 ≤ r) ∧ (2147483647 ≤ a2 → r ≤ a2)) 0 0 0 [x_r 75, iv_c a1, iv_c a2, 147573952589676412928] [] h := by
  have la1 : a1 < 4294967296 := by omega
  have la2 : a2 < 4294967296 := by omega
  have hF := Fr.refl 5242881 h
  refine x_aload (np := 1) (x := 0) (by decide +kernel) rfl (x_nc_le (by decide)) ?_
  refine x_cV (t := 6) (mj := 168) (n := 1) (rc := 12) (ml := 1) (nr := 0) (np := 4) (as := [x_r 75]) (rest := []) (lo1 := [x_r 75]) (by decide +kernel) (by decide) (by decide +kernel) (x_rb_of (by decide +kernel)) rfl rfl (x_wr (by decide) x_wn) x_wn (by decide) rfl (c168_75 hJ ) (fun h4 q3 => ?_)
  obtain ⟨j5, f6, c9, c10⟩ := q3
  have f11 := Fr.trans hF f6 (by decide)
  have b12 := jB (e := 7) 0 hJ rg_75_7_0_1 (by omega) (by omega)
  have b13 := jB (e := 7) 0 j5 rg_75_7_0_1 (by omega) (by omega)
  have b14 := jB (e := 9) 0 j5 rg_75_9_0_1 (by omega) (by omega)
  refine x_const (np := 5) (x := 9223372039002259456) (a := 2147483648) (by decide +kernel) (by decide) (by decide) ?_
  refine x_istore (np := 6) (x := 3) (lo' := [x_r 75, iv_c a1, iv_c a2, iv_c 2147483648]) (by decide +kernel) (by decide) (Nat.le_of_ble_eq_true rfl) rfl ?_
  have p478 : ∀ (n : Nat) (v473 : Nat) (h475 : xh), 4294967296 - h475 75 7 < n → (0 ≤ v473 ∧ v473 ≤ 4294967295) → h 75 7 ≤ h475 75 9 → h475 75 9 ≤ h475 75 7 → J h475 → Fr 1048576 h4 h475 → X sc 174 (d + 2) (xI fun r h' => J h' ∧ Fr 5242881 h h' ∧ (2147483647 ≤ r ∧ r ≤ 2147484769) ∧ (h 75 7 + 0 ≤ h' 75 7) ∧ (2147483648 ≤ r → h 75 7 + 1 ≤ h' 75 7) ∧ (2147483648 ≤ r → r ≤ a2) ∧ (2147483648 ≤ r → a1 ≤ r) ∧ (2147483647 ≤ a2 → r ≤ a2)) 0 0 6 [x_r 75, iv_c a1, iv_c a2, iv_c v473] [] h475 := by
    intro n
    induction n with
    | zero => intro v473 h475 q481; exact absurd q481 (Nat.not_lt_zero _)
    | succ n i482 =>
      intro v473 h475 q481 b474 b479 b480 j477 f476
      have f483 := Fr.trans f11 f476 (by decide)
      refine x_aload (np := 7) (x := 0) (by decide +kernel) rfl (x_nc_le (by decide)) ?_
      refine x_const (np := 9) (x := 9223372245160689712) (a := 2147483696) (by decide +kernel) (by decide) (by decide) ?_
      refine x_const (np := 11) (x := 9223372283815395385) (a := 2147483705) (by decide +kernel) (by decide) (by decide) ?_
      refine x_nI (t := 6) (mj := 167) (n := 3) (rc := 12) (ml := 3) (nr := 0) (np := 14) (as := [x_r 75, iv_c 2147483696, iv_c 2147483705]) (rest := []) (lo1 := [x_r 75, iv_c 2147483696, iv_c 2147483705]) (by decide +kernel) (by decide) (by decide +kernel) (x_rb_of (by decide +kernel)) rfl rfl (x_wr (by decide) (x_wi (by decide) (x_wi (by decide) x_wn))) x_wn (by decide) rfl ?_
      refine x_aload (np := 1) (x := 0) (by decide +kernel) rfl (x_nc_le (by decide)) ?_
      have b484 := jB (e := 7) 0 j477 rg_75_7_0_1 (by omega) (by omega)
      refine x_getC (np := 4) (x := 711) (f := 7) (q := (h475 75 7)) (by decide +kernel) (by decide) (by decide +kernel) rfl (fun l485 => ?_)
      refine x_aload (np := 5) (x := 0) (by decide +kernel) rfl (x_nc_le (by decide)) ?_
      have q486 : h475 75 8 = h4 75 8 := jK 0 f476 rg_75_8_0_1 (by omega) (by omega) (by decide)
      have q487 : h4 75 8 = h 75 8 := jK 0 f6 rg_75_8_0_1 (by omega) (by omega) (by decide)
      have b488 := jB (e := 8) 0 hJ rg_75_8_0_1 (by omega) (by omega)
      refine x_getC (np := 8) (x := 712) (f := 8) (q := (h 75 8)) (by decide +kernel) (by decide) (by decide +kernel) (q486.trans q487) (fun l489 => ?_)
      refine x_icmp (k := 3) (tg := 41) (np := 11) (by decide +kernel) (by decide) l485 l489 (fun q490 => ?_) (fun q491 => ?_)
      · have q490 : (h 75 8) ≤ (h475 75 7) := q490
        refine x_const (np := 42) (x := 9223372039002259456) (a := 2147483648) (by decide +kernel) (by decide) (by decide) ?_
        refine x_retI (np := 43) (x := 0) (by decide +kernel) (by decide) (Or.inr ⟨by decide +kernel, by omega, by omega⟩) ⟨_, rfl, (by decide), ?_⟩
        refine x_ifz (k := 0) (tg := 65) (np := 17) (by decide +kernel) (by decide) (by decide) (fun q492 => ?_) (fun q493 => ?_)
        · have q492 : 2147483648 = 2147483648 := q492
          refine x_aload (np := 66) (x := 0) (by decide +kernel) rfl (x_nc_le (by decide)) ?_
          refine x_getC (np := 69) (x := 711) (f := 7) (q := (h475 75 7)) (by decide +kernel) (by decide) (by decide +kernel) rfl (fun l494 => ?_)
          refine x_aload (np := 70) (x := 0) (by decide +kernel) rfl (x_nc_le (by decide)) ?_
          have q495 : h475 75 9 = h4 75 9 := jK 0 f476 rg_75_9_0_1 (by omega) (by omega) (by decide)
          refine x_getC (np := 73) (x := 713) (f := 9) (q := (h4 75 9)) (by decide +kernel) (by decide) (by decide +kernel) q495 (fun l496 => ?_)
          refine x_icmp (k := 0) (tg := 99) (np := 76) (by decide +kernel) (by decide) l485 l496 (fun q497 => ?_) (fun q498 => ?_)
          · have q497 : (h475 75 7) = (h4 75 9) := q497
            refine x_const (np := 100) (x := 9223372034707292159) (a := 2147483647) (by decide +kernel) (by decide) (by decide) ?_
            refine x_goto (np := 103) (x := 104) (by decide +kernel) ?_
            refine x_retI (np := 105) (x := 0) (by decide +kernel) (by decide) (Or.inl (by decide +kernel)) ⟨_, rfl, (by decide), ?_⟩
            exact ⟨j477, f483, (by omega), (by omega), (fun z => by omega), (fun z => by omega), (fun z => by omega), (fun z => by omega)⟩
          have q498 : ¬ ((h475 75 7) = (h4 75 9)) := q498
          refine x_aload (np := 77) (x := 0) (by decide +kernel) rfl (x_nc_le (by decide)) ?_
          refine x_getC (np := 80) (x := 711) (f := 7) (q := (h475 75 7)) (by decide +kernel) (by decide) (by decide +kernel) rfl (fun l499 => ?_)
          refine x_aload (np := 81) (x := 0) (by decide +kernel) rfl (x_nc_le (by decide)) ?_
          have q500 : h475 75 9 = h4 75 9 := jK 0 f476 rg_75_9_0_1 (by omega) (by omega) (by decide)
          refine x_getC (np := 84) (x := 713) (f := 9) (q := (h4 75 9)) (by decide +kernel) (by decide) (by decide +kernel) q500 (fun l501 => ?_)
          obtain ⟨v502, q503⟩ : ∃ z, z + (h4 75 9) = (h475 75 7) + 2147483648 := ⟨(h475 75 7) + 2147483648 - (h4 75 9), by omega⟩
          refine x_isub (np := 85) (x := 0) (v := v502) (by decide +kernel) l485 l496 (by omega) (by omega) ?_
          refine x_const (np := 86) (x := 9223372051887161347) (a := 2147483651) (by decide +kernel) (by decide) (by decide) ?_
          refine x_icmp (k := 4) (tg := 99) (np := 89) (by decide +kernel) (by decide) (by omega) (by decide) (fun q504 => ?_) (fun q505 => ?_)
          · have q504 : 2147483651 < v502 := q504
            refine x_const (np := 100) (x := 9223372034707292159) (a := 2147483647) (by decide +kernel) (by decide) (by decide) ?_
            refine x_goto (np := 103) (x := 104) (by decide +kernel) ?_
            refine x_retI (np := 105) (x := 0) (by decide +kernel) (by decide) (Or.inl (by decide +kernel)) ⟨_, rfl, (by decide), ?_⟩
            exact ⟨j477, f483, (by omega), (by omega), (fun z => by omega), (fun z => by omega), (fun z => by omega), (fun z => by omega)⟩
          have q505 : ¬ (2147483651 < v502) := q505
          refine x_iload (np := 90) (x := 3) (by decide +kernel) rfl (by omega) ?_
          refine x_iload (np := 91) (x := 1) (by decide +kernel) rfl la1 ?_
          refine x_icmp (k := 2) (tg := 99) (np := 94) (by decide +kernel) (by decide) (by omega) la1 (fun q506 => ?_) (fun q507 => ?_)
          · have q506 : v473 < a1 := q506
            refine x_const (np := 100) (x := 9223372034707292159) (a := 2147483647) (by decide +kernel) (by decide) (by decide) ?_
            refine x_goto (np := 103) (x := 104) (by decide +kernel) ?_
            refine x_retI (np := 105) (x := 0) (by decide +kernel) (by decide) (Or.inl (by decide +kernel)) ⟨_, rfl, (by decide), ?_⟩
            exact ⟨j477, f483, (by omega), (by omega), (fun z => by omega), (fun z => by omega), (fun z => by omega), (fun z => by omega)⟩
          have q507 : ¬ (v473 < a1) := q507
          refine x_iload (np := 95) (x := 3) (by decide +kernel) rfl (by omega) ?_
          refine x_iload (np := 96) (x := 2) (by decide +kernel) rfl la2 ?_
          refine x_icmp (k := 5) (tg := 103) (np := 99) (by decide +kernel) (by decide) (by omega) la2 (fun q508 => ?_) (fun q509 => ?_)
          · have q508 : v473 ≤ a2 := q508
            refine x_iload (np := 104) (x := 3) (by decide +kernel) rfl (by omega) ?_
            refine x_retI (np := 105) (x := 0) (by decide +kernel) (by omega) (Or.inl (by decide +kernel)) ⟨_, rfl, (by omega), ?_⟩
            exact ⟨j477, f483, (by omega), (by omega), (fun z => by omega), (fun z => by omega), (fun z => by omega), (fun z => by omega)⟩
          have q509 : ¬ (v473 ≤ a2) := q509
          refine x_const (np := 100) (x := 9223372034707292159) (a := 2147483647) (by decide +kernel) (by decide) (by decide) ?_
          refine x_goto (np := 103) (x := 104) (by decide +kernel) ?_
          refine x_retI (np := 105) (x := 0) (by decide +kernel) (by decide) (Or.inl (by decide +kernel)) ⟨_, rfl, (by decide), ?_⟩
          exact ⟨j477, f483, (by omega), (by omega), (fun z => by omega), (fun z => by omega), (fun z => by omega), (fun z => by omega)⟩
        have q493 : ¬ (2147483648 = 2147483648) := q493
        exfalso; omega
      have q491 : ¬ ((h 75 8) ≤ (h475 75 7)) := q491
      refine x_aload (np := 12) (x := 0) (by decide +kernel) rfl (x_nc_le (by decide)) ?_
      have q510 : h475 75 5 = 79 := by have z := jB (e := 5) 0 j477 rg_75_5_0_1 (by decide) (by decide); omega
      refine x_getR (np := 15) (x := 709) (f := 5) (q := 79) (by decide +kernel) (by decide) (by decide +kernel) q510 ?_
      refine x_aload (np := 16) (x := 0) (by decide +kernel) rfl (x_nc_le (by decide)) ?_
      refine x_getC (np := 19) (x := 711) (f := 7) (q := (h475 75 7)) (by decide +kernel) (by decide) (by decide +kernel) rfl (fun l511 => ?_)
      obtain ⟨u512, q513⟩ : ∃ z, (h475 75 7) = 2147483648 + z := ⟨(h475 75 7) - 2147483648, by omega⟩
      have q514 : h475 79 u512 = h4 79 u512 := jK u512 f476 rg_79_0_1_400 (by omega) (by omega) (by decide)
      have q515 : h4 79 u512 = h 79 u512 := jK u512 f6 rg_79_0_1_400 (by omega) (by omega) (by decide)
      have b516 := jB (e := u512) u512 hJ rg_79_0_1_400 (by omega) (by omega)
      refine x_baldC (np := 20) (x := 0) (n := 400) (i := u512) (q := (h 79 u512)) (by decide +kernel) (by decide +kernel) (by omega) (by omega) (by decide) (q514.trans q515) (fun l517 => ?_)
      refine x_iload (np := 21) (x := 1) (by decide +kernel) rfl (by decide) ?_
      refine x_icmp (k := 2) (tg := 41) (np := 24) (by decide +kernel) (by decide) l517 (by decide) (fun q518 => ?_) (fun q519 => ?_)
      · have q518 : (h 79 u512) < 2147483696 := q518
        refine x_const (np := 42) (x := 9223372039002259456) (a := 2147483648) (by decide +kernel) (by decide) (by decide) ?_
        refine x_retI (np := 43) (x := 0) (by decide +kernel) (by decide) (Or.inr ⟨by decide +kernel, by omega, by omega⟩) ⟨_, rfl, (by decide), ?_⟩
        refine x_ifz (k := 0) (tg := 65) (np := 17) (by decide +kernel) (by decide) (by decide) (fun q520 => ?_) (fun q521 => ?_)
        · have q520 : 2147483648 = 2147483648 := q520
          refine x_aload (np := 66) (x := 0) (by decide +kernel) rfl (x_nc_le (by decide)) ?_
          refine x_getC (np := 69) (x := 711) (f := 7) (q := (h475 75 7)) (by decide +kernel) (by decide) (by decide +kernel) rfl (fun l522 => ?_)
          refine x_aload (np := 70) (x := 0) (by decide +kernel) rfl (x_nc_le (by decide)) ?_
          have q523 : h475 75 9 = h4 75 9 := jK 0 f476 rg_75_9_0_1 (by omega) (by omega) (by decide)
          refine x_getC (np := 73) (x := 713) (f := 9) (q := (h4 75 9)) (by decide +kernel) (by decide) (by decide +kernel) q523 (fun l524 => ?_)
          refine x_icmp (k := 0) (tg := 99) (np := 76) (by decide +kernel) (by decide) l485 l524 (fun q525 => ?_) (fun q526 => ?_)
          · have q525 : (h475 75 7) = (h4 75 9) := q525
            refine x_const (np := 100) (x := 9223372034707292159) (a := 2147483647) (by decide +kernel) (by decide) (by decide) ?_
            refine x_goto (np := 103) (x := 104) (by decide +kernel) ?_
            refine x_retI (np := 105) (x := 0) (by decide +kernel) (by decide) (Or.inl (by decide +kernel)) ⟨_, rfl, (by decide), ?_⟩
            exact ⟨j477, f483, (by omega), (by omega), (fun z => by omega), (fun z => by omega), (fun z => by omega), (fun z => by omega)⟩
          have q526 : ¬ ((h475 75 7) = (h4 75 9)) := q526
          refine x_aload (np := 77) (x := 0) (by decide +kernel) rfl (x_nc_le (by decide)) ?_
          refine x_getC (np := 80) (x := 711) (f := 7) (q := (h475 75 7)) (by decide +kernel) (by decide) (by decide +kernel) rfl (fun l527 => ?_)
          refine x_aload (np := 81) (x := 0) (by decide +kernel) rfl (x_nc_le (by decide)) ?_
          have q528 : h475 75 9 = h4 75 9 := jK 0 f476 rg_75_9_0_1 (by omega) (by omega) (by decide)
          refine x_getC (np := 84) (x := 713) (f := 9) (q := (h4 75 9)) (by decide +kernel) (by decide) (by decide +kernel) q528 (fun l529 => ?_)
          obtain ⟨v530, q531⟩ : ∃ z, z + (h4 75 9) = (h475 75 7) + 2147483648 := ⟨(h475 75 7) + 2147483648 - (h4 75 9), by omega⟩
          refine x_isub (np := 85) (x := 0) (v := v530) (by decide +kernel) l485 l524 (by omega) (by omega) ?_
          refine x_const (np := 86) (x := 9223372051887161347) (a := 2147483651) (by decide +kernel) (by decide) (by decide) ?_
          refine x_icmp (k := 4) (tg := 99) (np := 89) (by decide +kernel) (by decide) (by omega) (by decide) (fun q532 => ?_) (fun q533 => ?_)
          · have q532 : 2147483651 < v530 := q532
            refine x_const (np := 100) (x := 9223372034707292159) (a := 2147483647) (by decide +kernel) (by decide) (by decide) ?_
            refine x_goto (np := 103) (x := 104) (by decide +kernel) ?_
            refine x_retI (np := 105) (x := 0) (by decide +kernel) (by decide) (Or.inl (by decide +kernel)) ⟨_, rfl, (by decide), ?_⟩
            exact ⟨j477, f483, (by omega), (by omega), (fun z => by omega), (fun z => by omega), (fun z => by omega), (fun z => by omega)⟩
          have q533 : ¬ (2147483651 < v530) := q533
          refine x_iload (np := 90) (x := 3) (by decide +kernel) rfl (by omega) ?_
          refine x_iload (np := 91) (x := 1) (by decide +kernel) rfl la1 ?_
          refine x_icmp (k := 2) (tg := 99) (np := 94) (by decide +kernel) (by decide) (by omega) la1 (fun q534 => ?_) (fun q535 => ?_)
          · have q534 : v473 < a1 := q534
            refine x_const (np := 100) (x := 9223372034707292159) (a := 2147483647) (by decide +kernel) (by decide) (by decide) ?_
            refine x_goto (np := 103) (x := 104) (by decide +kernel) ?_
            refine x_retI (np := 105) (x := 0) (by decide +kernel) (by decide) (Or.inl (by decide +kernel)) ⟨_, rfl, (by decide), ?_⟩
            exact ⟨j477, f483, (by omega), (by omega), (fun z => by omega), (fun z => by omega), (fun z => by omega), (fun z => by omega)⟩
          have q535 : ¬ (v473 < a1) := q535
          refine x_iload (np := 95) (x := 3) (by decide +kernel) rfl (by omega) ?_
          refine x_iload (np := 96) (x := 2) (by decide +kernel) rfl la2 ?_
          refine x_icmp (k := 5) (tg := 103) (np := 99) (by decide +kernel) (by decide) (by omega) la2 (fun q536 => ?_) (fun q537 => ?_)
          · have q536 : v473 ≤ a2 := q536
            refine x_iload (np := 104) (x := 3) (by decide +kernel) rfl (by omega) ?_
            refine x_retI (np := 105) (x := 0) (by decide +kernel) (by omega) (Or.inl (by decide +kernel)) ⟨_, rfl, (by omega), ?_⟩
            exact ⟨j477, f483, (by omega), (by omega), (fun z => by omega), (fun z => by omega), (fun z => by omega), (fun z => by omega)⟩
          have q537 : ¬ (v473 ≤ a2) := q537
          refine x_const (np := 100) (x := 9223372034707292159) (a := 2147483647) (by decide +kernel) (by decide) (by decide) ?_
          refine x_goto (np := 103) (x := 104) (by decide +kernel) ?_
          refine x_retI (np := 105) (x := 0) (by decide +kernel) (by decide) (Or.inl (by decide +kernel)) ⟨_, rfl, (by decide), ?_⟩
          exact ⟨j477, f483, (by omega), (by omega), (fun z => by omega), (fun z => by omega), (fun z => by omega), (fun z => by omega)⟩
        have q521 : ¬ (2147483648 = 2147483648) := q521
        exfalso; omega
      have q519 : ¬ ((h 79 u512) < 2147483696) := q519
      refine x_aload (np := 25) (x := 0) (by decide +kernel) rfl (x_nc_le (by decide)) ?_
      have q538 : h475 75 5 = 79 := by have z := jB (e := 5) 0 j477 rg_75_5_0_1 (by decide) (by decide); omega
      refine x_getR (np := 28) (x := 709) (f := 5) (q := 79) (by decide +kernel) (by decide) (by decide +kernel) q538 ?_
      refine x_aload (np := 29) (x := 0) (by decide +kernel) rfl (x_nc_le (by decide)) ?_
      refine x_getC (np := 32) (x := 711) (f := 7) (q := (h475 75 7)) (by decide +kernel) (by decide) (by decide +kernel) rfl (fun l539 => ?_)
      have q540 : h475 79 u512 = h4 79 u512 := jK u512 f476 rg_79_0_1_400 (by omega) (by omega) (by decide)
      have q541 : h4 79 u512 = h 79 u512 := jK u512 f6 rg_79_0_1_400 (by omega) (by omega) (by decide)
      refine x_baldC (np := 33) (x := 0) (n := 400) (i := u512) (q := (h 79 u512)) (by decide +kernel) (by decide +kernel) (by omega) (by omega) (by decide) (q540.trans q541) (fun l542 => ?_)
      refine x_iload (np := 34) (x := 2) (by decide +kernel) rfl (by decide) ?_
      refine x_icmp (k := 4) (tg := 41) (np := 37) (by decide +kernel) (by decide) l517 (by decide) (fun q543 => ?_) (fun q544 => ?_)
      · have q543 : 2147483705 < (h 79 u512) := q543
        refine x_const (np := 42) (x := 9223372039002259456) (a := 2147483648) (by decide +kernel) (by decide) (by decide) ?_
        refine x_retI (np := 43) (x := 0) (by decide +kernel) (by decide) (Or.inr ⟨by decide +kernel, by omega, by omega⟩) ⟨_, rfl, (by decide), ?_⟩
        refine x_ifz (k := 0) (tg := 65) (np := 17) (by decide +kernel) (by decide) (by decide) (fun q545 => ?_) (fun q546 => ?_)
        · have q545 : 2147483648 = 2147483648 := q545
          refine x_aload (np := 66) (x := 0) (by decide +kernel) rfl (x_nc_le (by decide)) ?_
          refine x_getC (np := 69) (x := 711) (f := 7) (q := (h475 75 7)) (by decide +kernel) (by decide) (by decide +kernel) rfl (fun l547 => ?_)
          refine x_aload (np := 70) (x := 0) (by decide +kernel) rfl (x_nc_le (by decide)) ?_
          have q548 : h475 75 9 = h4 75 9 := jK 0 f476 rg_75_9_0_1 (by omega) (by omega) (by decide)
          refine x_getC (np := 73) (x := 713) (f := 9) (q := (h4 75 9)) (by decide +kernel) (by decide) (by decide +kernel) q548 (fun l549 => ?_)
          refine x_icmp (k := 0) (tg := 99) (np := 76) (by decide +kernel) (by decide) l485 l549 (fun q550 => ?_) (fun q551 => ?_)
          · have q550 : (h475 75 7) = (h4 75 9) := q550
            refine x_const (np := 100) (x := 9223372034707292159) (a := 2147483647) (by decide +kernel) (by decide) (by decide) ?_
            refine x_goto (np := 103) (x := 104) (by decide +kernel) ?_
            refine x_retI (np := 105) (x := 0) (by decide +kernel) (by decide) (Or.inl (by decide +kernel)) ⟨_, rfl, (by decide), ?_⟩
            exact ⟨j477, f483, (by omega), (by omega), (fun z => by omega), (fun z => by omega), (fun z => by omega), (fun z => by omega)⟩
          have q551 : ¬ ((h475 75 7) = (h4 75 9)) := q551
          refine x_aload (np := 77) (x := 0) (by decide +kernel) rfl (x_nc_le (by decide)) ?_
          refine x_getC (np := 80) (x := 711) (f := 7) (q := (h475 75 7)) (by decide +kernel) (by decide) (by decide +kernel) rfl (fun l552 => ?_)
          refine x_aload (np := 81) (x := 0) (by decide +kernel) rfl (x_nc_le (by decide)) ?_
          have q553 : h475 75 9 = h4 75 9 := jK 0 f476 rg_75_9_0_1 (by omega) (by omega) (by decide)
          refine x_getC (np := 84) (x := 713) (f := 9) (q := (h4 75 9)) (by decide +kernel) (by decide) (by decide +kernel) q553 (fun l554 => ?_)
          obtain ⟨v555, q556⟩ : ∃ z, z + (h4 75 9) = (h475 75 7) + 2147483648 := ⟨(h475 75 7) + 2147483648 - (h4 75 9), by omega⟩
          refine x_isub (np := 85) (x := 0) (v := v555) (by decide +kernel) l485 l549 (by omega) (by omega) ?_
          refine x_const (np := 86) (x := 9223372051887161347) (a := 2147483651) (by decide +kernel) (by decide) (by decide) ?_
          refine x_icmp (k := 4) (tg := 99) (np := 89) (by decide +kernel) (by decide) (by omega) (by decide) (fun q557 => ?_) (fun q558 => ?_)
          · have q557 : 2147483651 < v555 := q557
            refine x_const (np := 100) (x := 9223372034707292159) (a := 2147483647) (by decide +kernel) (by decide) (by decide) ?_
            refine x_goto (np := 103) (x := 104) (by decide +kernel) ?_
            refine x_retI (np := 105) (x := 0) (by decide +kernel) (by decide) (Or.inl (by decide +kernel)) ⟨_, rfl, (by decide), ?_⟩
            exact ⟨j477, f483, (by omega), (by omega), (fun z => by omega), (fun z => by omega), (fun z => by omega), (fun z => by omega)⟩
          have q558 : ¬ (2147483651 < v555) := q558
          refine x_iload (np := 90) (x := 3) (by decide +kernel) rfl (by omega) ?_
          refine x_iload (np := 91) (x := 1) (by decide +kernel) rfl la1 ?_
          refine x_icmp (k := 2) (tg := 99) (np := 94) (by decide +kernel) (by decide) (by omega) la1 (fun q559 => ?_) (fun q560 => ?_)
          · have q559 : v473 < a1 := q559
            refine x_const (np := 100) (x := 9223372034707292159) (a := 2147483647) (by decide +kernel) (by decide) (by decide) ?_
            refine x_goto (np := 103) (x := 104) (by decide +kernel) ?_
            refine x_retI (np := 105) (x := 0) (by decide +kernel) (by decide) (Or.inl (by decide +kernel)) ⟨_, rfl, (by decide), ?_⟩
            exact ⟨j477, f483, (by omega), (by omega), (fun z => by omega), (fun z => by omega), (fun z => by omega), (fun z => by omega)⟩
          have q560 : ¬ (v473 < a1) := q560
          refine x_iload (np := 95) (x := 3) (by decide +kernel) rfl (by omega) ?_
          refine x_iload (np := 96) (x := 2) (by decide +kernel) rfl la2 ?_
          refine x_icmp (k := 5) (tg := 103) (np := 99) (by decide +kernel) (by decide) (by omega) la2 (fun q561 => ?_) (fun q562 => ?_)
          · have q561 : v473 ≤ a2 := q561
            refine x_iload (np := 104) (x := 3) (by decide +kernel) rfl (by omega) ?_
            refine x_retI (np := 105) (x := 0) (by decide +kernel) (by omega) (Or.inl (by decide +kernel)) ⟨_, rfl, (by omega), ?_⟩
            exact ⟨j477, f483, (by omega), (by omega), (fun z => by omega), (fun z => by omega), (fun z => by omega), (fun z => by omega)⟩
          have q562 : ¬ (v473 ≤ a2) := q562
          refine x_const (np := 100) (x := 9223372034707292159) (a := 2147483647) (by decide +kernel) (by decide) (by decide) ?_
          refine x_goto (np := 103) (x := 104) (by decide +kernel) ?_
          refine x_retI (np := 105) (x := 0) (by decide +kernel) (by decide) (Or.inl (by decide +kernel)) ⟨_, rfl, (by decide), ?_⟩
          exact ⟨j477, f483, (by omega), (by omega), (fun z => by omega), (fun z => by omega), (fun z => by omega), (fun z => by omega)⟩
        have q546 : ¬ (2147483648 = 2147483648) := q546
        exfalso; omega
      have q544 : ¬ (2147483705 < (h 79 u512)) := q544
      refine x_const (np := 38) (x := 9223372043297226753) (a := 2147483649) (by decide +kernel) (by decide) (by decide) ?_
      refine x_goto (np := 41) (x := 42) (by decide +kernel) ?_
      refine x_retI (np := 43) (x := 0) (by decide +kernel) (by decide) (Or.inr ⟨by decide +kernel, by omega, by omega⟩) ⟨_, rfl, (by decide), ?_⟩
      refine x_ifz (k := 0) (tg := 65) (np := 17) (by decide +kernel) (by decide) (by decide) (fun q563 => ?_) (fun q564 => ?_)
      · have q563 : 2147483649 = 2147483648 := q563
        exfalso; omega
      have q564 : ¬ (2147483649 = 2147483648) := q564
      refine x_aload (np := 18) (x := 0) (by decide +kernel) rfl (x_nc_le (by decide)) ?_
      refine x_getC (np := 21) (x := 711) (f := 7) (q := (h475 75 7)) (by decide +kernel) (by decide) (by decide +kernel) rfl (fun l565 => ?_)
      refine x_aload (np := 22) (x := 0) (by decide +kernel) rfl (x_nc_le (by decide)) ?_
      have q566 : h475 75 9 = h4 75 9 := jK 0 f476 rg_75_9_0_1 (by omega) (by omega) (by decide)
      refine x_getC (np := 25) (x := 713) (f := 9) (q := (h4 75 9)) (by decide +kernel) (by decide) (by decide +kernel) q566 (fun l567 => ?_)
      obtain ⟨v568, q569⟩ : ∃ z, z + (h4 75 9) = (h475 75 7) + 2147483648 := ⟨(h475 75 7) + 2147483648 - (h4 75 9), by omega⟩
      refine x_isub (np := 26) (x := 0) (v := v568) (by decide +kernel) l485 l567 (by omega) (by omega) ?_
      refine x_const (np := 27) (x := 9223372051887161347) (a := 2147483651) (by decide +kernel) (by decide) (by decide) ?_
      refine x_icmp (k := 3) (tg := 50) (np := 30) (by decide +kernel) (by decide) (by omega) (by decide) (fun q570 => ?_) (fun q571 => ?_)
      · have q570 : 2147483651 ≤ v568 := q570
        refine x_iload (np := 51) (x := 3) (by decide +kernel) rfl (by omega) ?_
        refine x_istore (np := 52) (x := 3) (lo' := [x_r 75, iv_c a1, iv_c a2, iv_c v473]) (by decide +kernel) (by omega) (Nat.le_of_ble_eq_true rfl) rfl ?_
        refine x_aload (np := 53) (x := 0) (by decide +kernel) rfl (x_nc_le (by decide)) ?_
        refine x_dup (np := 54) (x := 0) (by decide +kernel) (by have z := x_nc_le (k := 75) (by decide); unfold x_r; omega) ?_
        refine x_getC (np := 57) (x := 711) (f := 7) (q := (h475 75 7)) (by decide +kernel) (by decide) (by decide +kernel) rfl (fun l572 => ?_)
        refine x_const (np := 58) (x := 9223372043297226753) (a := 2147483649) (by decide +kernel) (by decide) (by decide) ?_
        refine x_iadd (np := 59) (x := 0) (v := (1 + (h475 75 7))) (by decide +kernel) l485 (by decide) (by omega) (by omega) ?_
        refine x_putI (np := 62) (x := 711) (f := 7) (by decide +kernel) (by decide +kernel) (by omega) (Or.inl (by decide)) ?_
        have j574 := jU (e := 7) (v := (1 + (h475 75 7))) 0 j477 rg_75_7_0_1 (by omega) (by omega) (by omega)
        have f576 := jF (e := 7) (v := (1 + (h475 75 7))) 0 f483 rg_75_7_0_1 (by omega) (by omega) (by decide)
        have f577 := jF (e := 7) (v := (1 + (h475 75 7))) 0 f476 rg_75_7_0_1 (by omega) (by omega) (by decide)
        generalize e575 : x_up h475 75 7 (1 + (h475 75 7)) = h573 at j574 f576 f577 ⊢
        refine x_goto (np := 65) (x := 6) (by decide +kernel) ?_
        have q578 : h573 75 7 = (1 + (h475 75 7)) := by rw [← e575]; exact x_up_at
        have q579 : h573 75 7 = (1 + (h475 75 7)) := by rw [← e575]; exact x_up_at
        have q580 : h573 75 9 = h475 75 9 := by rw [← e575]; exact x_up_i (by omega)
        have q581 : h475 75 9 = h4 75 9 := jK 0 f476 rg_75_9_0_1 (by omega) (by omega) (by decide)
        exact i482 v473 h573 (by omega) (by omega) (by omega) (by omega) j574 f577
      have q571 : ¬ (2147483651 ≤ v568) := q571
      refine x_const (np := 32) (x := 9223372081951932426) (a := 2147483658) (by decide +kernel) (by decide) (by decide) ?_
      refine x_iload (np := 33) (x := 3) (by decide +kernel) rfl (by omega) ?_
      refine x_mulA (by rw [tb_b174]; decide +kernel) (by decide) (by omega) (fun v582 l583 => ?_)
      refine x_aload (np := 35) (x := 0) (by decide +kernel) rfl (x_nc_le (by decide)) ?_
      have q584 : h475 75 5 = 79 := by have z := jB (e := 5) 0 j477 rg_75_5_0_1 (by decide) (by decide); omega
      refine x_getR (np := 38) (x := 709) (f := 5) (q := 79) (by decide +kernel) (by decide) (by decide +kernel) q584 ?_
      refine x_aload (np := 39) (x := 0) (by decide +kernel) rfl (x_nc_le (by decide)) ?_
      refine x_getC (np := 42) (x := 711) (f := 7) (q := (h475 75 7)) (by decide +kernel) (by decide) (by decide +kernel) rfl (fun l585 => ?_)
      have q586 : h475 79 u512 = h4 79 u512 := jK u512 f476 rg_79_0_1_400 (by omega) (by omega) (by decide)
      have q587 : h4 79 u512 = h 79 u512 := jK u512 f6 rg_79_0_1_400 (by omega) (by omega) (by decide)
      refine x_baldC (np := 43) (x := 0) (n := 400) (i := u512) (q := (h 79 u512)) (by decide +kernel) (by decide +kernel) (by omega) (by omega) (by decide) (q586.trans q587) (fun l588 => ?_)
      refine x_addA (by rw [tb_b174]; decide +kernel) l583 l517 (fun v589 l590 => ?_)
      refine x_const (np := 46) (x := 9223372245160689712) (a := 2147483696) (by decide +kernel) (by decide) (by decide) ?_
      refine x_subA (by rw [tb_b174]; decide +kernel) l590 (by decide) (fun v591 l592 => ?_)
      refine x_goto (np := 50) (x := 51) (by decide +kernel) ?_
      refine x_istore (np := 52) (x := 3) (lo' := [x_r 75, iv_c a1, iv_c a2, iv_c v591]) (by decide +kernel) l592 (Nat.le_of_ble_eq_true rfl) rfl ?_
      refine x_aload (np := 53) (x := 0) (by decide +kernel) rfl (x_nc_le (by decide)) ?_
      refine x_dup (np := 54) (x := 0) (by decide +kernel) (by have z := x_nc_le (k := 75) (by decide); unfold x_r; omega) ?_
      refine x_getC (np := 57) (x := 711) (f := 7) (q := (h475 75 7)) (by decide +kernel) (by decide) (by decide +kernel) rfl (fun l593 => ?_)
      refine x_const (np := 58) (x := 9223372043297226753) (a := 2147483649) (by decide +kernel) (by decide) (by decide) ?_
      refine x_iadd (np := 59) (x := 0) (v := (1 + (h475 75 7))) (by decide +kernel) l485 (by decide) (by omega) (by omega) ?_
      refine x_putI (np := 62) (x := 711) (f := 7) (by decide +kernel) (by decide +kernel) (by omega) (Or.inl (by decide)) ?_
      have j595 := jU (e := 7) (v := (1 + (h475 75 7))) 0 j477 rg_75_7_0_1 (by omega) (by omega) (by omega)
      have f597 := jF (e := 7) (v := (1 + (h475 75 7))) 0 f483 rg_75_7_0_1 (by omega) (by omega) (by decide)
      have f598 := jF (e := 7) (v := (1 + (h475 75 7))) 0 f476 rg_75_7_0_1 (by omega) (by omega) (by decide)
      generalize e596 : x_up h475 75 7 (1 + (h475 75 7)) = h594 at j595 f597 f598 ⊢
      refine x_goto (np := 65) (x := 6) (by decide +kernel) ?_
      have q599 : h594 75 7 = (1 + (h475 75 7)) := by rw [← e596]; exact x_up_at
      have q600 : h594 75 7 = (1 + (h475 75 7)) := by rw [← e596]; exact x_up_at
      have q601 : h594 75 9 = h475 75 9 := by rw [← e596]; exact x_up_i (by omega)
      have q602 : h475 75 9 = h4 75 9 := jK 0 f476 rg_75_9_0_1 (by omega) (by omega) (by decide)
      exact i482 v591 h594 (by omega) (by omega) (by omega) (by omega) j595 f598
  exact p478 _ 2147483648 h4 (Nat.lt_succ_self _) (by omega) (by omega) (by omega) j5 (Fr.refl _ _)
set_option maxHeartbeats 0 in
/-- LentNamesModel.readPart()Z -/
theorem c188_75 {sc : Nat × Nat} {d  : Nat} {h : xh} (hJ : J h) (hr0 : (h 75 13) + 5 ≤ (h 75 7)) : X sc 188 (d + 5) (xI fun r h' => J h' ∧ Fr 89128961 h h' ∧ (2147483648 ≤ r ∧ r ≤ 2147483649) ∧ (r = 2147483649 → h' 75 13 + h 75 7 ≤ h' 75 7 + h 75 13) ∧ (r = 2147483649 → h 75 7 + 0 ≤ h' 75 7) ∧ (r = 2147483649 → h 75 13 ≤ h' 75 13) ∧ Kp h h' (h 75 13 - 2147483648) ∧ (r = 2147483649 → Seg (sg h') (h 75 13 - 2147483648) (h' 75 13 - 2147483648))) 0 0 0 [x_r 75, 147573952589676412928] [] h := by
  have hF := Fr.refl 89128961 h
  have b1 := jB (e := 13) 0 hJ rg_75_13_0_1 (by omega) (by omega)
  have b2 := jB (e := 7) 0 hJ rg_75_7_0_1 (by omega) (by omega)
  refine x_aload (np := 1) (x := 0) (by decide +kernel) rfl (x_nc_le (by decide)) ?_
  refine x_cV (t := 6) (mj := 169) (n := 1) (rc := 12) (ml := 1) (nr := 0) (np := 4) (as := [x_r 75]) (rest := []) (lo1 := [x_r 75]) (by decide +kernel) (by decide) (by decide +kernel) (x_rb_of (by decide +kernel)) rfl rfl (x_wr (by decide) x_wn) x_wn (by decide) rfl (c169_75 hJ ) (fun h6 q5 => ?_)
  obtain ⟨j7, f8, c11, c12⟩ := q5
  have f13 := Fr.trans hF f8 (by decide)
  have b14 := jB (e := 9) 0 j7 rg_75_9_0_1 (by omega) (by omega)
  have b15 := jB (e := 7) 0 j7 rg_75_7_0_1 (by omega) (by omega)
  refine x_aload (np := 5) (x := 0) (by decide +kernel) rfl (x_nc_le (by decide)) ?_
  refine x_getC (np := 8) (x := 711) (f := 7) (q := (h6 75 7)) (by decide +kernel) (by decide) (by decide +kernel) rfl (fun l16 => ?_)
  refine x_aload (np := 9) (x := 0) (by decide +kernel) rfl (x_nc_le (by decide)) ?_
  refine x_getC (np := 12) (x := 713) (f := 9) (q := (h6 75 9)) (by decide +kernel) (by decide) (by decide +kernel) rfl (fun l17 => ?_)
  refine x_icmp (k := 1) (tg := 34) (np := 15) (by decide +kernel) (by decide) l16 l17 (fun q18 => ?_) (fun q19 => ?_)
  · have q18 : (h6 75 7) ≠ (h6 75 9) := q18
    refine x_aload (np := 35) (x := 0) (by decide +kernel) rfl (x_nc_le (by decide)) ?_
    refine x_ldcB (i := 2) (idx := 147) (tx := "day") (by rw [tb_y188]; exact List.mem_of_getElem? (i := 37) rfl) (by decide) (by rw [tb_b188]; decide +kernel) ?_
    refine x_cP (t := 6) (mj := 170) (n := 2) (rc := 12) (ml := 4) (nr := 0) (np := 40) (as := [x_r 75, x_b (2 + 1)]) (rest := []) (lo1 := [x_r 75, x_b (2 + 1), 147573952589676412928, 147573952589676412928]) (by decide +kernel) (by decide) (by decide +kernel) (x_rb_of (by decide +kernel)) rfl rfl (x_wr (by decide) (x_wB (by decide) x_wn)) x_wn (by decide) rfl (c170_75_S0 j7  (by decide)) (fun v20 l21 q22 => ?_)
    obtain ⟨b24, c23⟩ := q22
    have b25 : iv_tl 2 = 3 := by decide
    refine x_ifz (k := 0) (tg := 47) (np := 43) (by decide +kernel) (by decide) l21 (fun q26 => ?_) (fun q27 => ?_)
    · have q26 : v20 = 2147483648 := q26
      refine x_aload (np := 48) (x := 0) (by decide +kernel) rfl (x_nc_le (by decide)) ?_
      refine x_ldcB (i := 27) (idx := 226) (tx := "days") (by rw [tb_y188]; exact List.mem_of_getElem? (i := 62) rfl) (by decide) (by rw [tb_b188]; decide +kernel) ?_
      refine x_cP (t := 6) (mj := 170) (n := 2) (rc := 12) (ml := 4) (nr := 0) (np := 53) (as := [x_r 75, x_b (27 + 1)]) (rest := []) (lo1 := [x_r 75, x_b (27 + 1), 147573952589676412928, 147573952589676412928]) (by decide +kernel) (by decide) (by decide +kernel) (x_rb_of (by decide +kernel)) rfl rfl (x_wr (by decide) (x_wB (by decide) x_wn)) x_wn (by decide) rfl (c170_75_S0 j7  (by decide)) (fun v28 l29 q30 => ?_)
      obtain ⟨b32, c31⟩ := q30
      have b33 : iv_tl 27 = 4 := by decide
      refine x_ifz (k := 0) (tg := 60) (np := 56) (by decide +kernel) (by decide) l29 (fun q34 => ?_) (fun q35 => ?_)
      · have q34 : v28 = 2147483648 := q34
        refine x_aload (np := 61) (x := 0) (by decide +kernel) rfl (x_nc_le (by decide)) ?_
        refine x_ldcB (i := 5) (idx := 158) (tx := "pledge") (by rw [tb_y188]; exact List.mem_of_getElem? (i := 40) rfl) (by decide) (by rw [tb_b188]; decide +kernel) ?_
        refine x_cP (t := 6) (mj := 170) (n := 2) (rc := 12) (ml := 4) (nr := 0) (np := 66) (as := [x_r 75, x_b (5 + 1)]) (rest := []) (lo1 := [x_r 75, x_b (5 + 1), 147573952589676412928, 147573952589676412928]) (by decide +kernel) (by decide) (by decide +kernel) (x_rb_of (by decide +kernel)) rfl rfl (x_wr (by decide) (x_wB (by decide) x_wn)) x_wn (by decide) rfl (c170_75_S0 j7  (by decide)) (fun v36 l37 q38 => ?_)
        obtain ⟨b40, c39⟩ := q38
        have b41 : iv_tl 5 = 6 := by decide
        refine x_ifz (k := 0) (tg := 73) (np := 69) (by decide +kernel) (by decide) l37 (fun q42 => ?_) (fun q43 => ?_)
        · have q42 : v36 = 2147483648 := q42
          refine x_aload (np := 74) (x := 0) (by decide +kernel) rfl (x_nc_le (by decide)) ?_
          refine x_ldcB (i := 28) (idx := 228) (tx := "deep") (by rw [tb_y188]; exact List.mem_of_getElem? (i := 63) rfl) (by decide) (by rw [tb_b188]; decide +kernel) ?_
          refine x_cP (t := 6) (mj := 170) (n := 2) (rc := 12) (ml := 4) (nr := 0) (np := 79) (as := [x_r 75, x_b (28 + 1)]) (rest := []) (lo1 := [x_r 75, x_b (28 + 1), 147573952589676412928, 147573952589676412928]) (by decide +kernel) (by decide) (by decide +kernel) (x_rb_of (by decide +kernel)) rfl rfl (x_wr (by decide) (x_wB (by decide) x_wn)) x_wn (by decide) rfl (c170_75_S0 j7  (by decide)) (fun v44 l45 q46 => ?_)
          obtain ⟨b48, c47⟩ := q46
          have b49 : iv_tl 28 = 4 := by decide
          refine x_ifz (k := 0) (tg := 86) (np := 82) (by decide +kernel) (by decide) l45 (fun q50 => ?_) (fun q51 => ?_)
          · have q50 : v44 = 2147483648 := q50
            refine x_aload (np := 87) (x := 0) (by decide +kernel) rfl (x_nc_le (by decide)) ?_
            refine x_ldcB (i := 29) (idx := 230) (tx := "gives") (by rw [tb_y188]; exact List.mem_of_getElem? (i := 64) rfl) (by decide) (by rw [tb_b188]; decide +kernel) ?_
            refine x_cP (t := 6) (mj := 170) (n := 2) (rc := 12) (ml := 4) (nr := 0) (np := 92) (as := [x_r 75, x_b (29 + 1)]) (rest := []) (lo1 := [x_r 75, x_b (29 + 1), 147573952589676412928, 147573952589676412928]) (by decide +kernel) (by decide) (by decide +kernel) (x_rb_of (by decide +kernel)) rfl rfl (x_wr (by decide) (x_wB (by decide) x_wn)) x_wn (by decide) rfl (c170_75_S0 j7  (by decide)) (fun v52 l53 q54 => ?_)
            obtain ⟨b56, c55⟩ := q54
            have b57 : iv_tl 29 = 5 := by decide
            refine x_ifz (k := 0) (tg := 99) (np := 95) (by decide +kernel) (by decide) l53 (fun q58 => ?_) (fun q59 => ?_)
            · have q58 : v52 = 2147483648 := q58
              refine x_aload (np := 100) (x := 0) (by decide +kernel) rfl (x_nc_le (by decide)) ?_
              refine x_ldcB (i := 30) (idx := 232) (tx := "takes") (by rw [tb_y188]; exact List.mem_of_getElem? (i := 65) rfl) (by decide) (by rw [tb_b188]; decide +kernel) ?_
              refine x_cP (t := 6) (mj := 170) (n := 2) (rc := 12) (ml := 4) (nr := 0) (np := 105) (as := [x_r 75, x_b (30 + 1)]) (rest := []) (lo1 := [x_r 75, x_b (30 + 1), 147573952589676412928, 147573952589676412928]) (by decide +kernel) (by decide) (by decide +kernel) (x_rb_of (by decide +kernel)) rfl rfl (x_wr (by decide) (x_wB (by decide) x_wn)) x_wn (by decide) rfl (c170_75_S0 j7  (by decide)) (fun v60 l61 q62 => ?_)
              obtain ⟨b64, c63⟩ := q62
              have b65 : iv_tl 30 = 5 := by decide
              refine x_ifz (k := 0) (tg := 112) (np := 108) (by decide +kernel) (by decide) l61 (fun q66 => ?_) (fun q67 => ?_)
              · have q66 : v60 = 2147483648 := q66
                refine x_const (np := 113) (x := 9223372034707292159) (a := 2147483647) (by decide +kernel) (by decide) (by decide) ?_
                refine x_istore (np := 114) (x := 1) (lo' := [x_r 75, iv_c 2147483647]) (by decide +kernel) (by decide) (Nat.le_of_ble_eq_true rfl) rfl ?_
                refine x_aload (np := 115) (x := 0) (by decide +kernel) rfl (x_nc_le (by decide)) ?_
                refine x_iload (np := 116) (x := 1) (by decide +kernel) rfl (by decide) ?_
                refine x_const (np := 117) (x := 9223372039002259456) (a := 2147483648) (by decide +kernel) (by decide) (by decide) ?_
                refine x_nV (t := 6) (mj := 187) (n := 3) (rc := 12) (ml := 3) (nr := 0) (np := 120) (as := [x_r 75, iv_c 2147483647, iv_c 2147483648]) (rest := []) (lo1 := [x_r 75, iv_c 2147483647, iv_c 2147483648]) (by decide +kernel) (by decide) (by decide +kernel) (x_rb_of (by decide +kernel)) rfl rfl (x_wr (by decide) (x_wi (by decide) (x_wi (by decide) x_wn))) x_wn (by decide) rfl ?_
                refine x_aload (np := 1) (x := 0) (by decide +kernel) rfl (x_nc_le (by decide)) ?_
                have q68 : h6 75 1 = 76 := by have z := jB (e := 1) 0 j7 rg_75_1_0_1 (by decide) (by decide); omega
                refine x_getR (np := 4) (x := 705) (f := 1) (q := 76) (by decide +kernel) (by decide) (by decide +kernel) q68 ?_
                refine x_const (np := 7) (x := 9223376986804585600) (a := 2147484800) (by decide +kernel) (by decide) (by decide) ?_
                refine x_const (np := 8) (x := 9223372047592194050) (a := 2147483650) (by decide +kernel) (by decide) (by decide) ?_
                refine x_aload (np := 9) (x := 0) (by decide +kernel) rfl (x_nc_le (by decide)) ?_
                have q69 : h6 75 13 = h 75 13 := jK 0 f8 rg_75_13_0_1 (by omega) (by omega) (by decide)
                refine x_getC (np := 12) (x := 717) (f := 13) (q := (h 75 13)) (by decide +kernel) (by decide) (by decide +kernel) q69 (fun l70 => ?_)
                obtain ⟨u71, q72⟩ : ∃ z, (h 75 13) = 2147483648 + z := ⟨(h 75 13) - 2147483648, by omega⟩
                refine x_imul (np := 13) (x := 0) (i := 2) (j := u71) (v := (2147483648 + 2 * u71)) (by decide +kernel) (by omega) (by omega) (by omega) (by omega) (by decide) l70 ?_
                refine x_iadd (np := 14) (x := 0) (v := (2147484800 + 2 * u71)) (by decide +kernel) (by decide) (by omega) (by omega) (by omega) ?_
                refine x_iload (np := 15) (x := 1) (by decide +kernel) rfl (by decide) ?_
                refine x_ast (np := 16) (x := 0) (kd := 1) (n := 1952) (i := (1152 + 2 * u71)) (by decide +kernel) (Or.inl rfl) (by decide +kernel) (by omega) (by omega) (by decide) (by decide) (fun z => absurd z (by decide)) ?_
                have j75 := jU (e := (1152 + 2 * u71)) (v := 2147483647) u71 j7 rg_76_1152_2_395 (by omega) (by omega) (by omega)
                have f77 := jF (e := (1152 + 2 * u71)) (v := 2147483647) u71 f13 rg_76_1152_2_395 (by omega) (by omega) (by decide)
                generalize e76 : x_up h6 76 (1152 + 2 * u71) 2147483647 = h74 at j75 f77 ⊢
                refine x_aload (np := 17) (x := 0) (by decide +kernel) rfl (x_nc_le (by decide)) ?_
                have q78 : h74 75 1 = 76 := by have z := jB (e := 1) 0 j75 rg_75_1_0_1 (by decide) (by decide); omega
                refine x_getR (np := 20) (x := 705) (f := 1) (q := 76) (by decide +kernel) (by decide) (by decide +kernel) q78 ?_
                refine x_const (np := 23) (x := 9223376986804585600) (a := 2147484800) (by decide +kernel) (by decide) (by decide) ?_
                refine x_const (np := 24) (x := 9223372047592194050) (a := 2147483650) (by decide +kernel) (by decide) (by decide) ?_
                refine x_aload (np := 25) (x := 0) (by decide +kernel) rfl (x_nc_le (by decide)) ?_
                have q79 : h74 75 13 = h6 75 13 := by rw [← e76]; exact x_up_k (by decide)
                have q80 : h6 75 13 = h 75 13 := jK 0 f8 rg_75_13_0_1 (by omega) (by omega) (by decide)
                refine x_getC (np := 28) (x := 717) (f := 13) (q := (h 75 13)) (by decide +kernel) (by decide) (by decide +kernel) (q79.trans q80) (fun l81 => ?_)
                refine x_imul (np := 29) (x := 0) (i := 2) (j := u71) (v := (2147483648 + 2 * u71)) (by decide +kernel) (by omega) (by omega) (by omega) (by omega) (by decide) l70 ?_
                refine x_iadd (np := 30) (x := 0) (v := (2147484800 + 2 * u71)) (by decide +kernel) (by decide) (by omega) (by omega) (by omega) ?_
                refine x_const (np := 31) (x := 9223372043297226753) (a := 2147483649) (by decide +kernel) (by decide) (by decide) ?_
                refine x_iadd (np := 32) (x := 0) (v := (2147484801 + 2 * u71)) (by decide +kernel) (by omega) (by decide) (by omega) (by omega) ?_
                refine x_iload (np := 33) (x := 2) (by decide +kernel) rfl (by decide) ?_
                refine x_ast (np := 34) (x := 0) (kd := 1) (n := 1952) (i := (1153 + 2 * u71)) (by decide +kernel) (Or.inl rfl) (by decide +kernel) (by omega) (by omega) (by decide) (by decide) (fun z => absurd z (by decide)) ?_
                have j84 := jU (e := (1153 + 2 * u71)) (v := 2147483648) u71 j75 rg_76_1153_2_395 (by omega) (by omega) (by omega)
                have f86 := jF (e := (1153 + 2 * u71)) (v := 2147483648) u71 f77 rg_76_1153_2_395 (by omega) (by omega) (by decide)
                generalize e85 : x_up h74 76 (1153 + 2 * u71) 2147483648 = h83 at j84 f86 ⊢
                refine x_aload (np := 35) (x := 0) (by decide +kernel) rfl (x_nc_le (by decide)) ?_
                refine x_dup (np := 36) (x := 0) (by decide +kernel) (by have z := x_nc_le (k := 75) (by decide); unfold x_r; omega) ?_
                have q87 : h83 75 13 = h74 75 13 := by rw [← e85]; exact x_up_k (by decide)
                have q88 : h74 75 13 = h6 75 13 := by rw [← e76]; exact x_up_k (by decide)
                have q89 : h6 75 13 = h 75 13 := jK 0 f8 rg_75_13_0_1 (by omega) (by omega) (by decide)
                refine x_getC (np := 39) (x := 717) (f := 13) (q := (h 75 13)) (by decide +kernel) (by decide) (by decide +kernel) ((q87.trans q88).trans q89) (fun l90 => ?_)
                refine x_const (np := 40) (x := 9223372043297226753) (a := 2147483649) (by decide +kernel) (by decide) (by decide) ?_
                refine x_iadd (np := 41) (x := 0) (v := (1 + (h 75 13))) (by decide +kernel) l70 (by decide) (by omega) (by omega) ?_
                refine x_putI (np := 44) (x := 717) (f := 13) (by decide +kernel) (by decide +kernel) (by omega) (Or.inl (by decide)) ?_
                have j92 := jU (e := 13) (v := (1 + (h 75 13))) 0 j84 rg_75_13_0_1 (by omega) (by omega) (by omega)
                have f94 := jF (e := 13) (v := (1 + (h 75 13))) 0 f86 rg_75_13_0_1 (by omega) (by omega) (by decide)
                generalize e93 : x_up h83 75 13 (1 + (h 75 13)) = h91 at j92 f94 ⊢
                refine x_retV (np := 45) (x := 0) (by decide +kernel) (by decide +kernel) ⟨rfl, ?_⟩
                have q95 : h91 75 13 = (1 + (h 75 13)) := by rw [← e93]; exact x_up_at
                refine x_iload (np := 121) (x := 1) (by decide +kernel) rfl (by decide) ?_
                refine x_ifz (k := 2) (tg := 128) (np := 124) (by decide +kernel) (by decide) (by decide) (fun q96 => ?_) (fun q97 => ?_)
                · have q96 : 2147483647 < 2147483648 := q96
                  refine x_const (np := 129) (x := 9223372039002259456) (a := 2147483648) (by decide +kernel) (by decide) (by decide) ?_
                  have q98 : h91 75 13 = (1 + (h 75 13)) := by rw [← e93]; exact x_up_at
                  have q99 : h91 75 7 = h83 75 7 := by rw [← e93]; exact x_up_i (by omega)
                  have q100 : h83 75 7 = h74 75 7 := by rw [← e85]; exact x_up_k (by decide)
                  have q101 : h74 75 7 = h6 75 7 := by rw [← e76]; exact x_up_k (by decide)
                  have q102 : h91 75 7 = h83 75 7 := by rw [← e93]; exact x_up_i (by omega)
                  have q103 : h83 75 7 = h74 75 7 := by rw [← e85]; exact x_up_k (by decide)
                  have q104 : h74 75 7 = h6 75 7 := by rw [← e76]; exact x_up_k (by decide)
                  have q105 : h91 75 13 = (1 + (h 75 13)) := by rw [← e93]; exact x_up_at
                  have k109 : Kp h h6 (h 75 13 - 2147483648) := Kp.fr Kp.refl f8 (by omega) (by decide)
                  have k108 : Kp h h74 (h 75 13 - 2147483648) := by rw [← e76]; exact Kp.up k109 (by omega) (fun i hi => by omega)
                  have k107 : Kp h h83 (h 75 13 - 2147483648) := by rw [← e85]; exact Kp.up k108 (by omega) (fun i hi => by omega)
                  have k106 : Kp h h91 (h 75 13 - 2147483648) := by rw [← e93]; exact Kp.oth k107 (by decide)
                  refine x_retI (np := 130) (x := 0) (by decide +kernel) (by decide) (Or.inr ⟨by decide +kernel, by omega, by omega⟩) ⟨_, rfl, (by decide), ?_⟩
                  exact ⟨j92, f94, (by omega), (fun z => by omega), (fun z => by omega), (fun z => by omega), k106, (fun z => absurd z (by omega))⟩
                have q97 : ¬ (2147483647 < 2147483648) := q97
                exfalso; omega
              have q67 : ¬ (v60 = 2147483648) := q67
              have b110 := c63 (by omega)
              refine x_const (np := 109) (x := 9223372060477095941) (a := 2147483653) (by decide +kernel) (by decide) (by decide) ?_
              refine x_goto (np := 112) (x := 113) (by decide +kernel) ?_
              refine x_istore (np := 114) (x := 1) (lo' := [x_r 75, iv_c 2147483653]) (by decide +kernel) (by decide) (Nat.le_of_ble_eq_true rfl) rfl ?_
              refine x_aload (np := 115) (x := 0) (by decide +kernel) rfl (x_nc_le (by decide)) ?_
              refine x_iload (np := 116) (x := 1) (by decide +kernel) rfl (by decide) ?_
              refine x_const (np := 117) (x := 9223372039002259456) (a := 2147483648) (by decide +kernel) (by decide) (by decide) ?_
              refine x_nV (t := 6) (mj := 187) (n := 3) (rc := 12) (ml := 3) (nr := 0) (np := 120) (as := [x_r 75, iv_c 2147483653, iv_c 2147483648]) (rest := []) (lo1 := [x_r 75, iv_c 2147483653, iv_c 2147483648]) (by decide +kernel) (by decide) (by decide +kernel) (x_rb_of (by decide +kernel)) rfl rfl (x_wr (by decide) (x_wi (by decide) (x_wi (by decide) x_wn))) x_wn (by decide) rfl ?_
              refine x_aload (np := 1) (x := 0) (by decide +kernel) rfl (x_nc_le (by decide)) ?_
              have q111 : h6 75 1 = 76 := by have z := jB (e := 1) 0 j7 rg_75_1_0_1 (by decide) (by decide); omega
              refine x_getR (np := 4) (x := 705) (f := 1) (q := 76) (by decide +kernel) (by decide) (by decide +kernel) q111 ?_
              refine x_const (np := 7) (x := 9223376986804585600) (a := 2147484800) (by decide +kernel) (by decide) (by decide) ?_
              refine x_const (np := 8) (x := 9223372047592194050) (a := 2147483650) (by decide +kernel) (by decide) (by decide) ?_
              refine x_aload (np := 9) (x := 0) (by decide +kernel) rfl (x_nc_le (by decide)) ?_
              have q112 : h6 75 13 = h 75 13 := jK 0 f8 rg_75_13_0_1 (by omega) (by omega) (by decide)
              refine x_getC (np := 12) (x := 717) (f := 13) (q := (h 75 13)) (by decide +kernel) (by decide) (by decide +kernel) q112 (fun l113 => ?_)
              obtain ⟨u114, q115⟩ : ∃ z, (h 75 13) = 2147483648 + z := ⟨(h 75 13) - 2147483648, by omega⟩
              refine x_imul (np := 13) (x := 0) (i := 2) (j := u114) (v := (2147483648 + 2 * u114)) (by decide +kernel) (by omega) (by omega) (by omega) (by omega) (by decide) l113 ?_
              refine x_iadd (np := 14) (x := 0) (v := (2147484800 + 2 * u114)) (by decide +kernel) (by decide) (by omega) (by omega) (by omega) ?_
              refine x_iload (np := 15) (x := 1) (by decide +kernel) rfl (by decide) ?_
              refine x_ast (np := 16) (x := 0) (kd := 1) (n := 1952) (i := (1152 + 2 * u114)) (by decide +kernel) (Or.inl rfl) (by decide +kernel) (by omega) (by omega) (by decide) (by decide) (fun z => absurd z (by decide)) ?_
              have j118 := jU (e := (1152 + 2 * u114)) (v := 2147483653) u114 j7 rg_76_1152_2_391 (by omega) (by omega) (by omega)
              have f120 := jF (e := (1152 + 2 * u114)) (v := 2147483653) u114 f13 rg_76_1152_2_391 (by omega) (by omega) (by decide)
              generalize e119 : x_up h6 76 (1152 + 2 * u114) 2147483653 = h117 at j118 f120 ⊢
              refine x_aload (np := 17) (x := 0) (by decide +kernel) rfl (x_nc_le (by decide)) ?_
              have q121 : h117 75 1 = 76 := by have z := jB (e := 1) 0 j118 rg_75_1_0_1 (by decide) (by decide); omega
              refine x_getR (np := 20) (x := 705) (f := 1) (q := 76) (by decide +kernel) (by decide) (by decide +kernel) q121 ?_
              refine x_const (np := 23) (x := 9223376986804585600) (a := 2147484800) (by decide +kernel) (by decide) (by decide) ?_
              refine x_const (np := 24) (x := 9223372047592194050) (a := 2147483650) (by decide +kernel) (by decide) (by decide) ?_
              refine x_aload (np := 25) (x := 0) (by decide +kernel) rfl (x_nc_le (by decide)) ?_
              have q122 : h117 75 13 = h6 75 13 := by rw [← e119]; exact x_up_k (by decide)
              have q123 : h6 75 13 = h 75 13 := jK 0 f8 rg_75_13_0_1 (by omega) (by omega) (by decide)
              refine x_getC (np := 28) (x := 717) (f := 13) (q := (h 75 13)) (by decide +kernel) (by decide) (by decide +kernel) (q122.trans q123) (fun l124 => ?_)
              refine x_imul (np := 29) (x := 0) (i := 2) (j := u114) (v := (2147483648 + 2 * u114)) (by decide +kernel) (by omega) (by omega) (by omega) (by omega) (by decide) l113 ?_
              refine x_iadd (np := 30) (x := 0) (v := (2147484800 + 2 * u114)) (by decide +kernel) (by decide) (by omega) (by omega) (by omega) ?_
              refine x_const (np := 31) (x := 9223372043297226753) (a := 2147483649) (by decide +kernel) (by decide) (by decide) ?_
              refine x_iadd (np := 32) (x := 0) (v := (2147484801 + 2 * u114)) (by decide +kernel) (by omega) (by decide) (by omega) (by omega) ?_
              refine x_iload (np := 33) (x := 2) (by decide +kernel) rfl (by decide) ?_
              refine x_ast (np := 34) (x := 0) (kd := 1) (n := 1952) (i := (1153 + 2 * u114)) (by decide +kernel) (Or.inl rfl) (by decide +kernel) (by omega) (by omega) (by decide) (by decide) (fun z => absurd z (by decide)) ?_
              have j127 := jU (e := (1153 + 2 * u114)) (v := 2147483648) u114 j118 rg_76_1153_2_391 (by omega) (by omega) (by omega)
              have f129 := jF (e := (1153 + 2 * u114)) (v := 2147483648) u114 f120 rg_76_1153_2_391 (by omega) (by omega) (by decide)
              generalize e128 : x_up h117 76 (1153 + 2 * u114) 2147483648 = h126 at j127 f129 ⊢
              refine x_aload (np := 35) (x := 0) (by decide +kernel) rfl (x_nc_le (by decide)) ?_
              refine x_dup (np := 36) (x := 0) (by decide +kernel) (by have z := x_nc_le (k := 75) (by decide); unfold x_r; omega) ?_
              have q130 : h126 75 13 = h117 75 13 := by rw [← e128]; exact x_up_k (by decide)
              have q131 : h117 75 13 = h6 75 13 := by rw [← e119]; exact x_up_k (by decide)
              have q132 : h6 75 13 = h 75 13 := jK 0 f8 rg_75_13_0_1 (by omega) (by omega) (by decide)
              refine x_getC (np := 39) (x := 717) (f := 13) (q := (h 75 13)) (by decide +kernel) (by decide) (by decide +kernel) ((q130.trans q131).trans q132) (fun l133 => ?_)
              refine x_const (np := 40) (x := 9223372043297226753) (a := 2147483649) (by decide +kernel) (by decide) (by decide) ?_
              refine x_iadd (np := 41) (x := 0) (v := (1 + (h 75 13))) (by decide +kernel) l113 (by decide) (by omega) (by omega) ?_
              refine x_putI (np := 44) (x := 717) (f := 13) (by decide +kernel) (by decide +kernel) (by omega) (Or.inl (by decide)) ?_
              have j135 := jU (e := 13) (v := (1 + (h 75 13))) 0 j127 rg_75_13_0_1 (by omega) (by omega) (by omega)
              have f137 := jF (e := 13) (v := (1 + (h 75 13))) 0 f129 rg_75_13_0_1 (by omega) (by omega) (by decide)
              generalize e136 : x_up h126 75 13 (1 + (h 75 13)) = h134 at j135 f137 ⊢
              refine x_retV (np := 45) (x := 0) (by decide +kernel) (by decide +kernel) ⟨rfl, ?_⟩
              have q138 : h134 75 13 = (1 + (h 75 13)) := by rw [← e136]; exact x_up_at
              refine x_iload (np := 121) (x := 1) (by decide +kernel) rfl (by decide) ?_
              refine x_ifz (k := 2) (tg := 128) (np := 124) (by decide +kernel) (by decide) (by decide) (fun q139 => ?_) (fun q140 => ?_)
              · have q139 : 2147483653 < 2147483648 := q139
                exfalso; omega
              have q140 : ¬ (2147483653 < 2147483648) := q140
              refine x_const (np := 125) (x := 9223372043297226753) (a := 2147483649) (by decide +kernel) (by decide) (by decide) ?_
              refine x_goto (np := 128) (x := 129) (by decide +kernel) ?_
              have q141 : h134 75 13 = (1 + (h 75 13)) := by rw [← e136]; exact x_up_at
              have q142 : h134 75 7 = h126 75 7 := by rw [← e136]; exact x_up_i (by omega)
              have q143 : h126 75 7 = h117 75 7 := by rw [← e128]; exact x_up_k (by decide)
              have q144 : h117 75 7 = h6 75 7 := by rw [← e119]; exact x_up_k (by decide)
              have q145 : h134 75 7 = h126 75 7 := by rw [← e136]; exact x_up_i (by omega)
              have q146 : h126 75 7 = h117 75 7 := by rw [← e128]; exact x_up_k (by decide)
              have q147 : h117 75 7 = h6 75 7 := by rw [← e119]; exact x_up_k (by decide)
              have q148 : h134 75 13 = (1 + (h 75 13)) := by rw [← e136]; exact x_up_at
              have k152 : Kp h h6 (h 75 13 - 2147483648) := Kp.fr Kp.refl f8 (by omega) (by decide)
              have k151 : Kp h h117 (h 75 13 - 2147483648) := by rw [← e119]; exact Kp.up k152 (by omega) (fun i hi => by omega)
              have k150 : Kp h h126 (h 75 13 - 2147483648) := by rw [← e128]; exact Kp.up k151 (by omega) (fun i hi => by omega)
              have k149 : Kp h h134 (h 75 13 - 2147483648) := by rw [← e136]; exact Kp.oth k150 (by decide)
              have q153 : h134 75 13 = (1 + (h 75 13)) := by rw [← e136]; exact x_up_at
              have q155 : h134 76 (1152 + 2 * u114) = h126 76 (1152 + 2 * u114) := by rw [← e136]; exact x_up_k (by decide)
              have q156 : h126 76 (1152 + 2 * u114) = h117 76 (1152 + 2 * u114) := by rw [← e128]; exact x_up_i (by omega)
              have q157 : h117 76 (1152 + 2 * u114) = 2147483653 := by rw [← e119]; exact x_up_at
              have s154 : Seg (sg h134) u114 (u114 + 1) := Seg.push (show 2147483648 ≤ h134 76 (1152 + 2 * u114) by omega) (show h134 76 (1152 + 2 * u114) ≤ 2147483656 by omega)
              have s158 : Seg (sg h134) (h 75 13 - 2147483648) (h134 75 13 - 2147483648) := Seg.cast (Seg.kp s154 Kp.refl) (by omega) (by omega)
              refine x_retI (np := 130) (x := 0) (by decide +kernel) (by decide) (Or.inr ⟨by decide +kernel, by omega, by omega⟩) ⟨_, rfl, (by decide), ?_⟩
              exact ⟨j135, f137, (by omega), (fun z => by omega), (fun z => by omega), (fun z => by omega), k149, (fun _ => s158)⟩
            have q59 : ¬ (v52 = 2147483648) := q59
            have b159 := c55 (by omega)
            refine x_const (np := 96) (x := 9223372056182128644) (a := 2147483652) (by decide +kernel) (by decide) (by decide) ?_
            refine x_goto (np := 99) (x := 113) (by decide +kernel) ?_
            refine x_istore (np := 114) (x := 1) (lo' := [x_r 75, iv_c 2147483652]) (by decide +kernel) (by decide) (Nat.le_of_ble_eq_true rfl) rfl ?_
            refine x_aload (np := 115) (x := 0) (by decide +kernel) rfl (x_nc_le (by decide)) ?_
            refine x_iload (np := 116) (x := 1) (by decide +kernel) rfl (by decide) ?_
            refine x_const (np := 117) (x := 9223372039002259456) (a := 2147483648) (by decide +kernel) (by decide) (by decide) ?_
            refine x_nV (t := 6) (mj := 187) (n := 3) (rc := 12) (ml := 3) (nr := 0) (np := 120) (as := [x_r 75, iv_c 2147483652, iv_c 2147483648]) (rest := []) (lo1 := [x_r 75, iv_c 2147483652, iv_c 2147483648]) (by decide +kernel) (by decide) (by decide +kernel) (x_rb_of (by decide +kernel)) rfl rfl (x_wr (by decide) (x_wi (by decide) (x_wi (by decide) x_wn))) x_wn (by decide) rfl ?_
            refine x_aload (np := 1) (x := 0) (by decide +kernel) rfl (x_nc_le (by decide)) ?_
            have q160 : h6 75 1 = 76 := by have z := jB (e := 1) 0 j7 rg_75_1_0_1 (by decide) (by decide); omega
            refine x_getR (np := 4) (x := 705) (f := 1) (q := 76) (by decide +kernel) (by decide) (by decide +kernel) q160 ?_
            refine x_const (np := 7) (x := 9223376986804585600) (a := 2147484800) (by decide +kernel) (by decide) (by decide) ?_
            refine x_const (np := 8) (x := 9223372047592194050) (a := 2147483650) (by decide +kernel) (by decide) (by decide) ?_
            refine x_aload (np := 9) (x := 0) (by decide +kernel) rfl (x_nc_le (by decide)) ?_
            have q161 : h6 75 13 = h 75 13 := jK 0 f8 rg_75_13_0_1 (by omega) (by omega) (by decide)
            refine x_getC (np := 12) (x := 717) (f := 13) (q := (h 75 13)) (by decide +kernel) (by decide) (by decide +kernel) q161 (fun l162 => ?_)
            obtain ⟨u163, q164⟩ : ∃ z, (h 75 13) = 2147483648 + z := ⟨(h 75 13) - 2147483648, by omega⟩
            refine x_imul (np := 13) (x := 0) (i := 2) (j := u163) (v := (2147483648 + 2 * u163)) (by decide +kernel) (by omega) (by omega) (by omega) (by omega) (by decide) l162 ?_
            refine x_iadd (np := 14) (x := 0) (v := (2147484800 + 2 * u163)) (by decide +kernel) (by decide) (by omega) (by omega) (by omega) ?_
            refine x_iload (np := 15) (x := 1) (by decide +kernel) rfl (by decide) ?_
            refine x_ast (np := 16) (x := 0) (kd := 1) (n := 1952) (i := (1152 + 2 * u163)) (by decide +kernel) (Or.inl rfl) (by decide +kernel) (by omega) (by omega) (by decide) (by decide) (fun z => absurd z (by decide)) ?_
            have j167 := jU (e := (1152 + 2 * u163)) (v := 2147483652) u163 j7 rg_76_1152_2_391 (by omega) (by omega) (by omega)
            have f169 := jF (e := (1152 + 2 * u163)) (v := 2147483652) u163 f13 rg_76_1152_2_391 (by omega) (by omega) (by decide)
            generalize e168 : x_up h6 76 (1152 + 2 * u163) 2147483652 = h166 at j167 f169 ⊢
            refine x_aload (np := 17) (x := 0) (by decide +kernel) rfl (x_nc_le (by decide)) ?_
            have q170 : h166 75 1 = 76 := by have z := jB (e := 1) 0 j167 rg_75_1_0_1 (by decide) (by decide); omega
            refine x_getR (np := 20) (x := 705) (f := 1) (q := 76) (by decide +kernel) (by decide) (by decide +kernel) q170 ?_
            refine x_const (np := 23) (x := 9223376986804585600) (a := 2147484800) (by decide +kernel) (by decide) (by decide) ?_
            refine x_const (np := 24) (x := 9223372047592194050) (a := 2147483650) (by decide +kernel) (by decide) (by decide) ?_
            refine x_aload (np := 25) (x := 0) (by decide +kernel) rfl (x_nc_le (by decide)) ?_
            have q171 : h166 75 13 = h6 75 13 := by rw [← e168]; exact x_up_k (by decide)
            have q172 : h6 75 13 = h 75 13 := jK 0 f8 rg_75_13_0_1 (by omega) (by omega) (by decide)
            refine x_getC (np := 28) (x := 717) (f := 13) (q := (h 75 13)) (by decide +kernel) (by decide) (by decide +kernel) (q171.trans q172) (fun l173 => ?_)
            refine x_imul (np := 29) (x := 0) (i := 2) (j := u163) (v := (2147483648 + 2 * u163)) (by decide +kernel) (by omega) (by omega) (by omega) (by omega) (by decide) l162 ?_
            refine x_iadd (np := 30) (x := 0) (v := (2147484800 + 2 * u163)) (by decide +kernel) (by decide) (by omega) (by omega) (by omega) ?_
            refine x_const (np := 31) (x := 9223372043297226753) (a := 2147483649) (by decide +kernel) (by decide) (by decide) ?_
            refine x_iadd (np := 32) (x := 0) (v := (2147484801 + 2 * u163)) (by decide +kernel) (by omega) (by decide) (by omega) (by omega) ?_
            refine x_iload (np := 33) (x := 2) (by decide +kernel) rfl (by decide) ?_
            refine x_ast (np := 34) (x := 0) (kd := 1) (n := 1952) (i := (1153 + 2 * u163)) (by decide +kernel) (Or.inl rfl) (by decide +kernel) (by omega) (by omega) (by decide) (by decide) (fun z => absurd z (by decide)) ?_
            have j176 := jU (e := (1153 + 2 * u163)) (v := 2147483648) u163 j167 rg_76_1153_2_391 (by omega) (by omega) (by omega)
            have f178 := jF (e := (1153 + 2 * u163)) (v := 2147483648) u163 f169 rg_76_1153_2_391 (by omega) (by omega) (by decide)
            generalize e177 : x_up h166 76 (1153 + 2 * u163) 2147483648 = h175 at j176 f178 ⊢
            refine x_aload (np := 35) (x := 0) (by decide +kernel) rfl (x_nc_le (by decide)) ?_
            refine x_dup (np := 36) (x := 0) (by decide +kernel) (by have z := x_nc_le (k := 75) (by decide); unfold x_r; omega) ?_
            have q179 : h175 75 13 = h166 75 13 := by rw [← e177]; exact x_up_k (by decide)
            have q180 : h166 75 13 = h6 75 13 := by rw [← e168]; exact x_up_k (by decide)
            have q181 : h6 75 13 = h 75 13 := jK 0 f8 rg_75_13_0_1 (by omega) (by omega) (by decide)
            refine x_getC (np := 39) (x := 717) (f := 13) (q := (h 75 13)) (by decide +kernel) (by decide) (by decide +kernel) ((q179.trans q180).trans q181) (fun l182 => ?_)
            refine x_const (np := 40) (x := 9223372043297226753) (a := 2147483649) (by decide +kernel) (by decide) (by decide) ?_
            refine x_iadd (np := 41) (x := 0) (v := (1 + (h 75 13))) (by decide +kernel) l162 (by decide) (by omega) (by omega) ?_
            refine x_putI (np := 44) (x := 717) (f := 13) (by decide +kernel) (by decide +kernel) (by omega) (Or.inl (by decide)) ?_
            have j184 := jU (e := 13) (v := (1 + (h 75 13))) 0 j176 rg_75_13_0_1 (by omega) (by omega) (by omega)
            have f186 := jF (e := 13) (v := (1 + (h 75 13))) 0 f178 rg_75_13_0_1 (by omega) (by omega) (by decide)
            generalize e185 : x_up h175 75 13 (1 + (h 75 13)) = h183 at j184 f186 ⊢
            refine x_retV (np := 45) (x := 0) (by decide +kernel) (by decide +kernel) ⟨rfl, ?_⟩
            have q187 : h183 75 13 = (1 + (h 75 13)) := by rw [← e185]; exact x_up_at
            refine x_iload (np := 121) (x := 1) (by decide +kernel) rfl (by decide) ?_
            refine x_ifz (k := 2) (tg := 128) (np := 124) (by decide +kernel) (by decide) (by decide) (fun q188 => ?_) (fun q189 => ?_)
            · have q188 : 2147483652 < 2147483648 := q188
              exfalso; omega
            have q189 : ¬ (2147483652 < 2147483648) := q189
            refine x_const (np := 125) (x := 9223372043297226753) (a := 2147483649) (by decide +kernel) (by decide) (by decide) ?_
            refine x_goto (np := 128) (x := 129) (by decide +kernel) ?_
            have q190 : h183 75 13 = (1 + (h 75 13)) := by rw [← e185]; exact x_up_at
            have q191 : h183 75 7 = h175 75 7 := by rw [← e185]; exact x_up_i (by omega)
            have q192 : h175 75 7 = h166 75 7 := by rw [← e177]; exact x_up_k (by decide)
            have q193 : h166 75 7 = h6 75 7 := by rw [← e168]; exact x_up_k (by decide)
            have q194 : h183 75 7 = h175 75 7 := by rw [← e185]; exact x_up_i (by omega)
            have q195 : h175 75 7 = h166 75 7 := by rw [← e177]; exact x_up_k (by decide)
            have q196 : h166 75 7 = h6 75 7 := by rw [← e168]; exact x_up_k (by decide)
            have q197 : h183 75 13 = (1 + (h 75 13)) := by rw [← e185]; exact x_up_at
            have k201 : Kp h h6 (h 75 13 - 2147483648) := Kp.fr Kp.refl f8 (by omega) (by decide)
            have k200 : Kp h h166 (h 75 13 - 2147483648) := by rw [← e168]; exact Kp.up k201 (by omega) (fun i hi => by omega)
            have k199 : Kp h h175 (h 75 13 - 2147483648) := by rw [← e177]; exact Kp.up k200 (by omega) (fun i hi => by omega)
            have k198 : Kp h h183 (h 75 13 - 2147483648) := by rw [← e185]; exact Kp.oth k199 (by decide)
            have q202 : h183 75 13 = (1 + (h 75 13)) := by rw [← e185]; exact x_up_at
            have q204 : h183 76 (1152 + 2 * u163) = h175 76 (1152 + 2 * u163) := by rw [← e185]; exact x_up_k (by decide)
            have q205 : h175 76 (1152 + 2 * u163) = h166 76 (1152 + 2 * u163) := by rw [← e177]; exact x_up_i (by omega)
            have q206 : h166 76 (1152 + 2 * u163) = 2147483652 := by rw [← e168]; exact x_up_at
            have s203 : Seg (sg h183) u163 (u163 + 1) := Seg.push (show 2147483648 ≤ h183 76 (1152 + 2 * u163) by omega) (show h183 76 (1152 + 2 * u163) ≤ 2147483656 by omega)
            have s207 : Seg (sg h183) (h 75 13 - 2147483648) (h183 75 13 - 2147483648) := Seg.cast (Seg.kp s203 Kp.refl) (by omega) (by omega)
            refine x_retI (np := 130) (x := 0) (by decide +kernel) (by decide) (Or.inr ⟨by decide +kernel, by omega, by omega⟩) ⟨_, rfl, (by decide), ?_⟩
            exact ⟨j184, f186, (by omega), (fun z => by omega), (fun z => by omega), (fun z => by omega), k198, (fun _ => s207)⟩
          have q51 : ¬ (v44 = 2147483648) := q51
          have b208 := c47 (by omega)
          refine x_const (np := 83) (x := 9223372051887161347) (a := 2147483651) (by decide +kernel) (by decide) (by decide) ?_
          refine x_goto (np := 86) (x := 113) (by decide +kernel) ?_
          refine x_istore (np := 114) (x := 1) (lo' := [x_r 75, iv_c 2147483651]) (by decide +kernel) (by decide) (Nat.le_of_ble_eq_true rfl) rfl ?_
          refine x_aload (np := 115) (x := 0) (by decide +kernel) rfl (x_nc_le (by decide)) ?_
          refine x_iload (np := 116) (x := 1) (by decide +kernel) rfl (by decide) ?_
          refine x_const (np := 117) (x := 9223372039002259456) (a := 2147483648) (by decide +kernel) (by decide) (by decide) ?_
          refine x_nV (t := 6) (mj := 187) (n := 3) (rc := 12) (ml := 3) (nr := 0) (np := 120) (as := [x_r 75, iv_c 2147483651, iv_c 2147483648]) (rest := []) (lo1 := [x_r 75, iv_c 2147483651, iv_c 2147483648]) (by decide +kernel) (by decide) (by decide +kernel) (x_rb_of (by decide +kernel)) rfl rfl (x_wr (by decide) (x_wi (by decide) (x_wi (by decide) x_wn))) x_wn (by decide) rfl ?_
          refine x_aload (np := 1) (x := 0) (by decide +kernel) rfl (x_nc_le (by decide)) ?_
          have q209 : h6 75 1 = 76 := by have z := jB (e := 1) 0 j7 rg_75_1_0_1 (by decide) (by decide); omega
          refine x_getR (np := 4) (x := 705) (f := 1) (q := 76) (by decide +kernel) (by decide) (by decide +kernel) q209 ?_
          refine x_const (np := 7) (x := 9223376986804585600) (a := 2147484800) (by decide +kernel) (by decide) (by decide) ?_
          refine x_const (np := 8) (x := 9223372047592194050) (a := 2147483650) (by decide +kernel) (by decide) (by decide) ?_
          refine x_aload (np := 9) (x := 0) (by decide +kernel) rfl (x_nc_le (by decide)) ?_
          have q210 : h6 75 13 = h 75 13 := jK 0 f8 rg_75_13_0_1 (by omega) (by omega) (by decide)
          refine x_getC (np := 12) (x := 717) (f := 13) (q := (h 75 13)) (by decide +kernel) (by decide) (by decide +kernel) q210 (fun l211 => ?_)
          obtain ⟨u212, q213⟩ : ∃ z, (h 75 13) = 2147483648 + z := ⟨(h 75 13) - 2147483648, by omega⟩
          refine x_imul (np := 13) (x := 0) (i := 2) (j := u212) (v := (2147483648 + 2 * u212)) (by decide +kernel) (by omega) (by omega) (by omega) (by omega) (by decide) l211 ?_
          refine x_iadd (np := 14) (x := 0) (v := (2147484800 + 2 * u212)) (by decide +kernel) (by decide) (by omega) (by omega) (by omega) ?_
          refine x_iload (np := 15) (x := 1) (by decide +kernel) rfl (by decide) ?_
          refine x_ast (np := 16) (x := 0) (kd := 1) (n := 1952) (i := (1152 + 2 * u212)) (by decide +kernel) (Or.inl rfl) (by decide +kernel) (by omega) (by omega) (by decide) (by decide) (fun z => absurd z (by decide)) ?_
          have j216 := jU (e := (1152 + 2 * u212)) (v := 2147483651) u212 j7 rg_76_1152_2_392 (by omega) (by omega) (by omega)
          have f218 := jF (e := (1152 + 2 * u212)) (v := 2147483651) u212 f13 rg_76_1152_2_392 (by omega) (by omega) (by decide)
          generalize e217 : x_up h6 76 (1152 + 2 * u212) 2147483651 = h215 at j216 f218 ⊢
          refine x_aload (np := 17) (x := 0) (by decide +kernel) rfl (x_nc_le (by decide)) ?_
          have q219 : h215 75 1 = 76 := by have z := jB (e := 1) 0 j216 rg_75_1_0_1 (by decide) (by decide); omega
          refine x_getR (np := 20) (x := 705) (f := 1) (q := 76) (by decide +kernel) (by decide) (by decide +kernel) q219 ?_
          refine x_const (np := 23) (x := 9223376986804585600) (a := 2147484800) (by decide +kernel) (by decide) (by decide) ?_
          refine x_const (np := 24) (x := 9223372047592194050) (a := 2147483650) (by decide +kernel) (by decide) (by decide) ?_
          refine x_aload (np := 25) (x := 0) (by decide +kernel) rfl (x_nc_le (by decide)) ?_
          have q220 : h215 75 13 = h6 75 13 := by rw [← e217]; exact x_up_k (by decide)
          have q221 : h6 75 13 = h 75 13 := jK 0 f8 rg_75_13_0_1 (by omega) (by omega) (by decide)
          refine x_getC (np := 28) (x := 717) (f := 13) (q := (h 75 13)) (by decide +kernel) (by decide) (by decide +kernel) (q220.trans q221) (fun l222 => ?_)
          refine x_imul (np := 29) (x := 0) (i := 2) (j := u212) (v := (2147483648 + 2 * u212)) (by decide +kernel) (by omega) (by omega) (by omega) (by omega) (by decide) l211 ?_
          refine x_iadd (np := 30) (x := 0) (v := (2147484800 + 2 * u212)) (by decide +kernel) (by decide) (by omega) (by omega) (by omega) ?_
          refine x_const (np := 31) (x := 9223372043297226753) (a := 2147483649) (by decide +kernel) (by decide) (by decide) ?_
          refine x_iadd (np := 32) (x := 0) (v := (2147484801 + 2 * u212)) (by decide +kernel) (by omega) (by decide) (by omega) (by omega) ?_
          refine x_iload (np := 33) (x := 2) (by decide +kernel) rfl (by decide) ?_
          refine x_ast (np := 34) (x := 0) (kd := 1) (n := 1952) (i := (1153 + 2 * u212)) (by decide +kernel) (Or.inl rfl) (by decide +kernel) (by omega) (by omega) (by decide) (by decide) (fun z => absurd z (by decide)) ?_
          have j225 := jU (e := (1153 + 2 * u212)) (v := 2147483648) u212 j216 rg_76_1153_2_392 (by omega) (by omega) (by omega)
          have f227 := jF (e := (1153 + 2 * u212)) (v := 2147483648) u212 f218 rg_76_1153_2_392 (by omega) (by omega) (by decide)
          generalize e226 : x_up h215 76 (1153 + 2 * u212) 2147483648 = h224 at j225 f227 ⊢
          refine x_aload (np := 35) (x := 0) (by decide +kernel) rfl (x_nc_le (by decide)) ?_
          refine x_dup (np := 36) (x := 0) (by decide +kernel) (by have z := x_nc_le (k := 75) (by decide); unfold x_r; omega) ?_
          have q228 : h224 75 13 = h215 75 13 := by rw [← e226]; exact x_up_k (by decide)
          have q229 : h215 75 13 = h6 75 13 := by rw [← e217]; exact x_up_k (by decide)
          have q230 : h6 75 13 = h 75 13 := jK 0 f8 rg_75_13_0_1 (by omega) (by omega) (by decide)
          refine x_getC (np := 39) (x := 717) (f := 13) (q := (h 75 13)) (by decide +kernel) (by decide) (by decide +kernel) ((q228.trans q229).trans q230) (fun l231 => ?_)
          refine x_const (np := 40) (x := 9223372043297226753) (a := 2147483649) (by decide +kernel) (by decide) (by decide) ?_
          refine x_iadd (np := 41) (x := 0) (v := (1 + (h 75 13))) (by decide +kernel) l211 (by decide) (by omega) (by omega) ?_
          refine x_putI (np := 44) (x := 717) (f := 13) (by decide +kernel) (by decide +kernel) (by omega) (Or.inl (by decide)) ?_
          have j233 := jU (e := 13) (v := (1 + (h 75 13))) 0 j225 rg_75_13_0_1 (by omega) (by omega) (by omega)
          have f235 := jF (e := 13) (v := (1 + (h 75 13))) 0 f227 rg_75_13_0_1 (by omega) (by omega) (by decide)
          generalize e234 : x_up h224 75 13 (1 + (h 75 13)) = h232 at j233 f235 ⊢
          refine x_retV (np := 45) (x := 0) (by decide +kernel) (by decide +kernel) ⟨rfl, ?_⟩
          have q236 : h232 75 13 = (1 + (h 75 13)) := by rw [← e234]; exact x_up_at
          refine x_iload (np := 121) (x := 1) (by decide +kernel) rfl (by decide) ?_
          refine x_ifz (k := 2) (tg := 128) (np := 124) (by decide +kernel) (by decide) (by decide) (fun q237 => ?_) (fun q238 => ?_)
          · have q237 : 2147483651 < 2147483648 := q237
            exfalso; omega
          have q238 : ¬ (2147483651 < 2147483648) := q238
          refine x_const (np := 125) (x := 9223372043297226753) (a := 2147483649) (by decide +kernel) (by decide) (by decide) ?_
          refine x_goto (np := 128) (x := 129) (by decide +kernel) ?_
          have q239 : h232 75 13 = (1 + (h 75 13)) := by rw [← e234]; exact x_up_at
          have q240 : h232 75 7 = h224 75 7 := by rw [← e234]; exact x_up_i (by omega)
          have q241 : h224 75 7 = h215 75 7 := by rw [← e226]; exact x_up_k (by decide)
          have q242 : h215 75 7 = h6 75 7 := by rw [← e217]; exact x_up_k (by decide)
          have q243 : h232 75 7 = h224 75 7 := by rw [← e234]; exact x_up_i (by omega)
          have q244 : h224 75 7 = h215 75 7 := by rw [← e226]; exact x_up_k (by decide)
          have q245 : h215 75 7 = h6 75 7 := by rw [← e217]; exact x_up_k (by decide)
          have q246 : h232 75 13 = (1 + (h 75 13)) := by rw [← e234]; exact x_up_at
          have k250 : Kp h h6 (h 75 13 - 2147483648) := Kp.fr Kp.refl f8 (by omega) (by decide)
          have k249 : Kp h h215 (h 75 13 - 2147483648) := by rw [← e217]; exact Kp.up k250 (by omega) (fun i hi => by omega)
          have k248 : Kp h h224 (h 75 13 - 2147483648) := by rw [← e226]; exact Kp.up k249 (by omega) (fun i hi => by omega)
          have k247 : Kp h h232 (h 75 13 - 2147483648) := by rw [← e234]; exact Kp.oth k248 (by decide)
          have q251 : h232 75 13 = (1 + (h 75 13)) := by rw [← e234]; exact x_up_at
          have q253 : h232 76 (1152 + 2 * u212) = h224 76 (1152 + 2 * u212) := by rw [← e234]; exact x_up_k (by decide)
          have q254 : h224 76 (1152 + 2 * u212) = h215 76 (1152 + 2 * u212) := by rw [← e226]; exact x_up_i (by omega)
          have q255 : h215 76 (1152 + 2 * u212) = 2147483651 := by rw [← e217]; exact x_up_at
          have s252 : Seg (sg h232) u212 (u212 + 1) := Seg.push (show 2147483648 ≤ h232 76 (1152 + 2 * u212) by omega) (show h232 76 (1152 + 2 * u212) ≤ 2147483656 by omega)
          have s256 : Seg (sg h232) (h 75 13 - 2147483648) (h232 75 13 - 2147483648) := Seg.cast (Seg.kp s252 Kp.refl) (by omega) (by omega)
          refine x_retI (np := 130) (x := 0) (by decide +kernel) (by decide) (Or.inr ⟨by decide +kernel, by omega, by omega⟩) ⟨_, rfl, (by decide), ?_⟩
          exact ⟨j233, f235, (by omega), (fun z => by omega), (fun z => by omega), (fun z => by omega), k247, (fun _ => s256)⟩
        have q43 : ¬ (v36 = 2147483648) := q43
        have b257 := c39 (by omega)
        refine x_const (np := 70) (x := 9223372047592194050) (a := 2147483650) (by decide +kernel) (by decide) (by decide) ?_
        refine x_goto (np := 73) (x := 113) (by decide +kernel) ?_
        refine x_istore (np := 114) (x := 1) (lo' := [x_r 75, iv_c 2147483650]) (by decide +kernel) (by decide) (Nat.le_of_ble_eq_true rfl) rfl ?_
        refine x_aload (np := 115) (x := 0) (by decide +kernel) rfl (x_nc_le (by decide)) ?_
        refine x_iload (np := 116) (x := 1) (by decide +kernel) rfl (by decide) ?_
        refine x_const (np := 117) (x := 9223372039002259456) (a := 2147483648) (by decide +kernel) (by decide) (by decide) ?_
        refine x_nV (t := 6) (mj := 187) (n := 3) (rc := 12) (ml := 3) (nr := 0) (np := 120) (as := [x_r 75, iv_c 2147483650, iv_c 2147483648]) (rest := []) (lo1 := [x_r 75, iv_c 2147483650, iv_c 2147483648]) (by decide +kernel) (by decide) (by decide +kernel) (x_rb_of (by decide +kernel)) rfl rfl (x_wr (by decide) (x_wi (by decide) (x_wi (by decide) x_wn))) x_wn (by decide) rfl ?_
        refine x_aload (np := 1) (x := 0) (by decide +kernel) rfl (x_nc_le (by decide)) ?_
        have q258 : h6 75 1 = 76 := by have z := jB (e := 1) 0 j7 rg_75_1_0_1 (by decide) (by decide); omega
        refine x_getR (np := 4) (x := 705) (f := 1) (q := 76) (by decide +kernel) (by decide) (by decide +kernel) q258 ?_
        refine x_const (np := 7) (x := 9223376986804585600) (a := 2147484800) (by decide +kernel) (by decide) (by decide) ?_
        refine x_const (np := 8) (x := 9223372047592194050) (a := 2147483650) (by decide +kernel) (by decide) (by decide) ?_
        refine x_aload (np := 9) (x := 0) (by decide +kernel) rfl (x_nc_le (by decide)) ?_
        have q259 : h6 75 13 = h 75 13 := jK 0 f8 rg_75_13_0_1 (by omega) (by omega) (by decide)
        refine x_getC (np := 12) (x := 717) (f := 13) (q := (h 75 13)) (by decide +kernel) (by decide) (by decide +kernel) q259 (fun l260 => ?_)
        obtain ⟨u261, q262⟩ : ∃ z, (h 75 13) = 2147483648 + z := ⟨(h 75 13) - 2147483648, by omega⟩
        refine x_imul (np := 13) (x := 0) (i := 2) (j := u261) (v := (2147483648 + 2 * u261)) (by decide +kernel) (by omega) (by omega) (by omega) (by omega) (by decide) l260 ?_
        refine x_iadd (np := 14) (x := 0) (v := (2147484800 + 2 * u261)) (by decide +kernel) (by decide) (by omega) (by omega) (by omega) ?_
        refine x_iload (np := 15) (x := 1) (by decide +kernel) rfl (by decide) ?_
        refine x_ast (np := 16) (x := 0) (kd := 1) (n := 1952) (i := (1152 + 2 * u261)) (by decide +kernel) (Or.inl rfl) (by decide +kernel) (by omega) (by omega) (by decide) (by decide) (fun z => absurd z (by decide)) ?_
        have j265 := jU (e := (1152 + 2 * u261)) (v := 2147483650) u261 j7 rg_76_1152_2_390 (by omega) (by omega) (by omega)
        have f267 := jF (e := (1152 + 2 * u261)) (v := 2147483650) u261 f13 rg_76_1152_2_390 (by omega) (by omega) (by decide)
        generalize e266 : x_up h6 76 (1152 + 2 * u261) 2147483650 = h264 at j265 f267 ⊢
        refine x_aload (np := 17) (x := 0) (by decide +kernel) rfl (x_nc_le (by decide)) ?_
        have q268 : h264 75 1 = 76 := by have z := jB (e := 1) 0 j265 rg_75_1_0_1 (by decide) (by decide); omega
        refine x_getR (np := 20) (x := 705) (f := 1) (q := 76) (by decide +kernel) (by decide) (by decide +kernel) q268 ?_
        refine x_const (np := 23) (x := 9223376986804585600) (a := 2147484800) (by decide +kernel) (by decide) (by decide) ?_
        refine x_const (np := 24) (x := 9223372047592194050) (a := 2147483650) (by decide +kernel) (by decide) (by decide) ?_
        refine x_aload (np := 25) (x := 0) (by decide +kernel) rfl (x_nc_le (by decide)) ?_
        have q269 : h264 75 13 = h6 75 13 := by rw [← e266]; exact x_up_k (by decide)
        have q270 : h6 75 13 = h 75 13 := jK 0 f8 rg_75_13_0_1 (by omega) (by omega) (by decide)
        refine x_getC (np := 28) (x := 717) (f := 13) (q := (h 75 13)) (by decide +kernel) (by decide) (by decide +kernel) (q269.trans q270) (fun l271 => ?_)
        refine x_imul (np := 29) (x := 0) (i := 2) (j := u261) (v := (2147483648 + 2 * u261)) (by decide +kernel) (by omega) (by omega) (by omega) (by omega) (by decide) l260 ?_
        refine x_iadd (np := 30) (x := 0) (v := (2147484800 + 2 * u261)) (by decide +kernel) (by decide) (by omega) (by omega) (by omega) ?_
        refine x_const (np := 31) (x := 9223372043297226753) (a := 2147483649) (by decide +kernel) (by decide) (by decide) ?_
        refine x_iadd (np := 32) (x := 0) (v := (2147484801 + 2 * u261)) (by decide +kernel) (by omega) (by decide) (by omega) (by omega) ?_
        refine x_iload (np := 33) (x := 2) (by decide +kernel) rfl (by decide) ?_
        refine x_ast (np := 34) (x := 0) (kd := 1) (n := 1952) (i := (1153 + 2 * u261)) (by decide +kernel) (Or.inl rfl) (by decide +kernel) (by omega) (by omega) (by decide) (by decide) (fun z => absurd z (by decide)) ?_
        have j274 := jU (e := (1153 + 2 * u261)) (v := 2147483648) u261 j265 rg_76_1153_2_390 (by omega) (by omega) (by omega)
        have f276 := jF (e := (1153 + 2 * u261)) (v := 2147483648) u261 f267 rg_76_1153_2_390 (by omega) (by omega) (by decide)
        generalize e275 : x_up h264 76 (1153 + 2 * u261) 2147483648 = h273 at j274 f276 ⊢
        refine x_aload (np := 35) (x := 0) (by decide +kernel) rfl (x_nc_le (by decide)) ?_
        refine x_dup (np := 36) (x := 0) (by decide +kernel) (by have z := x_nc_le (k := 75) (by decide); unfold x_r; omega) ?_
        have q277 : h273 75 13 = h264 75 13 := by rw [← e275]; exact x_up_k (by decide)
        have q278 : h264 75 13 = h6 75 13 := by rw [← e266]; exact x_up_k (by decide)
        have q279 : h6 75 13 = h 75 13 := jK 0 f8 rg_75_13_0_1 (by omega) (by omega) (by decide)
        refine x_getC (np := 39) (x := 717) (f := 13) (q := (h 75 13)) (by decide +kernel) (by decide) (by decide +kernel) ((q277.trans q278).trans q279) (fun l280 => ?_)
        refine x_const (np := 40) (x := 9223372043297226753) (a := 2147483649) (by decide +kernel) (by decide) (by decide) ?_
        refine x_iadd (np := 41) (x := 0) (v := (1 + (h 75 13))) (by decide +kernel) l260 (by decide) (by omega) (by omega) ?_
        refine x_putI (np := 44) (x := 717) (f := 13) (by decide +kernel) (by decide +kernel) (by omega) (Or.inl (by decide)) ?_
        have j282 := jU (e := 13) (v := (1 + (h 75 13))) 0 j274 rg_75_13_0_1 (by omega) (by omega) (by omega)
        have f284 := jF (e := 13) (v := (1 + (h 75 13))) 0 f276 rg_75_13_0_1 (by omega) (by omega) (by decide)
        generalize e283 : x_up h273 75 13 (1 + (h 75 13)) = h281 at j282 f284 ⊢
        refine x_retV (np := 45) (x := 0) (by decide +kernel) (by decide +kernel) ⟨rfl, ?_⟩
        have q285 : h281 75 13 = (1 + (h 75 13)) := by rw [← e283]; exact x_up_at
        refine x_iload (np := 121) (x := 1) (by decide +kernel) rfl (by decide) ?_
        refine x_ifz (k := 2) (tg := 128) (np := 124) (by decide +kernel) (by decide) (by decide) (fun q286 => ?_) (fun q287 => ?_)
        · have q286 : 2147483650 < 2147483648 := q286
          exfalso; omega
        have q287 : ¬ (2147483650 < 2147483648) := q287
        refine x_const (np := 125) (x := 9223372043297226753) (a := 2147483649) (by decide +kernel) (by decide) (by decide) ?_
        refine x_goto (np := 128) (x := 129) (by decide +kernel) ?_
        have q288 : h281 75 13 = (1 + (h 75 13)) := by rw [← e283]; exact x_up_at
        have q289 : h281 75 7 = h273 75 7 := by rw [← e283]; exact x_up_i (by omega)
        have q290 : h273 75 7 = h264 75 7 := by rw [← e275]; exact x_up_k (by decide)
        have q291 : h264 75 7 = h6 75 7 := by rw [← e266]; exact x_up_k (by decide)
        have q292 : h281 75 7 = h273 75 7 := by rw [← e283]; exact x_up_i (by omega)
        have q293 : h273 75 7 = h264 75 7 := by rw [← e275]; exact x_up_k (by decide)
        have q294 : h264 75 7 = h6 75 7 := by rw [← e266]; exact x_up_k (by decide)
        have q295 : h281 75 13 = (1 + (h 75 13)) := by rw [← e283]; exact x_up_at
        have k299 : Kp h h6 (h 75 13 - 2147483648) := Kp.fr Kp.refl f8 (by omega) (by decide)
        have k298 : Kp h h264 (h 75 13 - 2147483648) := by rw [← e266]; exact Kp.up k299 (by omega) (fun i hi => by omega)
        have k297 : Kp h h273 (h 75 13 - 2147483648) := by rw [← e275]; exact Kp.up k298 (by omega) (fun i hi => by omega)
        have k296 : Kp h h281 (h 75 13 - 2147483648) := by rw [← e283]; exact Kp.oth k297 (by decide)
        have q300 : h281 75 13 = (1 + (h 75 13)) := by rw [← e283]; exact x_up_at
        have q302 : h281 76 (1152 + 2 * u261) = h273 76 (1152 + 2 * u261) := by rw [← e283]; exact x_up_k (by decide)
        have q303 : h273 76 (1152 + 2 * u261) = h264 76 (1152 + 2 * u261) := by rw [← e275]; exact x_up_i (by omega)
        have q304 : h264 76 (1152 + 2 * u261) = 2147483650 := by rw [← e266]; exact x_up_at
        have s301 : Seg (sg h281) u261 (u261 + 1) := Seg.push (show 2147483648 ≤ h281 76 (1152 + 2 * u261) by omega) (show h281 76 (1152 + 2 * u261) ≤ 2147483656 by omega)
        have s305 : Seg (sg h281) (h 75 13 - 2147483648) (h281 75 13 - 2147483648) := Seg.cast (Seg.kp s301 Kp.refl) (by omega) (by omega)
        refine x_retI (np := 130) (x := 0) (by decide +kernel) (by decide) (Or.inr ⟨by decide +kernel, by omega, by omega⟩) ⟨_, rfl, (by decide), ?_⟩
        exact ⟨j282, f284, (by omega), (fun z => by omega), (fun z => by omega), (fun z => by omega), k296, (fun _ => s305)⟩
      have q35 : ¬ (v28 = 2147483648) := q35
      have b306 := c31 (by omega)
      refine x_const (np := 57) (x := 9223372043297226753) (a := 2147483649) (by decide +kernel) (by decide) (by decide) ?_
      refine x_goto (np := 60) (x := 113) (by decide +kernel) ?_
      refine x_istore (np := 114) (x := 1) (lo' := [x_r 75, iv_c 2147483649]) (by decide +kernel) (by decide) (Nat.le_of_ble_eq_true rfl) rfl ?_
      refine x_aload (np := 115) (x := 0) (by decide +kernel) rfl (x_nc_le (by decide)) ?_
      refine x_iload (np := 116) (x := 1) (by decide +kernel) rfl (by decide) ?_
      refine x_const (np := 117) (x := 9223372039002259456) (a := 2147483648) (by decide +kernel) (by decide) (by decide) ?_
      refine x_nV (t := 6) (mj := 187) (n := 3) (rc := 12) (ml := 3) (nr := 0) (np := 120) (as := [x_r 75, iv_c 2147483649, iv_c 2147483648]) (rest := []) (lo1 := [x_r 75, iv_c 2147483649, iv_c 2147483648]) (by decide +kernel) (by decide) (by decide +kernel) (x_rb_of (by decide +kernel)) rfl rfl (x_wr (by decide) (x_wi (by decide) (x_wi (by decide) x_wn))) x_wn (by decide) rfl ?_
      refine x_aload (np := 1) (x := 0) (by decide +kernel) rfl (x_nc_le (by decide)) ?_
      have q307 : h6 75 1 = 76 := by have z := jB (e := 1) 0 j7 rg_75_1_0_1 (by decide) (by decide); omega
      refine x_getR (np := 4) (x := 705) (f := 1) (q := 76) (by decide +kernel) (by decide) (by decide +kernel) q307 ?_
      refine x_const (np := 7) (x := 9223376986804585600) (a := 2147484800) (by decide +kernel) (by decide) (by decide) ?_
      refine x_const (np := 8) (x := 9223372047592194050) (a := 2147483650) (by decide +kernel) (by decide) (by decide) ?_
      refine x_aload (np := 9) (x := 0) (by decide +kernel) rfl (x_nc_le (by decide)) ?_
      have q308 : h6 75 13 = h 75 13 := jK 0 f8 rg_75_13_0_1 (by omega) (by omega) (by decide)
      refine x_getC (np := 12) (x := 717) (f := 13) (q := (h 75 13)) (by decide +kernel) (by decide) (by decide +kernel) q308 (fun l309 => ?_)
      obtain ⟨u310, q311⟩ : ∃ z, (h 75 13) = 2147483648 + z := ⟨(h 75 13) - 2147483648, by omega⟩
      refine x_imul (np := 13) (x := 0) (i := 2) (j := u310) (v := (2147483648 + 2 * u310)) (by decide +kernel) (by omega) (by omega) (by omega) (by omega) (by decide) l309 ?_
      refine x_iadd (np := 14) (x := 0) (v := (2147484800 + 2 * u310)) (by decide +kernel) (by decide) (by omega) (by omega) (by omega) ?_
      refine x_iload (np := 15) (x := 1) (by decide +kernel) rfl (by decide) ?_
      refine x_ast (np := 16) (x := 0) (kd := 1) (n := 1952) (i := (1152 + 2 * u310)) (by decide +kernel) (Or.inl rfl) (by decide +kernel) (by omega) (by omega) (by decide) (by decide) (fun z => absurd z (by decide)) ?_
      have j314 := jU (e := (1152 + 2 * u310)) (v := 2147483649) u310 j7 rg_76_1152_2_392 (by omega) (by omega) (by omega)
      have f316 := jF (e := (1152 + 2 * u310)) (v := 2147483649) u310 f13 rg_76_1152_2_392 (by omega) (by omega) (by decide)
      generalize e315 : x_up h6 76 (1152 + 2 * u310) 2147483649 = h313 at j314 f316 ⊢
      refine x_aload (np := 17) (x := 0) (by decide +kernel) rfl (x_nc_le (by decide)) ?_
      have q317 : h313 75 1 = 76 := by have z := jB (e := 1) 0 j314 rg_75_1_0_1 (by decide) (by decide); omega
      refine x_getR (np := 20) (x := 705) (f := 1) (q := 76) (by decide +kernel) (by decide) (by decide +kernel) q317 ?_
      refine x_const (np := 23) (x := 9223376986804585600) (a := 2147484800) (by decide +kernel) (by decide) (by decide) ?_
      refine x_const (np := 24) (x := 9223372047592194050) (a := 2147483650) (by decide +kernel) (by decide) (by decide) ?_
      refine x_aload (np := 25) (x := 0) (by decide +kernel) rfl (x_nc_le (by decide)) ?_
      have q318 : h313 75 13 = h6 75 13 := by rw [← e315]; exact x_up_k (by decide)
      have q319 : h6 75 13 = h 75 13 := jK 0 f8 rg_75_13_0_1 (by omega) (by omega) (by decide)
      refine x_getC (np := 28) (x := 717) (f := 13) (q := (h 75 13)) (by decide +kernel) (by decide) (by decide +kernel) (q318.trans q319) (fun l320 => ?_)
      refine x_imul (np := 29) (x := 0) (i := 2) (j := u310) (v := (2147483648 + 2 * u310)) (by decide +kernel) (by omega) (by omega) (by omega) (by omega) (by decide) l309 ?_
      refine x_iadd (np := 30) (x := 0) (v := (2147484800 + 2 * u310)) (by decide +kernel) (by decide) (by omega) (by omega) (by omega) ?_
      refine x_const (np := 31) (x := 9223372043297226753) (a := 2147483649) (by decide +kernel) (by decide) (by decide) ?_
      refine x_iadd (np := 32) (x := 0) (v := (2147484801 + 2 * u310)) (by decide +kernel) (by omega) (by decide) (by omega) (by omega) ?_
      refine x_iload (np := 33) (x := 2) (by decide +kernel) rfl (by decide) ?_
      refine x_ast (np := 34) (x := 0) (kd := 1) (n := 1952) (i := (1153 + 2 * u310)) (by decide +kernel) (Or.inl rfl) (by decide +kernel) (by omega) (by omega) (by decide) (by decide) (fun z => absurd z (by decide)) ?_
      have j323 := jU (e := (1153 + 2 * u310)) (v := 2147483648) u310 j314 rg_76_1153_2_392 (by omega) (by omega) (by omega)
      have f325 := jF (e := (1153 + 2 * u310)) (v := 2147483648) u310 f316 rg_76_1153_2_392 (by omega) (by omega) (by decide)
      generalize e324 : x_up h313 76 (1153 + 2 * u310) 2147483648 = h322 at j323 f325 ⊢
      refine x_aload (np := 35) (x := 0) (by decide +kernel) rfl (x_nc_le (by decide)) ?_
      refine x_dup (np := 36) (x := 0) (by decide +kernel) (by have z := x_nc_le (k := 75) (by decide); unfold x_r; omega) ?_
      have q326 : h322 75 13 = h313 75 13 := by rw [← e324]; exact x_up_k (by decide)
      have q327 : h313 75 13 = h6 75 13 := by rw [← e315]; exact x_up_k (by decide)
      have q328 : h6 75 13 = h 75 13 := jK 0 f8 rg_75_13_0_1 (by omega) (by omega) (by decide)
      refine x_getC (np := 39) (x := 717) (f := 13) (q := (h 75 13)) (by decide +kernel) (by decide) (by decide +kernel) ((q326.trans q327).trans q328) (fun l329 => ?_)
      refine x_const (np := 40) (x := 9223372043297226753) (a := 2147483649) (by decide +kernel) (by decide) (by decide) ?_
      refine x_iadd (np := 41) (x := 0) (v := (1 + (h 75 13))) (by decide +kernel) l309 (by decide) (by omega) (by omega) ?_
      refine x_putI (np := 44) (x := 717) (f := 13) (by decide +kernel) (by decide +kernel) (by omega) (Or.inl (by decide)) ?_
      have j331 := jU (e := 13) (v := (1 + (h 75 13))) 0 j323 rg_75_13_0_1 (by omega) (by omega) (by omega)
      have f333 := jF (e := 13) (v := (1 + (h 75 13))) 0 f325 rg_75_13_0_1 (by omega) (by omega) (by decide)
      generalize e332 : x_up h322 75 13 (1 + (h 75 13)) = h330 at j331 f333 ⊢
      refine x_retV (np := 45) (x := 0) (by decide +kernel) (by decide +kernel) ⟨rfl, ?_⟩
      have q334 : h330 75 13 = (1 + (h 75 13)) := by rw [← e332]; exact x_up_at
      refine x_iload (np := 121) (x := 1) (by decide +kernel) rfl (by decide) ?_
      refine x_ifz (k := 2) (tg := 128) (np := 124) (by decide +kernel) (by decide) (by decide) (fun q335 => ?_) (fun q336 => ?_)
      · have q335 : 2147483649 < 2147483648 := q335
        exfalso; omega
      have q336 : ¬ (2147483649 < 2147483648) := q336
      refine x_const (np := 125) (x := 9223372043297226753) (a := 2147483649) (by decide +kernel) (by decide) (by decide) ?_
      refine x_goto (np := 128) (x := 129) (by decide +kernel) ?_
      have q337 : h330 75 13 = (1 + (h 75 13)) := by rw [← e332]; exact x_up_at
      have q338 : h330 75 7 = h322 75 7 := by rw [← e332]; exact x_up_i (by omega)
      have q339 : h322 75 7 = h313 75 7 := by rw [← e324]; exact x_up_k (by decide)
      have q340 : h313 75 7 = h6 75 7 := by rw [← e315]; exact x_up_k (by decide)
      have q341 : h330 75 7 = h322 75 7 := by rw [← e332]; exact x_up_i (by omega)
      have q342 : h322 75 7 = h313 75 7 := by rw [← e324]; exact x_up_k (by decide)
      have q343 : h313 75 7 = h6 75 7 := by rw [← e315]; exact x_up_k (by decide)
      have q344 : h330 75 13 = (1 + (h 75 13)) := by rw [← e332]; exact x_up_at
      have k348 : Kp h h6 (h 75 13 - 2147483648) := Kp.fr Kp.refl f8 (by omega) (by decide)
      have k347 : Kp h h313 (h 75 13 - 2147483648) := by rw [← e315]; exact Kp.up k348 (by omega) (fun i hi => by omega)
      have k346 : Kp h h322 (h 75 13 - 2147483648) := by rw [← e324]; exact Kp.up k347 (by omega) (fun i hi => by omega)
      have k345 : Kp h h330 (h 75 13 - 2147483648) := by rw [← e332]; exact Kp.oth k346 (by decide)
      have q349 : h330 75 13 = (1 + (h 75 13)) := by rw [← e332]; exact x_up_at
      have q351 : h330 76 (1152 + 2 * u310) = h322 76 (1152 + 2 * u310) := by rw [← e332]; exact x_up_k (by decide)
      have q352 : h322 76 (1152 + 2 * u310) = h313 76 (1152 + 2 * u310) := by rw [← e324]; exact x_up_i (by omega)
      have q353 : h313 76 (1152 + 2 * u310) = 2147483649 := by rw [← e315]; exact x_up_at
      have s350 : Seg (sg h330) u310 (u310 + 1) := Seg.push (show 2147483648 ≤ h330 76 (1152 + 2 * u310) by omega) (show h330 76 (1152 + 2 * u310) ≤ 2147483656 by omega)
      have s354 : Seg (sg h330) (h 75 13 - 2147483648) (h330 75 13 - 2147483648) := Seg.cast (Seg.kp s350 Kp.refl) (by omega) (by omega)
      refine x_retI (np := 130) (x := 0) (by decide +kernel) (by decide) (Or.inr ⟨by decide +kernel, by omega, by omega⟩) ⟨_, rfl, (by decide), ?_⟩
      exact ⟨j331, f333, (by omega), (fun z => by omega), (fun z => by omega), (fun z => by omega), k345, (fun _ => s354)⟩
    have q27 : ¬ (v20 = 2147483648) := q27
    have b355 := c23 (by omega)
    refine x_const (np := 44) (x := 9223372039002259456) (a := 2147483648) (by decide +kernel) (by decide) (by decide) ?_
    refine x_goto (np := 47) (x := 113) (by decide +kernel) ?_
    refine x_istore (np := 114) (x := 1) (lo' := [x_r 75, iv_c 2147483648]) (by decide +kernel) (by decide) (Nat.le_of_ble_eq_true rfl) rfl ?_
    refine x_aload (np := 115) (x := 0) (by decide +kernel) rfl (x_nc_le (by decide)) ?_
    refine x_iload (np := 116) (x := 1) (by decide +kernel) rfl (by decide) ?_
    refine x_const (np := 117) (x := 9223372039002259456) (a := 2147483648) (by decide +kernel) (by decide) (by decide) ?_
    refine x_nV (t := 6) (mj := 187) (n := 3) (rc := 12) (ml := 3) (nr := 0) (np := 120) (as := [x_r 75, iv_c 2147483648, iv_c 2147483648]) (rest := []) (lo1 := [x_r 75, iv_c 2147483648, iv_c 2147483648]) (by decide +kernel) (by decide) (by decide +kernel) (x_rb_of (by decide +kernel)) rfl rfl (x_wr (by decide) (x_wi (by decide) (x_wi (by decide) x_wn))) x_wn (by decide) rfl ?_
    refine x_aload (np := 1) (x := 0) (by decide +kernel) rfl (x_nc_le (by decide)) ?_
    have q356 : h6 75 1 = 76 := by have z := jB (e := 1) 0 j7 rg_75_1_0_1 (by decide) (by decide); omega
    refine x_getR (np := 4) (x := 705) (f := 1) (q := 76) (by decide +kernel) (by decide) (by decide +kernel) q356 ?_
    refine x_const (np := 7) (x := 9223376986804585600) (a := 2147484800) (by decide +kernel) (by decide) (by decide) ?_
    refine x_const (np := 8) (x := 9223372047592194050) (a := 2147483650) (by decide +kernel) (by decide) (by decide) ?_
    refine x_aload (np := 9) (x := 0) (by decide +kernel) rfl (x_nc_le (by decide)) ?_
    have q357 : h6 75 13 = h 75 13 := jK 0 f8 rg_75_13_0_1 (by omega) (by omega) (by decide)
    refine x_getC (np := 12) (x := 717) (f := 13) (q := (h 75 13)) (by decide +kernel) (by decide) (by decide +kernel) q357 (fun l358 => ?_)
    obtain ⟨u359, q360⟩ : ∃ z, (h 75 13) = 2147483648 + z := ⟨(h 75 13) - 2147483648, by omega⟩
    refine x_imul (np := 13) (x := 0) (i := 2) (j := u359) (v := (2147483648 + 2 * u359)) (by decide +kernel) (by omega) (by omega) (by omega) (by omega) (by decide) l358 ?_
    refine x_iadd (np := 14) (x := 0) (v := (2147484800 + 2 * u359)) (by decide +kernel) (by decide) (by omega) (by omega) (by omega) ?_
    refine x_iload (np := 15) (x := 1) (by decide +kernel) rfl (by decide) ?_
    refine x_ast (np := 16) (x := 0) (kd := 1) (n := 1952) (i := (1152 + 2 * u359)) (by decide +kernel) (Or.inl rfl) (by decide +kernel) (by omega) (by omega) (by decide) (by decide) (fun z => absurd z (by decide)) ?_
    have j363 := jU (e := (1152 + 2 * u359)) (v := 2147483648) u359 j7 rg_76_1152_2_393 (by omega) (by omega) (by omega)
    have f365 := jF (e := (1152 + 2 * u359)) (v := 2147483648) u359 f13 rg_76_1152_2_393 (by omega) (by omega) (by decide)
    generalize e364 : x_up h6 76 (1152 + 2 * u359) 2147483648 = h362 at j363 f365 ⊢
    refine x_aload (np := 17) (x := 0) (by decide +kernel) rfl (x_nc_le (by decide)) ?_
    have q366 : h362 75 1 = 76 := by have z := jB (e := 1) 0 j363 rg_75_1_0_1 (by decide) (by decide); omega
    refine x_getR (np := 20) (x := 705) (f := 1) (q := 76) (by decide +kernel) (by decide) (by decide +kernel) q366 ?_
    refine x_const (np := 23) (x := 9223376986804585600) (a := 2147484800) (by decide +kernel) (by decide) (by decide) ?_
    refine x_const (np := 24) (x := 9223372047592194050) (a := 2147483650) (by decide +kernel) (by decide) (by decide) ?_
    refine x_aload (np := 25) (x := 0) (by decide +kernel) rfl (x_nc_le (by decide)) ?_
    have q367 : h362 75 13 = h6 75 13 := by rw [← e364]; exact x_up_k (by decide)
    have q368 : h6 75 13 = h 75 13 := jK 0 f8 rg_75_13_0_1 (by omega) (by omega) (by decide)
    refine x_getC (np := 28) (x := 717) (f := 13) (q := (h 75 13)) (by decide +kernel) (by decide) (by decide +kernel) (q367.trans q368) (fun l369 => ?_)
    refine x_imul (np := 29) (x := 0) (i := 2) (j := u359) (v := (2147483648 + 2 * u359)) (by decide +kernel) (by omega) (by omega) (by omega) (by omega) (by decide) l358 ?_
    refine x_iadd (np := 30) (x := 0) (v := (2147484800 + 2 * u359)) (by decide +kernel) (by decide) (by omega) (by omega) (by omega) ?_
    refine x_const (np := 31) (x := 9223372043297226753) (a := 2147483649) (by decide +kernel) (by decide) (by decide) ?_
    refine x_iadd (np := 32) (x := 0) (v := (2147484801 + 2 * u359)) (by decide +kernel) (by omega) (by decide) (by omega) (by omega) ?_
    refine x_iload (np := 33) (x := 2) (by decide +kernel) rfl (by decide) ?_
    refine x_ast (np := 34) (x := 0) (kd := 1) (n := 1952) (i := (1153 + 2 * u359)) (by decide +kernel) (Or.inl rfl) (by decide +kernel) (by omega) (by omega) (by decide) (by decide) (fun z => absurd z (by decide)) ?_
    have j372 := jU (e := (1153 + 2 * u359)) (v := 2147483648) u359 j363 rg_76_1153_2_393 (by omega) (by omega) (by omega)
    have f374 := jF (e := (1153 + 2 * u359)) (v := 2147483648) u359 f365 rg_76_1153_2_393 (by omega) (by omega) (by decide)
    generalize e373 : x_up h362 76 (1153 + 2 * u359) 2147483648 = h371 at j372 f374 ⊢
    refine x_aload (np := 35) (x := 0) (by decide +kernel) rfl (x_nc_le (by decide)) ?_
    refine x_dup (np := 36) (x := 0) (by decide +kernel) (by have z := x_nc_le (k := 75) (by decide); unfold x_r; omega) ?_
    have q375 : h371 75 13 = h362 75 13 := by rw [← e373]; exact x_up_k (by decide)
    have q376 : h362 75 13 = h6 75 13 := by rw [← e364]; exact x_up_k (by decide)
    have q377 : h6 75 13 = h 75 13 := jK 0 f8 rg_75_13_0_1 (by omega) (by omega) (by decide)
    refine x_getC (np := 39) (x := 717) (f := 13) (q := (h 75 13)) (by decide +kernel) (by decide) (by decide +kernel) ((q375.trans q376).trans q377) (fun l378 => ?_)
    refine x_const (np := 40) (x := 9223372043297226753) (a := 2147483649) (by decide +kernel) (by decide) (by decide) ?_
    refine x_iadd (np := 41) (x := 0) (v := (1 + (h 75 13))) (by decide +kernel) l358 (by decide) (by omega) (by omega) ?_
    refine x_putI (np := 44) (x := 717) (f := 13) (by decide +kernel) (by decide +kernel) (by omega) (Or.inl (by decide)) ?_
    have j380 := jU (e := 13) (v := (1 + (h 75 13))) 0 j372 rg_75_13_0_1 (by omega) (by omega) (by omega)
    have f382 := jF (e := 13) (v := (1 + (h 75 13))) 0 f374 rg_75_13_0_1 (by omega) (by omega) (by decide)
    generalize e381 : x_up h371 75 13 (1 + (h 75 13)) = h379 at j380 f382 ⊢
    refine x_retV (np := 45) (x := 0) (by decide +kernel) (by decide +kernel) ⟨rfl, ?_⟩
    have q383 : h379 75 13 = (1 + (h 75 13)) := by rw [← e381]; exact x_up_at
    refine x_iload (np := 121) (x := 1) (by decide +kernel) rfl (by decide) ?_
    refine x_ifz (k := 2) (tg := 128) (np := 124) (by decide +kernel) (by decide) (by decide) (fun q384 => ?_) (fun q385 => ?_)
    · have q384 : 2147483648 < 2147483648 := q384
      exfalso; omega
    have q385 : ¬ (2147483648 < 2147483648) := q385
    refine x_const (np := 125) (x := 9223372043297226753) (a := 2147483649) (by decide +kernel) (by decide) (by decide) ?_
    refine x_goto (np := 128) (x := 129) (by decide +kernel) ?_
    have q386 : h379 75 13 = (1 + (h 75 13)) := by rw [← e381]; exact x_up_at
    have q387 : h379 75 7 = h371 75 7 := by rw [← e381]; exact x_up_i (by omega)
    have q388 : h371 75 7 = h362 75 7 := by rw [← e373]; exact x_up_k (by decide)
    have q389 : h362 75 7 = h6 75 7 := by rw [← e364]; exact x_up_k (by decide)
    have q390 : h379 75 7 = h371 75 7 := by rw [← e381]; exact x_up_i (by omega)
    have q391 : h371 75 7 = h362 75 7 := by rw [← e373]; exact x_up_k (by decide)
    have q392 : h362 75 7 = h6 75 7 := by rw [← e364]; exact x_up_k (by decide)
    have q393 : h379 75 13 = (1 + (h 75 13)) := by rw [← e381]; exact x_up_at
    have k397 : Kp h h6 (h 75 13 - 2147483648) := Kp.fr Kp.refl f8 (by omega) (by decide)
    have k396 : Kp h h362 (h 75 13 - 2147483648) := by rw [← e364]; exact Kp.up k397 (by omega) (fun i hi => by omega)
    have k395 : Kp h h371 (h 75 13 - 2147483648) := by rw [← e373]; exact Kp.up k396 (by omega) (fun i hi => by omega)
    have k394 : Kp h h379 (h 75 13 - 2147483648) := by rw [← e381]; exact Kp.oth k395 (by decide)
    have q398 : h379 75 13 = (1 + (h 75 13)) := by rw [← e381]; exact x_up_at
    have q400 : h379 76 (1152 + 2 * u359) = h371 76 (1152 + 2 * u359) := by rw [← e381]; exact x_up_k (by decide)
    have q401 : h371 76 (1152 + 2 * u359) = h362 76 (1152 + 2 * u359) := by rw [← e373]; exact x_up_i (by omega)
    have q402 : h362 76 (1152 + 2 * u359) = 2147483648 := by rw [← e364]; exact x_up_at
    have s399 : Seg (sg h379) u359 (u359 + 1) := Seg.push (show 2147483648 ≤ h379 76 (1152 + 2 * u359) by omega) (show h379 76 (1152 + 2 * u359) ≤ 2147483656 by omega)
    have s403 : Seg (sg h379) (h 75 13 - 2147483648) (h379 75 13 - 2147483648) := Seg.cast (Seg.kp s399 Kp.refl) (by omega) (by omega)
    refine x_retI (np := 130) (x := 0) (by decide +kernel) (by decide) (Or.inr ⟨by decide +kernel, by omega, by omega⟩) ⟨_, rfl, (by decide), ?_⟩
    exact ⟨j380, f382, (by omega), (fun z => by omega), (fun z => by omega), (fun z => by omega), k394, (fun _ => s403)⟩
  have q19 : ¬ ((h6 75 7) ≠ (h6 75 9)) := q19
  refine x_aload (np := 16) (x := 0) (by decide +kernel) rfl (x_nc_le (by decide)) ?_
  refine x_const (np := 17) (x := 9223372039002259456) (a := 2147483648) (by decide +kernel) (by decide) (by decide) ?_
  refine x_const (np := 20) (x := 9223376329674589159) (a := 2147484647) (by decide +kernel) (by decide) (by decide) ?_
  refine x_cI (t := 6) (mj := 174) (n := 3) (rc := 12) (ml := 4) (nr := 0) (np := 23) (as := [x_r 75, iv_c 2147483648, iv_c 2147484647]) (rest := []) (lo1 := [x_r 75, iv_c 2147483648, iv_c 2147484647, 147573952589676412928]) (by decide +kernel) (by decide) (by decide +kernel) (x_rb_of (by decide +kernel)) rfl rfl (x_wr (by decide) (x_wi (by decide) (x_wi (by decide) x_wn))) x_wn (by decide) rfl (c174_75 j7  (by omega) (by omega)) (fun v404 h407 l405 q406 => ?_)
  obtain ⟨j408, f409, b410, c411, c412, c413, c414, c415⟩ := q406
  have f416 := Fr.trans f13 f409 (by decide)
  have b417 := jB (e := 7) 0 j408 rg_75_7_0_1 (by omega) (by omega)
  have b418 := c415 (by omega)
  refine x_istore (np := 24) (x := 1) (lo' := [x_r 75, iv_c v404]) (by decide +kernel) l405 (Nat.le_of_ble_eq_true rfl) rfl ?_
  refine x_aload (np := 25) (x := 0) (by decide +kernel) rfl (x_nc_le (by decide)) ?_
  refine x_const (np := 27) (x := 9223372073361997832) (a := 2147483656) (by decide +kernel) (by decide) (by decide) ?_
  refine x_iload (np := 28) (x := 1) (by decide +kernel) rfl l405 ?_
  refine x_nV (t := 6) (mj := 187) (n := 3) (rc := 12) (ml := 3) (nr := 0) (np := 31) (as := [x_r 75, iv_c 2147483656, iv_c v404]) (rest := []) (lo1 := [x_r 75, iv_c 2147483656, iv_c v404]) (by decide +kernel) (by decide) (by decide +kernel) (x_rb_of (by decide +kernel)) rfl rfl (x_wr (by decide) (x_wi (by decide) (x_wi l405 x_wn))) x_wn (by decide) rfl ?_
  refine x_aload (np := 1) (x := 0) (by decide +kernel) rfl (x_nc_le (by decide)) ?_
  have q419 : h407 75 1 = 76 := by have z := jB (e := 1) 0 j408 rg_75_1_0_1 (by decide) (by decide); omega
  refine x_getR (np := 4) (x := 705) (f := 1) (q := 76) (by decide +kernel) (by decide) (by decide +kernel) q419 ?_
  refine x_const (np := 7) (x := 9223376986804585600) (a := 2147484800) (by decide +kernel) (by decide) (by decide) ?_
  refine x_const (np := 8) (x := 9223372047592194050) (a := 2147483650) (by decide +kernel) (by decide) (by decide) ?_
  refine x_aload (np := 9) (x := 0) (by decide +kernel) rfl (x_nc_le (by decide)) ?_
  have q420 : h407 75 13 = h6 75 13 := jK 0 f409 rg_75_13_0_1 (by omega) (by omega) (by decide)
  have q421 : h6 75 13 = h 75 13 := jK 0 f8 rg_75_13_0_1 (by omega) (by omega) (by decide)
  refine x_getC (np := 12) (x := 717) (f := 13) (q := (h 75 13)) (by decide +kernel) (by decide) (by decide +kernel) (q420.trans q421) (fun l422 => ?_)
  obtain ⟨u423, q424⟩ : ∃ z, (h 75 13) = 2147483648 + z := ⟨(h 75 13) - 2147483648, by omega⟩
  refine x_imul (np := 13) (x := 0) (i := 2) (j := u423) (v := (2147483648 + 2 * u423)) (by decide +kernel) (by omega) (by omega) (by omega) (by omega) (by decide) l422 ?_
  refine x_iadd (np := 14) (x := 0) (v := (2147484800 + 2 * u423)) (by decide +kernel) (by decide) (by omega) (by omega) (by omega) ?_
  refine x_iload (np := 15) (x := 1) (by decide +kernel) rfl (by decide) ?_
  refine x_ast (np := 16) (x := 0) (kd := 1) (n := 1952) (i := (1152 + 2 * u423)) (by decide +kernel) (Or.inl rfl) (by decide +kernel) (by omega) (by omega) (by decide) (by decide) (fun z => absurd z (by decide)) ?_
  have j427 := jU (e := (1152 + 2 * u423)) (v := 2147483656) u423 j408 rg_76_1152_2_396 (by omega) (by omega) (by omega)
  have f429 := jF (e := (1152 + 2 * u423)) (v := 2147483656) u423 f416 rg_76_1152_2_396 (by omega) (by omega) (by decide)
  generalize e428 : x_up h407 76 (1152 + 2 * u423) 2147483656 = h426 at j427 f429 ⊢
  refine x_aload (np := 17) (x := 0) (by decide +kernel) rfl (x_nc_le (by decide)) ?_
  have q430 : h426 75 1 = 76 := by have z := jB (e := 1) 0 j427 rg_75_1_0_1 (by decide) (by decide); omega
  refine x_getR (np := 20) (x := 705) (f := 1) (q := 76) (by decide +kernel) (by decide) (by decide +kernel) q430 ?_
  refine x_const (np := 23) (x := 9223376986804585600) (a := 2147484800) (by decide +kernel) (by decide) (by decide) ?_
  refine x_const (np := 24) (x := 9223372047592194050) (a := 2147483650) (by decide +kernel) (by decide) (by decide) ?_
  refine x_aload (np := 25) (x := 0) (by decide +kernel) rfl (x_nc_le (by decide)) ?_
  have q431 : h426 75 13 = h407 75 13 := by rw [← e428]; exact x_up_k (by decide)
  have q432 : h407 75 13 = h6 75 13 := jK 0 f409 rg_75_13_0_1 (by omega) (by omega) (by decide)
  have q433 : h6 75 13 = h 75 13 := jK 0 f8 rg_75_13_0_1 (by omega) (by omega) (by decide)
  refine x_getC (np := 28) (x := 717) (f := 13) (q := (h 75 13)) (by decide +kernel) (by decide) (by decide +kernel) ((q431.trans q432).trans q433) (fun l434 => ?_)
  refine x_imul (np := 29) (x := 0) (i := 2) (j := u423) (v := (2147483648 + 2 * u423)) (by decide +kernel) (by omega) (by omega) (by omega) (by omega) (by decide) l422 ?_
  refine x_iadd (np := 30) (x := 0) (v := (2147484800 + 2 * u423)) (by decide +kernel) (by decide) (by omega) (by omega) (by omega) ?_
  refine x_const (np := 31) (x := 9223372043297226753) (a := 2147483649) (by decide +kernel) (by decide) (by decide) ?_
  refine x_iadd (np := 32) (x := 0) (v := (2147484801 + 2 * u423)) (by decide +kernel) (by omega) (by decide) (by omega) (by omega) ?_
  refine x_iload (np := 33) (x := 2) (by decide +kernel) rfl l405 ?_
  refine x_ast (np := 34) (x := 0) (kd := 1) (n := 1952) (i := (1153 + 2 * u423)) (by decide +kernel) (Or.inl rfl) (by decide +kernel) (by omega) (by omega) (by decide) l405 (fun z => absurd z (by decide)) ?_
  have j437 := jU (e := (1153 + 2 * u423)) (v := v404) u423 j427 rg_76_1153_2_396 (by omega) (by omega) (by omega)
  have f439 := jF (e := (1153 + 2 * u423)) (v := v404) u423 f429 rg_76_1153_2_396 (by omega) (by omega) (by decide)
  generalize e438 : x_up h426 76 (1153 + 2 * u423) v404 = h436 at j437 f439 ⊢
  refine x_aload (np := 35) (x := 0) (by decide +kernel) rfl (x_nc_le (by decide)) ?_
  refine x_dup (np := 36) (x := 0) (by decide +kernel) (by have z := x_nc_le (k := 75) (by decide); unfold x_r; omega) ?_
  have q440 : h436 75 13 = h426 75 13 := by rw [← e438]; exact x_up_k (by decide)
  have q441 : h426 75 13 = h407 75 13 := by rw [← e428]; exact x_up_k (by decide)
  have q442 : h407 75 13 = h6 75 13 := jK 0 f409 rg_75_13_0_1 (by omega) (by omega) (by decide)
  have q443 : h6 75 13 = h 75 13 := jK 0 f8 rg_75_13_0_1 (by omega) (by omega) (by decide)
  refine x_getC (np := 39) (x := 717) (f := 13) (q := (h 75 13)) (by decide +kernel) (by decide) (by decide +kernel) (((q440.trans q441).trans q442).trans q443) (fun l444 => ?_)
  refine x_const (np := 40) (x := 9223372043297226753) (a := 2147483649) (by decide +kernel) (by decide) (by decide) ?_
  refine x_iadd (np := 41) (x := 0) (v := (1 + (h 75 13))) (by decide +kernel) l422 (by decide) (by omega) (by omega) ?_
  refine x_putI (np := 44) (x := 717) (f := 13) (by decide +kernel) (by decide +kernel) (by omega) (Or.inl (by decide)) ?_
  have j446 := jU (e := 13) (v := (1 + (h 75 13))) 0 j437 rg_75_13_0_1 (by omega) (by omega) (by omega)
  have f448 := jF (e := 13) (v := (1 + (h 75 13))) 0 f439 rg_75_13_0_1 (by omega) (by omega) (by decide)
  generalize e447 : x_up h436 75 13 (1 + (h 75 13)) = h445 at j446 f448 ⊢
  refine x_retV (np := 45) (x := 0) (by decide +kernel) (by decide +kernel) ⟨rfl, ?_⟩
  have q449 : h445 75 13 = (1 + (h 75 13)) := by rw [← e447]; exact x_up_at
  refine x_goto (np := 34) (x := 120) (by decide +kernel) ?_
  refine x_iload (np := 121) (x := 1) (by decide +kernel) rfl l405 ?_
  refine x_ifz (k := 2) (tg := 128) (np := 124) (by decide +kernel) (by decide) l405 (fun q450 => ?_) (fun q451 => ?_)
  · have q450 : v404 < 2147483648 := q450
    refine x_const (np := 129) (x := 9223372039002259456) (a := 2147483648) (by decide +kernel) (by decide) (by decide) ?_
    have q452 : h445 75 13 = (1 + (h 75 13)) := by rw [← e447]; exact x_up_at
    have q453 : h445 75 7 = h436 75 7 := by rw [← e447]; exact x_up_i (by omega)
    have q454 : h436 75 7 = h426 75 7 := by rw [← e438]; exact x_up_k (by decide)
    have q455 : h426 75 7 = h407 75 7 := by rw [← e428]; exact x_up_k (by decide)
    have q456 : h445 75 7 = h436 75 7 := by rw [← e447]; exact x_up_i (by omega)
    have q457 : h436 75 7 = h426 75 7 := by rw [← e438]; exact x_up_k (by decide)
    have q458 : h426 75 7 = h407 75 7 := by rw [← e428]; exact x_up_k (by decide)
    have q459 : h445 75 13 = (1 + (h 75 13)) := by rw [← e447]; exact x_up_at
    have k464 : Kp h h6 (h 75 13 - 2147483648) := Kp.fr Kp.refl f8 (by omega) (by decide)
    have k463 : Kp h h407 (h 75 13 - 2147483648) := Kp.fr k464 f409 (by omega) (by decide)
    have k462 : Kp h h426 (h 75 13 - 2147483648) := by rw [← e428]; exact Kp.up k463 (by omega) (fun i hi => by omega)
    have k461 : Kp h h436 (h 75 13 - 2147483648) := by rw [← e438]; exact Kp.up k462 (by omega) (fun i hi => by omega)
    have k460 : Kp h h445 (h 75 13 - 2147483648) := by rw [← e447]; exact Kp.oth k461 (by decide)
    refine x_retI (np := 130) (x := 0) (by decide +kernel) (by decide) (Or.inr ⟨by decide +kernel, by omega, by omega⟩) ⟨_, rfl, (by decide), ?_⟩
    exact ⟨j446, f448, (by omega), (fun z => by omega), (fun z => by omega), (fun z => by omega), k460, (fun z => absurd z (by omega))⟩
  have q451 : ¬ (v404 < 2147483648) := q451
  have b465 := c412 (by omega)
  have b466 := c413 (by omega)
  have b467 := c414 (by omega)
  refine x_const (np := 125) (x := 9223372043297226753) (a := 2147483649) (by decide +kernel) (by decide) (by decide) ?_
  refine x_goto (np := 128) (x := 129) (by decide +kernel) ?_
  have q468 : h445 75 13 = (1 + (h 75 13)) := by rw [← e447]; exact x_up_at
  have q469 : h445 75 7 = h436 75 7 := by rw [← e447]; exact x_up_i (by omega)
  have q470 : h436 75 7 = h426 75 7 := by rw [← e438]; exact x_up_k (by decide)
  have q471 : h426 75 7 = h407 75 7 := by rw [← e428]; exact x_up_k (by decide)
  have q472 : h445 75 7 = h436 75 7 := by rw [← e447]; exact x_up_i (by omega)
  have q473 : h436 75 7 = h426 75 7 := by rw [← e438]; exact x_up_k (by decide)
  have q474 : h426 75 7 = h407 75 7 := by rw [← e428]; exact x_up_k (by decide)
  have q475 : h445 75 13 = (1 + (h 75 13)) := by rw [← e447]; exact x_up_at
  have k480 : Kp h h6 (h 75 13 - 2147483648) := Kp.fr Kp.refl f8 (by omega) (by decide)
  have k479 : Kp h h407 (h 75 13 - 2147483648) := Kp.fr k480 f409 (by omega) (by decide)
  have k478 : Kp h h426 (h 75 13 - 2147483648) := by rw [← e428]; exact Kp.up k479 (by omega) (fun i hi => by omega)
  have k477 : Kp h h436 (h 75 13 - 2147483648) := by rw [← e438]; exact Kp.up k478 (by omega) (fun i hi => by omega)
  have k476 : Kp h h445 (h 75 13 - 2147483648) := by rw [← e447]; exact Kp.oth k477 (by decide)
  have q481 : h445 75 13 = (1 + (h 75 13)) := by rw [← e447]; exact x_up_at
  have q483 : h445 76 (1152 + 2 * u423) = h436 76 (1152 + 2 * u423) := by rw [← e447]; exact x_up_k (by decide)
  have q484 : h436 76 (1152 + 2 * u423) = h426 76 (1152 + 2 * u423) := by rw [← e438]; exact x_up_i (by omega)
  have q485 : h426 76 (1152 + 2 * u423) = 2147483656 := by rw [← e428]; exact x_up_at
  have s482 : Seg (sg h445) u423 (u423 + 1) := Seg.push (show 2147483648 ≤ h445 76 (1152 + 2 * u423) by omega) (show h445 76 (1152 + 2 * u423) ≤ 2147483656 by omega)
  have s486 : Seg (sg h445) (h 75 13 - 2147483648) (h445 75 13 - 2147483648) := Seg.cast (Seg.kp s482 Kp.refl) (by omega) (by omega)
  refine x_retI (np := 130) (x := 0) (by decide +kernel) (by decide) (Or.inr ⟨by decide +kernel, by omega, by omega⟩) ⟨_, rfl, (by decide), ?_⟩
  exact ⟨j446, f448, (by omega), (fun z => by omega), (fun z => by omega), (fun z => by omega), k476, (fun _ => s486)⟩
set_option maxHeartbeats 0 in
/-- LentNamesModel.readSum()Z -/
theorem c189_75 {sc : Nat × Nat} {d  : Nat} {h : xh} (hJ : J h) (hr0 : (h 75 13) + 5 ≤ (h 75 7)) : X sc 189 (d + 6) (xI fun r h' => J h' ∧ Fr 89128961 h h' ∧ (2147483648 ≤ r ∧ r ≤ 2147483649) ∧ (r = 2147483649 → h' 75 13 + h 75 7 ≤ h' 75 7 + h 75 13) ∧ (r = 2147483649 → h 75 7 + 0 ≤ h' 75 7) ∧ (r = 2147483649 → h 75 13 ≤ h' 75 13) ∧ Kp h h' (h 75 13 - 2147483648) ∧ (r = 2147483649 → Seg (sg h') (h 75 13 - 2147483648) (h' 75 13 - 2147483648))) 0 0 0 [x_r 75] [] h := by
  have hF := Fr.refl 89128961 h
  have b1 := jB (e := 13) 0 hJ rg_75_13_0_1 (by omega) (by omega)
  have b2 := jB (e := 7) 0 hJ rg_75_7_0_1 (by omega) (by omega)
  refine x_aload (np := 1) (x := 0) (by decide +kernel) rfl (x_nc_le (by decide)) ?_
  refine x_cI (t := 6) (mj := 188) (n := 1) (rc := 12) (ml := 2) (nr := 0) (np := 4) (as := [x_r 75]) (rest := []) (lo1 := [x_r 75, 147573952589676412928]) (by decide +kernel) (by decide) (by decide +kernel) (x_rb_of (by decide +kernel)) rfl rfl (x_wr (by decide) x_wn) x_wn (by decide) rfl (c188_75 hJ  (by omega)) (fun v3 h6 l4 q5 => ?_)
  obtain ⟨j7, f8, b9, c10, c11, c12, c13, c14⟩ := q5
  have f15 := Fr.trans hF f8 (by decide)
  have b16 := jB (e := 13) 0 j7 rg_75_13_0_1 (by omega) (by omega)
  have b17 := jB (e := 7) 0 j7 rg_75_7_0_1 (by omega) (by omega)
  refine x_ifz (k := 1) (tg := 9) (np := 7) (by decide +kernel) (by decide) l4 (fun q18 => ?_) (fun q19 => ?_)
  · have q18 : v3 ≠ 2147483648 := q18
    have b20 := c10 (by omega)
    have b21 := c11 (by omega)
    have b22 := c12 (by omega)
    have s23 := c14 (by omega)
    have p170 : ∀ (n : Nat) (h167 : xh), 4294967296 - h167 75 7 < n → h167 75 13 + h 75 7 ≤ h167 75 7 + h 75 13 → h 75 7 ≤ h167 75 7 → h 75 13 ≤ h167 75 13 → J h167 → Fr 89128961 h6 h167 → Kp h h167 (h 75 13 - 2147483648) → Seg (sg h167) (h 75 13 - 2147483648) (h167 75 13 - 2147483648) → X sc 189 (d + 6) (xI fun r h' => J h' ∧ Fr 89128961 h h' ∧ (2147483648 ≤ r ∧ r ≤ 2147483649) ∧ (r = 2147483649 → h' 75 13 + h 75 7 ≤ h' 75 7 + h 75 13) ∧ (r = 2147483649 → h 75 7 + 0 ≤ h' 75 7) ∧ (r = 2147483649 → h 75 13 ≤ h' 75 13) ∧ Kp h h' (h 75 13 - 2147483648) ∧ (r = 2147483649 → Seg (sg h') (h 75 13 - 2147483648) (h' 75 13 - 2147483648))) 0 0 9 [x_r 75] [] h167 := by
      intro n
      induction n with
      | zero => intro h167 q176; exact absurd q176 (Nat.not_lt_zero _)
      | succ n i177 =>
        intro h167 q176 b171 b172 b173 j169 f168 m174 m175
        have f178 := Fr.trans f15 f168 (by decide)
        refine x_aload (np := 10) (x := 0) (by decide +kernel) rfl (x_nc_le (by decide)) ?_
        refine x_const (np := 12) (x := 9223372223685853227) (a := 2147483691) (by decide +kernel) (by decide) (by decide) ?_
        refine x_cI (t := 6) (mj := 173) (n := 2) (rc := 12) (ml := 2) (nr := 0) (np := 15) (as := [x_r 75, iv_c 2147483691]) (rest := []) (lo1 := [x_r 75, iv_c 2147483691]) (by decide +kernel) (by decide) (by decide +kernel) (x_rb_of (by decide +kernel)) rfl rfl (x_wr (by decide) (x_wi (by decide) x_wn)) x_wn (by decide) rfl (c173_75 j169  (by omega)) (fun v179 h182 l180 q181 => ?_)
        obtain ⟨j183, f184, b185, c186, c187⟩ := q181
        have f188 := Fr.trans f178 f184 (by decide)
        have f189 := Fr.trans f168 f184 (by decide)
        have b190 := jB (e := 7) 0 j169 rg_75_7_0_1 (by omega) (by omega)
        have b191 := jB (e := 7) 0 j183 rg_75_7_0_1 (by omega) (by omega)
        refine x_ifz (k := 0) (tg := 37) (np := 18) (by decide +kernel) (by decide) l180 (fun q192 => ?_) (fun q193 => ?_)
        · have q192 : v179 = 2147483648 := q192
          refine x_const (np := 38) (x := 9223372043297226753) (a := 2147483649) (by decide +kernel) (by decide) (by decide) ?_
          have q194 : h182 75 13 = h167 75 13 := jK 0 f184 rg_75_13_0_1 (by omega) (by omega) (by decide)
          have b195 := jB (e := 13) 0 j169 rg_75_13_0_1 (by omega) (by omega)
          have q196 : h182 75 13 = h167 75 13 := jK 0 f184 rg_75_13_0_1 (by omega) (by omega) (by decide)
          have k198 : Kp h h167 (h 75 13 - 2147483648) := Kp.less m174 (by omega)
          have k197 : Kp h h182 (h 75 13 - 2147483648) := Kp.fr k198 f184 (by omega) (by decide)
          have q199 : h182 75 13 = h167 75 13 := jK 0 f184 rg_75_13_0_1 (by omega) (by omega) (by decide)
          have k200 : Kp h167 h182 (h167 75 13 - 2147483648) := Kp.fr Kp.refl f184 (by omega) (by decide)
          have s201 : Seg (sg h182) (h 75 13 - 2147483648) (h182 75 13 - 2147483648) := Seg.cast (Seg.kp m175 k200) (by omega) (by omega)
          refine x_retI (np := 39) (x := 0) (by decide +kernel) (by decide) (Or.inr ⟨by decide +kernel, by omega, by omega⟩) ⟨_, rfl, (by decide), ?_⟩
          exact ⟨j183, f188, (by omega), (fun z => by omega), (fun z => by omega), (fun z => by omega), k197, (fun _ => s201)⟩
        have q193 : ¬ (v179 = 2147483648) := q193
        have b202 := c187 (by omega)
        refine x_aload (np := 19) (x := 0) (by decide +kernel) rfl (x_nc_le (by decide)) ?_
        have q203 : h182 75 13 = h167 75 13 := jK 0 f184 rg_75_13_0_1 (by omega) (by omega) (by decide)
        have b204 := jB (e := 13) 0 j169 rg_75_13_0_1 (by omega) (by omega)
        refine x_cI (t := 6) (mj := 188) (n := 1) (rc := 12) (ml := 2) (nr := 0) (np := 22) (as := [x_r 75]) (rest := []) (lo1 := [x_r 75, 147573952589676412928]) (by decide +kernel) (by decide) (by decide +kernel) (x_rb_of (by decide +kernel)) rfl rfl (x_wr (by decide) x_wn) x_wn (by decide) rfl (c188_75 j183  (by omega)) (fun v205 h208 l206 q207 => ?_)
        obtain ⟨j209, f210, b211, c212, c213, c214, c215, c216⟩ := q207
        have f217 := Fr.trans f188 f210 (by decide)
        have f218 := Fr.trans f189 f210 (by decide)
        have q219 : h182 75 13 = h167 75 13 := jK 0 f184 rg_75_13_0_1 (by omega) (by omega) (by decide)
        have b220 := jB (e := 13) 0 j209 rg_75_13_0_1 (by omega) (by omega)
        have b221 := jB (e := 7) 0 j209 rg_75_7_0_1 (by omega) (by omega)
        have q222 : h182 75 13 = h167 75 13 := jK 0 f184 rg_75_13_0_1 (by omega) (by omega) (by decide)
        refine x_ifz (k := 1) (tg := 27) (np := 25) (by decide +kernel) (by decide) l206 (fun q223 => ?_) (fun q224 => ?_)
        · have q223 : v205 ≠ 2147483648 := q223
          have b225 := c212 (by omega)
          have b226 := c213 (by omega)
          have b227 := c214 (by omega)
          have s228 := c216 (by omega)
          have q229 : h182 75 13 = h167 75 13 := jK 0 f184 rg_75_13_0_1 (by omega) (by omega) (by decide)
          refine x_aload (np := 28) (x := 0) (by decide +kernel) rfl (x_nc_le (by decide)) ?_
          refine x_const (np := 30) (x := 9223372077656965129) (a := 2147483657) (by decide +kernel) (by decide) (by decide) ?_
          refine x_const (np := 31) (x := 9223372039002259456) (a := 2147483648) (by decide +kernel) (by decide) (by decide) ?_
          refine x_nV (t := 6) (mj := 187) (n := 3) (rc := 12) (ml := 3) (nr := 0) (np := 34) (as := [x_r 75, iv_c 2147483657, iv_c 2147483648]) (rest := []) (lo1 := [x_r 75, iv_c 2147483657, iv_c 2147483648]) (by decide +kernel) (by decide) (by decide +kernel) (x_rb_of (by decide +kernel)) rfl rfl (x_wr (by decide) (x_wi (by decide) (x_wi (by decide) x_wn))) x_wn (by decide) rfl ?_
          refine x_aload (np := 1) (x := 0) (by decide +kernel) rfl (x_nc_le (by decide)) ?_
          have q230 : h208 75 1 = 76 := by have z := jB (e := 1) 0 j209 rg_75_1_0_1 (by decide) (by decide); omega
          refine x_getR (np := 4) (x := 705) (f := 1) (q := 76) (by decide +kernel) (by decide) (by decide +kernel) q230 ?_
          refine x_const (np := 7) (x := 9223376986804585600) (a := 2147484800) (by decide +kernel) (by decide) (by decide) ?_
          refine x_const (np := 8) (x := 9223372047592194050) (a := 2147483650) (by decide +kernel) (by decide) (by decide) ?_
          refine x_aload (np := 9) (x := 0) (by decide +kernel) rfl (x_nc_le (by decide)) ?_
          refine x_getC (np := 12) (x := 717) (f := 13) (q := (h208 75 13)) (by decide +kernel) (by decide) (by decide +kernel) rfl (fun l231 => ?_)
          obtain ⟨u232, q233⟩ : ∃ z, (h208 75 13) = 2147483648 + z := ⟨(h208 75 13) - 2147483648, by omega⟩
          refine x_imul (np := 13) (x := 0) (i := 2) (j := u232) (v := (2147483648 + 2 * u232)) (by decide +kernel) (by omega) (by omega) (by omega) (by omega) (by decide) l231 ?_
          refine x_iadd (np := 14) (x := 0) (v := (2147484800 + 2 * u232)) (by decide +kernel) (by decide) (by omega) (by omega) (by omega) ?_
          refine x_iload (np := 15) (x := 1) (by decide +kernel) rfl (by decide) ?_
          refine x_ast (np := 16) (x := 0) (kd := 1) (n := 1952) (i := (1152 + 2 * u232)) (by decide +kernel) (Or.inl rfl) (by decide +kernel) (by omega) (by omega) (by decide) (by decide) (fun z => absurd z (by decide)) ?_
          have j236 := jU (e := (1152 + 2 * u232)) (v := 2147483657) u232 j209 rg_76_1152_2_395 (by omega) (by omega) (by omega)
          have f238 := jF (e := (1152 + 2 * u232)) (v := 2147483657) u232 f217 rg_76_1152_2_395 (by omega) (by omega) (by decide)
          have f239 := jF (e := (1152 + 2 * u232)) (v := 2147483657) u232 f218 rg_76_1152_2_395 (by omega) (by omega) (by decide)
          generalize e237 : x_up h208 76 (1152 + 2 * u232) 2147483657 = h235 at j236 f238 f239 ⊢
          refine x_aload (np := 17) (x := 0) (by decide +kernel) rfl (x_nc_le (by decide)) ?_
          have q240 : h235 75 1 = 76 := by have z := jB (e := 1) 0 j236 rg_75_1_0_1 (by decide) (by decide); omega
          refine x_getR (np := 20) (x := 705) (f := 1) (q := 76) (by decide +kernel) (by decide) (by decide +kernel) q240 ?_
          refine x_const (np := 23) (x := 9223376986804585600) (a := 2147484800) (by decide +kernel) (by decide) (by decide) ?_
          refine x_const (np := 24) (x := 9223372047592194050) (a := 2147483650) (by decide +kernel) (by decide) (by decide) ?_
          refine x_aload (np := 25) (x := 0) (by decide +kernel) rfl (x_nc_le (by decide)) ?_
          have q241 : h235 75 13 = h208 75 13 := by rw [← e237]; exact x_up_k (by decide)
          refine x_getC (np := 28) (x := 717) (f := 13) (q := (h208 75 13)) (by decide +kernel) (by decide) (by decide +kernel) q241 (fun l242 => ?_)
          refine x_imul (np := 29) (x := 0) (i := 2) (j := u232) (v := (2147483648 + 2 * u232)) (by decide +kernel) (by omega) (by omega) (by omega) (by omega) (by decide) l231 ?_
          refine x_iadd (np := 30) (x := 0) (v := (2147484800 + 2 * u232)) (by decide +kernel) (by decide) (by omega) (by omega) (by omega) ?_
          refine x_const (np := 31) (x := 9223372043297226753) (a := 2147483649) (by decide +kernel) (by decide) (by decide) ?_
          refine x_iadd (np := 32) (x := 0) (v := (2147484801 + 2 * u232)) (by decide +kernel) (by omega) (by decide) (by omega) (by omega) ?_
          refine x_iload (np := 33) (x := 2) (by decide +kernel) rfl (by decide) ?_
          refine x_ast (np := 34) (x := 0) (kd := 1) (n := 1952) (i := (1153 + 2 * u232)) (by decide +kernel) (Or.inl rfl) (by decide +kernel) (by omega) (by omega) (by decide) (by decide) (fun z => absurd z (by decide)) ?_
          have j245 := jU (e := (1153 + 2 * u232)) (v := 2147483648) u232 j236 rg_76_1153_2_395 (by omega) (by omega) (by omega)
          have f247 := jF (e := (1153 + 2 * u232)) (v := 2147483648) u232 f238 rg_76_1153_2_395 (by omega) (by omega) (by decide)
          have f248 := jF (e := (1153 + 2 * u232)) (v := 2147483648) u232 f239 rg_76_1153_2_395 (by omega) (by omega) (by decide)
          generalize e246 : x_up h235 76 (1153 + 2 * u232) 2147483648 = h244 at j245 f247 f248 ⊢
          refine x_aload (np := 35) (x := 0) (by decide +kernel) rfl (x_nc_le (by decide)) ?_
          refine x_dup (np := 36) (x := 0) (by decide +kernel) (by have z := x_nc_le (k := 75) (by decide); unfold x_r; omega) ?_
          have q249 : h244 75 13 = h235 75 13 := by rw [← e246]; exact x_up_k (by decide)
          have q250 : h235 75 13 = h208 75 13 := by rw [← e237]; exact x_up_k (by decide)
          refine x_getC (np := 39) (x := 717) (f := 13) (q := (h208 75 13)) (by decide +kernel) (by decide) (by decide +kernel) (q249.trans q250) (fun l251 => ?_)
          refine x_const (np := 40) (x := 9223372043297226753) (a := 2147483649) (by decide +kernel) (by decide) (by decide) ?_
          refine x_iadd (np := 41) (x := 0) (v := (1 + (h208 75 13))) (by decide +kernel) l231 (by decide) (by omega) (by omega) ?_
          refine x_putI (np := 44) (x := 717) (f := 13) (by decide +kernel) (by decide +kernel) (by omega) (Or.inl (by decide)) ?_
          have j253 := jU (e := 13) (v := (1 + (h208 75 13))) 0 j245 rg_75_13_0_1 (by omega) (by omega) (by omega)
          have f255 := jF (e := 13) (v := (1 + (h208 75 13))) 0 f247 rg_75_13_0_1 (by omega) (by omega) (by decide)
          have f256 := jF (e := 13) (v := (1 + (h208 75 13))) 0 f248 rg_75_13_0_1 (by omega) (by omega) (by decide)
          generalize e254 : x_up h244 75 13 (1 + (h208 75 13)) = h252 at j253 f255 f256 ⊢
          refine x_retV (np := 45) (x := 0) (by decide +kernel) (by decide +kernel) ⟨rfl, ?_⟩
          have q257 : h252 75 13 = (1 + (h208 75 13)) := by rw [← e254]; exact x_up_at
          refine x_goto (np := 37) (x := 9) (by decide +kernel) ?_
          have q258 : h252 75 7 = h244 75 7 := by rw [← e254]; exact x_up_i (by omega)
          have q259 : h244 75 7 = h235 75 7 := by rw [← e246]; exact x_up_k (by decide)
          have q260 : h235 75 7 = h208 75 7 := by rw [← e237]; exact x_up_k (by decide)
          have q261 : h252 75 7 = h244 75 7 := by rw [← e254]; exact x_up_i (by omega)
          have q262 : h244 75 7 = h235 75 7 := by rw [← e246]; exact x_up_k (by decide)
          have q263 : h235 75 7 = h208 75 7 := by rw [← e237]; exact x_up_k (by decide)
          have q264 : h252 75 13 = (1 + (h208 75 13)) := by rw [← e254]; exact x_up_at
          have b265 := jB (e := 10) 0 hJ rg_75_10_0_1 (by omega) (by omega)
          have q266 : h252 75 10 = h244 75 10 := by rw [← e254]; exact x_up_i (by omega)
          have q267 : h244 75 10 = h235 75 10 := by rw [← e246]; exact x_up_k (by decide)
          have q268 : h235 75 10 = h208 75 10 := by rw [← e237]; exact x_up_k (by decide)
          have q269 : h208 75 10 = h182 75 10 := jK 0 f210 rg_75_10_0_1 (by omega) (by omega) (by decide)
          have q270 : h182 75 10 = h167 75 10 := jK 0 f184 rg_75_10_0_1 (by omega) (by omega) (by decide)
          have q271 : h167 75 10 = h6 75 10 := jK 0 f168 rg_75_10_0_1 (by omega) (by omega) (by decide)
          have q272 : h6 75 10 = h 75 10 := jK 0 f8 rg_75_10_0_1 (by omega) (by omega) (by decide)
          have k278 : Kp h h167 (h 75 13 - 2147483648) := Kp.less m174 (by omega)
          have k277 : Kp h h182 (h 75 13 - 2147483648) := Kp.fr k278 f184 (by omega) (by decide)
          have q279 : h182 75 13 = h167 75 13 := jK 0 f184 rg_75_13_0_1 (by omega) (by omega) (by decide)
          have k276 : Kp h h208 (h 75 13 - 2147483648) := Kp.trans k277 c215 (by omega)
          have k275 : Kp h h235 (h 75 13 - 2147483648) := by rw [← e237]; exact Kp.up k276 (by omega) (fun i hi => by omega)
          have k274 : Kp h h244 (h 75 13 - 2147483648) := by rw [← e246]; exact Kp.up k275 (by omega) (fun i hi => by omega)
          have k273 : Kp h h252 (h 75 13 - 2147483648) := by rw [← e254]; exact Kp.oth k274 (by decide)
          have q280 : h252 75 13 = (1 + (h208 75 13)) := by rw [← e254]; exact x_up_at
          have q282 : h252 76 (1152 + 2 * u232) = h244 76 (1152 + 2 * u232) := by rw [← e254]; exact x_up_k (by decide)
          have q283 : h244 76 (1152 + 2 * u232) = h235 76 (1152 + 2 * u232) := by rw [← e246]; exact x_up_i (by omega)
          have q284 : h235 76 (1152 + 2 * u232) = 2147483657 := by rw [← e237]; exact x_up_at
          have k289 : Kp h167 h182 (h167 75 13 - 2147483648) := Kp.fr Kp.refl f184 (by omega) (by decide)
          have q290 : h182 75 13 = h167 75 13 := jK 0 f184 rg_75_13_0_1 (by omega) (by omega) (by decide)
          have k288 : Kp h167 h208 (h167 75 13 - 2147483648) := Kp.trans k289 c215 (by omega)
          have k287 : Kp h167 h235 (h167 75 13 - 2147483648) := by rw [← e237]; exact Kp.up k288 (by omega) (fun i hi => by omega)
          have k286 : Kp h167 h244 (h167 75 13 - 2147483648) := by rw [← e246]; exact Kp.up k287 (by omega) (fun i hi => by omega)
          have k285 : Kp h167 h252 (h167 75 13 - 2147483648) := by rw [← e254]; exact Kp.oth k286 (by decide)
          have k293 : Kp h208 h235 (h208 75 13 - 2147483648) := by rw [← e237]; exact Kp.up Kp.refl (by omega) (fun i hi => by omega)
          have k292 : Kp h208 h244 (h208 75 13 - 2147483648) := by rw [← e246]; exact Kp.up k293 (by omega) (fun i hi => by omega)
          have k291 : Kp h208 h252 (h208 75 13 - 2147483648) := by rw [← e254]; exact Kp.oth k292 (by decide)
          have s281 : Seg (sg h252) (h 75 13 - 2147483648) (u232 + 1) := Seg.bin (Seg.kp m175 k285) (Seg.cast (a' := (h167 75 13 - 2147483648)) (b' := u232) (Seg.kp s228 k291) (by omega) (by omega)) (show 2147483656 < h252 76 (1152 + 2 * u232) by omega) (show h252 76 (1152 + 2 * u232) ≠ 2147483660 by omega)
          have s294 : Seg (sg h252) (h 75 13 - 2147483648) (h252 75 13 - 2147483648) := Seg.cast (Seg.kp s281 Kp.refl) (by omega) (by omega)
          exact i177  h252 (by omega) (by omega) (by omega) (by omega) j253 f256 k273 s294
        have q224 : ¬ (v205 ≠ 2147483648) := q224
        refine x_const (np := 26) (x := 9223372039002259456) (a := 2147483648) (by decide +kernel) (by decide) (by decide) ?_
        have k297 : Kp h h167 (h 75 13 - 2147483648) := Kp.less m174 (by omega)
        have k296 : Kp h h182 (h 75 13 - 2147483648) := Kp.fr k297 f184 (by omega) (by decide)
        have q298 : h182 75 13 = h167 75 13 := jK 0 f184 rg_75_13_0_1 (by omega) (by omega) (by decide)
        have k295 : Kp h h208 (h 75 13 - 2147483648) := Kp.trans k296 c215 (by omega)
        refine x_retI (np := 27) (x := 0) (by decide +kernel) (by decide) (Or.inr ⟨by decide +kernel, by omega, by omega⟩) ⟨_, rfl, (by decide), ?_⟩
        exact ⟨j209, f217, (by omega), (fun z => by omega), (fun z => by omega), (fun z => by omega), k295, (fun z => absurd z (by omega))⟩
    have b299 := jB (e := 10) 0 hJ rg_75_10_0_1 (by omega) (by omega)
    have q300 : h6 75 10 = h 75 10 := jK 0 f8 rg_75_10_0_1 (by omega) (by omega) (by decide)
    have k301 : Kp h h6 (h 75 13 - 2147483648) := Kp.less c13 (by omega)
    have s302 : Seg (sg h6) (h 75 13 - 2147483648) (h6 75 13 - 2147483648) := Seg.cast (Seg.kp s23 Kp.refl) (by omega) (by omega)
    exact p170 _  h6 (Nat.lt_succ_self _) (by omega) (by omega) (by omega) j7 (Fr.refl _ _) k301 s302
  have q19 : ¬ (v3 ≠ 2147483648) := q19
  refine x_const (np := 8) (x := 9223372039002259456) (a := 2147483648) (by decide +kernel) (by decide) (by decide) ?_
  have k303 : Kp h h6 (h 75 13 - 2147483648) := Kp.less c13 (by omega)
  refine x_retI (np := 9) (x := 0) (by decide +kernel) (by decide) (Or.inr ⟨by decide +kernel, by omega, by omega⟩) ⟨_, rfl, (by decide), ?_⟩
  exact ⟨j7, f15, (by omega), (fun z => by omega), (fun z => by omega), (fun z => by omega), k303, (fun z => absurd z (by omega))⟩
set_option maxHeartbeats 0 in
/-- LentNamesModel.readAtom()Z -/
theorem c190_75_D6 {sc : Nat × Nat} {d  : Nat} {h : xh} (hJ : J h) (hr0 : (h 75 13) + 5 ≤ (h 75 7)) (hr1 : (h 75 10) = 2147483654) : X sc 190 (d + 7) (xI fun r h' => J h' ∧ Fr 89128961 h h' ∧ (2147483648 ≤ r ∧ r ≤ 2147483649) ∧ (r = 2147483649 → h' 75 13 + h 75 7 ≤ h' 75 7 + h 75 13) ∧ (r = 2147483649 → h' 75 10 = h 75 10) ∧ (r = 2147483649 → h 75 7 + 0 ≤ h' 75 7) ∧ (r = 2147483649 → h 75 13 ≤ h' 75 13) ∧ Kp h h' (h 75 13 - 2147483648) ∧ (r = 2147483649 → Seg (sg h') (h 75 13 - 2147483648) (h' 75 13 - 2147483648))) 0 0 0 [x_r 75, 147573952589676412928, 147573952589676412928] [] h := by
  have hF := Fr.refl 89128961 h
  have b1 := jB (e := 13) 0 hJ rg_75_13_0_1 (by omega) (by omega)
  have b2 := jB (e := 7) 0 hJ rg_75_7_0_1 (by omega) (by omega)
  have b3 := jB (e := 10) 0 hJ rg_75_10_0_1 (by omega) (by omega)
  refine x_aload (np := 1) (x := 0) (by decide +kernel) rfl (x_nc_le (by decide)) ?_
  refine x_const (np := 3) (x := 9223372210800951336) (a := 2147483688) (by decide +kernel) (by decide) (by decide) ?_
  refine x_cI (t := 6) (mj := 173) (n := 2) (rc := 12) (ml := 2) (nr := 0) (np := 6) (as := [x_r 75, iv_c 2147483688]) (rest := []) (lo1 := [x_r 75, iv_c 2147483688]) (by decide +kernel) (by decide) (by decide +kernel) (x_rb_of (by decide +kernel)) rfl rfl (x_wr (by decide) (x_wi (by decide) x_wn)) x_wn (by decide) rfl (c173_75 hJ  (by omega)) (fun v4 h7 l5 q6 => ?_)
  obtain ⟨j8, f9, b10, c11, c12⟩ := q6
  have f13 := Fr.trans hF f9 (by decide)
  have b14 := jB (e := 7) 0 j8 rg_75_7_0_1 (by omega) (by omega)
  refine x_ifz (k := 0) (tg := 56) (np := 9) (by decide +kernel) (by decide) l5 (fun q15 => ?_) (fun q16 => ?_)
  · have q15 : v4 = 2147483648 := q15
    refine x_aload (np := 57) (x := 0) (by decide +kernel) rfl (x_nc_le (by decide)) ?_
    refine x_ldcB (i := 24) (idx := 245) (tx := "not") (by rw [tb_y190]; exact List.mem_of_getElem? (i := 59) rfl) (by decide) (by rw [tb_b190]; decide +kernel) ?_
    refine x_cI (t := 6) (mj := 171) (n := 2) (rc := 12) (ml := 2) (nr := 0) (np := 62) (as := [x_r 75, x_b (24 + 1)]) (rest := []) (lo1 := [x_r 75, x_b (24 + 1)]) (by decide +kernel) (by decide) (by decide +kernel) (x_rb_of (by decide +kernel)) rfl rfl (x_wr (by decide) (x_wB (by decide) x_wn)) x_wn (by decide) rfl (c171_75_S0 j8  (by decide)) (fun v17 h20 l18 q19 => ?_)
    obtain ⟨j21, f22, b23, c24, c25⟩ := q19
    have f26 := Fr.trans f13 f22 (by decide)
    have b27 := jB (e := 7) 0 j21 rg_75_7_0_1 (by omega) (by omega)
    refine x_ifz (k := 0) (tg := 114) (np := 65) (by decide +kernel) (by decide) l18 (fun q28 => ?_) (fun q29 => ?_)
    · have q28 : v17 = 2147483648 := q28
      refine x_aload (np := 115) (x := 0) (by decide +kernel) rfl (x_nc_le (by decide)) ?_
      refine x_ldcB (i := 25) (idx := 250) (tx := "own") (by rw [tb_y190]; exact List.mem_of_getElem? (i := 60) rfl) (by decide) (by rw [tb_b190]; decide +kernel) ?_
      refine x_cI (t := 6) (mj := 171) (n := 2) (rc := 12) (ml := 2) (nr := 0) (np := 120) (as := [x_r 75, x_b (25 + 1)]) (rest := []) (lo1 := [x_r 75, x_b (25 + 1)]) (by decide +kernel) (by decide) (by decide +kernel) (x_rb_of (by decide +kernel)) rfl rfl (x_wr (by decide) (x_wB (by decide) x_wn)) x_wn (by decide) rfl (c171_75_S0 j21  (by decide)) (fun v30 h33 l31 q32 => ?_)
      obtain ⟨j34, f35, b36, c37, c38⟩ := q32
      have f39 := Fr.trans f26 f35 (by decide)
      have b40 := jB (e := 7) 0 j34 rg_75_7_0_1 (by omega) (by omega)
      refine x_istore (np := 121) (x := 1) (lo' := [x_r 75, iv_c v30, 147573952589676412928]) (by decide +kernel) l31 (Nat.le_of_ble_eq_true rfl) rfl ?_
      refine x_iload (np := 122) (x := 1) (by decide +kernel) rfl l31 ?_
      refine x_ifz (k := 1) (tg := 134) (np := 125) (by decide +kernel) (by decide) l31 (fun q41 => ?_) (fun q42 => ?_)
      · have q41 : v30 ≠ 2147483648 := q41
        have b43 := c38 (by omega)
        refine x_aload (np := 135) (x := 0) (by decide +kernel) rfl (x_nc_le (by decide)) ?_
        refine x_iload (np := 136) (x := 1) (by decide +kernel) rfl l31 ?_
        refine x_ifz (k := 0) (tg := 144) (np := 139) (by decide +kernel) (by decide) l31 (fun q44 => ?_) (fun q45 => ?_)
        · have q44 : v30 = 2147483648 := q44
          exfalso; omega
        have q45 : ¬ (v30 = 2147483648) := q45
        refine x_const (np := 141) (x := 9223372064772063238) (a := 2147483654) (by decide +kernel) (by decide) (by decide) ?_
        refine x_goto (np := 144) (x := 146) (by decide +kernel) ?_
        refine x_const (np := 147) (x := 9223372039002259456) (a := 2147483648) (by decide +kernel) (by decide) (by decide) ?_
        refine x_nV (t := 6) (mj := 187) (n := 3) (rc := 12) (ml := 3) (nr := 0) (np := 150) (as := [x_r 75, iv_c 2147483654, iv_c 2147483648]) (rest := []) (lo1 := [x_r 75, iv_c 2147483654, iv_c 2147483648]) (by decide +kernel) (by decide) (by decide +kernel) (x_rb_of (by decide +kernel)) rfl rfl (x_wr (by decide) (x_wi (by decide) (x_wi (by decide) x_wn))) x_wn (by decide) rfl ?_
        refine x_aload (np := 1) (x := 0) (by decide +kernel) rfl (x_nc_le (by decide)) ?_
        have q46 : h33 75 1 = 76 := by have z := jB (e := 1) 0 j34 rg_75_1_0_1 (by decide) (by decide); omega
        refine x_getR (np := 4) (x := 705) (f := 1) (q := 76) (by decide +kernel) (by decide) (by decide +kernel) q46 ?_
        refine x_const (np := 7) (x := 9223376986804585600) (a := 2147484800) (by decide +kernel) (by decide) (by decide) ?_
        refine x_const (np := 8) (x := 9223372047592194050) (a := 2147483650) (by decide +kernel) (by decide) (by decide) ?_
        refine x_aload (np := 9) (x := 0) (by decide +kernel) rfl (x_nc_le (by decide)) ?_
        have q47 : h33 75 13 = h20 75 13 := jK 0 f35 rg_75_13_0_1 (by omega) (by omega) (by decide)
        have q48 : h20 75 13 = h7 75 13 := jK 0 f22 rg_75_13_0_1 (by omega) (by omega) (by decide)
        have q49 : h7 75 13 = h 75 13 := jK 0 f9 rg_75_13_0_1 (by omega) (by omega) (by decide)
        refine x_getC (np := 12) (x := 717) (f := 13) (q := (h 75 13)) (by decide +kernel) (by decide) (by decide +kernel) ((q47.trans q48).trans q49) (fun l50 => ?_)
        obtain ⟨u51, q52⟩ : ∃ z, (h 75 13) = 2147483648 + z := ⟨(h 75 13) - 2147483648, by omega⟩
        refine x_imul (np := 13) (x := 0) (i := 2) (j := u51) (v := (2147483648 + 2 * u51)) (by decide +kernel) (by omega) (by omega) (by omega) (by omega) (by decide) l50 ?_
        refine x_iadd (np := 14) (x := 0) (v := (2147484800 + 2 * u51)) (by decide +kernel) (by decide) (by omega) (by omega) (by omega) ?_
        refine x_iload (np := 15) (x := 1) (by decide +kernel) rfl (by decide) ?_
        refine x_ast (np := 16) (x := 0) (kd := 1) (n := 1952) (i := (1152 + 2 * u51)) (by decide +kernel) (Or.inl rfl) (by decide +kernel) (by omega) (by omega) (by decide) (by decide) (fun z => absurd z (by decide)) ?_
        have j55 := jU (e := (1152 + 2 * u51)) (v := 2147483654) u51 j34 rg_76_1152_2_394 (by omega) (by omega) (by omega)
        have f57 := jF (e := (1152 + 2 * u51)) (v := 2147483654) u51 f39 rg_76_1152_2_394 (by omega) (by omega) (by decide)
        generalize e56 : x_up h33 76 (1152 + 2 * u51) 2147483654 = h54 at j55 f57 ⊢
        refine x_aload (np := 17) (x := 0) (by decide +kernel) rfl (x_nc_le (by decide)) ?_
        have q58 : h54 75 1 = 76 := by have z := jB (e := 1) 0 j55 rg_75_1_0_1 (by decide) (by decide); omega
        refine x_getR (np := 20) (x := 705) (f := 1) (q := 76) (by decide +kernel) (by decide) (by decide +kernel) q58 ?_
        refine x_const (np := 23) (x := 9223376986804585600) (a := 2147484800) (by decide +kernel) (by decide) (by decide) ?_
        refine x_const (np := 24) (x := 9223372047592194050) (a := 2147483650) (by decide +kernel) (by decide) (by decide) ?_
        refine x_aload (np := 25) (x := 0) (by decide +kernel) rfl (x_nc_le (by decide)) ?_
        have q59 : h54 75 13 = h33 75 13 := by rw [← e56]; exact x_up_k (by decide)
        have q60 : h33 75 13 = h20 75 13 := jK 0 f35 rg_75_13_0_1 (by omega) (by omega) (by decide)
        have q61 : h20 75 13 = h7 75 13 := jK 0 f22 rg_75_13_0_1 (by omega) (by omega) (by decide)
        have q62 : h7 75 13 = h 75 13 := jK 0 f9 rg_75_13_0_1 (by omega) (by omega) (by decide)
        refine x_getC (np := 28) (x := 717) (f := 13) (q := (h 75 13)) (by decide +kernel) (by decide) (by decide +kernel) (((q59.trans q60).trans q61).trans q62) (fun l63 => ?_)
        refine x_imul (np := 29) (x := 0) (i := 2) (j := u51) (v := (2147483648 + 2 * u51)) (by decide +kernel) (by omega) (by omega) (by omega) (by omega) (by decide) l50 ?_
        refine x_iadd (np := 30) (x := 0) (v := (2147484800 + 2 * u51)) (by decide +kernel) (by decide) (by omega) (by omega) (by omega) ?_
        refine x_const (np := 31) (x := 9223372043297226753) (a := 2147483649) (by decide +kernel) (by decide) (by decide) ?_
        refine x_iadd (np := 32) (x := 0) (v := (2147484801 + 2 * u51)) (by decide +kernel) (by omega) (by decide) (by omega) (by omega) ?_
        refine x_iload (np := 33) (x := 2) (by decide +kernel) rfl (by decide) ?_
        refine x_ast (np := 34) (x := 0) (kd := 1) (n := 1952) (i := (1153 + 2 * u51)) (by decide +kernel) (Or.inl rfl) (by decide +kernel) (by omega) (by omega) (by decide) (by decide) (fun z => absurd z (by decide)) ?_
        have j66 := jU (e := (1153 + 2 * u51)) (v := 2147483648) u51 j55 rg_76_1153_2_394 (by omega) (by omega) (by omega)
        have f68 := jF (e := (1153 + 2 * u51)) (v := 2147483648) u51 f57 rg_76_1153_2_394 (by omega) (by omega) (by decide)
        generalize e67 : x_up h54 76 (1153 + 2 * u51) 2147483648 = h65 at j66 f68 ⊢
        refine x_aload (np := 35) (x := 0) (by decide +kernel) rfl (x_nc_le (by decide)) ?_
        refine x_dup (np := 36) (x := 0) (by decide +kernel) (by have z := x_nc_le (k := 75) (by decide); unfold x_r; omega) ?_
        have q69 : h65 75 13 = h54 75 13 := by rw [← e67]; exact x_up_k (by decide)
        have q70 : h54 75 13 = h33 75 13 := by rw [← e56]; exact x_up_k (by decide)
        have q71 : h33 75 13 = h20 75 13 := jK 0 f35 rg_75_13_0_1 (by omega) (by omega) (by decide)
        have q72 : h20 75 13 = h7 75 13 := jK 0 f22 rg_75_13_0_1 (by omega) (by omega) (by decide)
        have q73 : h7 75 13 = h 75 13 := jK 0 f9 rg_75_13_0_1 (by omega) (by omega) (by decide)
        refine x_getC (np := 39) (x := 717) (f := 13) (q := (h 75 13)) (by decide +kernel) (by decide) (by decide +kernel) ((((q69.trans q70).trans q71).trans q72).trans q73) (fun l74 => ?_)
        refine x_const (np := 40) (x := 9223372043297226753) (a := 2147483649) (by decide +kernel) (by decide) (by decide) ?_
        refine x_iadd (np := 41) (x := 0) (v := (1 + (h 75 13))) (by decide +kernel) l50 (by decide) (by omega) (by omega) ?_
        refine x_putI (np := 44) (x := 717) (f := 13) (by decide +kernel) (by decide +kernel) (by omega) (Or.inl (by decide)) ?_
        have j76 := jU (e := 13) (v := (1 + (h 75 13))) 0 j66 rg_75_13_0_1 (by omega) (by omega) (by omega)
        have f78 := jF (e := 13) (v := (1 + (h 75 13))) 0 f68 rg_75_13_0_1 (by omega) (by omega) (by decide)
        generalize e77 : x_up h65 75 13 (1 + (h 75 13)) = h75 at j76 f78 ⊢
        refine x_retV (np := 45) (x := 0) (by decide +kernel) (by decide +kernel) ⟨rfl, ?_⟩
        have q79 : h75 75 13 = (1 + (h 75 13)) := by rw [← e77]; exact x_up_at
        refine x_const (np := 151) (x := 9223372043297226753) (a := 2147483649) (by decide +kernel) (by decide) (by decide) ?_
        have q80 : h75 75 13 = (1 + (h 75 13)) := by rw [← e77]; exact x_up_at
        have q81 : h75 75 7 = h65 75 7 := by rw [← e77]; exact x_up_i (by omega)
        have q82 : h65 75 7 = h54 75 7 := by rw [← e67]; exact x_up_k (by decide)
        have q83 : h54 75 7 = h33 75 7 := by rw [← e56]; exact x_up_k (by decide)
        have q84 : h75 75 10 = h65 75 10 := by rw [← e77]; exact x_up_i (by omega)
        have q85 : h65 75 10 = h54 75 10 := by rw [← e67]; exact x_up_k (by decide)
        have q86 : h54 75 10 = h33 75 10 := by rw [← e56]; exact x_up_k (by decide)
        have q87 : h33 75 10 = h20 75 10 := jK 0 f35 rg_75_10_0_1 (by omega) (by omega) (by decide)
        have q88 : h20 75 10 = h7 75 10 := jK 0 f22 rg_75_10_0_1 (by omega) (by omega) (by decide)
        have q89 : h7 75 10 = h 75 10 := jK 0 f9 rg_75_10_0_1 (by omega) (by omega) (by decide)
        have q90 : h75 75 7 = h65 75 7 := by rw [← e77]; exact x_up_i (by omega)
        have q91 : h65 75 7 = h54 75 7 := by rw [← e67]; exact x_up_k (by decide)
        have q92 : h54 75 7 = h33 75 7 := by rw [← e56]; exact x_up_k (by decide)
        have q93 : h75 75 13 = (1 + (h 75 13)) := by rw [← e77]; exact x_up_at
        have k99 : Kp h h7 (h 75 13 - 2147483648) := Kp.fr Kp.refl f9 (by omega) (by decide)
        have k98 : Kp h h20 (h 75 13 - 2147483648) := Kp.fr k99 f22 (by omega) (by decide)
        have k97 : Kp h h33 (h 75 13 - 2147483648) := Kp.fr k98 f35 (by omega) (by decide)
        have k96 : Kp h h54 (h 75 13 - 2147483648) := by rw [← e56]; exact Kp.up k97 (by omega) (fun i hi => by omega)
        have k95 : Kp h h65 (h 75 13 - 2147483648) := by rw [← e67]; exact Kp.up k96 (by omega) (fun i hi => by omega)
        have k94 : Kp h h75 (h 75 13 - 2147483648) := by rw [← e77]; exact Kp.oth k95 (by decide)
        have q100 : h75 75 13 = (1 + (h 75 13)) := by rw [← e77]; exact x_up_at
        have q102 : h75 76 (1152 + 2 * u51) = h65 76 (1152 + 2 * u51) := by rw [← e77]; exact x_up_k (by decide)
        have q103 : h65 76 (1152 + 2 * u51) = h54 76 (1152 + 2 * u51) := by rw [← e67]; exact x_up_i (by omega)
        have q104 : h54 76 (1152 + 2 * u51) = 2147483654 := by rw [← e56]; exact x_up_at
        have s101 : Seg (sg h75) u51 (u51 + 1) := Seg.push (show 2147483648 ≤ h75 76 (1152 + 2 * u51) by omega) (show h75 76 (1152 + 2 * u51) ≤ 2147483656 by omega)
        have s105 : Seg (sg h75) (h 75 13 - 2147483648) (h75 75 13 - 2147483648) := Seg.cast (Seg.kp s101 Kp.refl) (by omega) (by omega)
        refine x_retI (np := 152) (x := 0) (by decide +kernel) (by decide) (Or.inr ⟨by decide +kernel, by omega, by omega⟩) ⟨_, rfl, (by decide), ?_⟩
        exact ⟨j76, f78, (by omega), (fun z => by omega), (fun z => by omega), (fun z => by omega), (fun z => by omega), k94, (fun _ => s105)⟩
      have q42 : ¬ (v30 ≠ 2147483648) := q42
      refine x_aload (np := 126) (x := 0) (by decide +kernel) rfl (x_nc_le (by decide)) ?_
      refine x_ldcB (i := 26) (idx := 252) (tx := "mine") (by rw [tb_y190]; exact List.mem_of_getElem? (i := 61) rfl) (by decide) (by rw [tb_b190]; decide +kernel) ?_
      refine x_cI (t := 6) (mj := 171) (n := 2) (rc := 12) (ml := 2) (nr := 0) (np := 131) (as := [x_r 75, x_b (26 + 1)]) (rest := []) (lo1 := [x_r 75, x_b (26 + 1)]) (by decide +kernel) (by decide) (by decide +kernel) (x_rb_of (by decide +kernel)) rfl rfl (x_wr (by decide) (x_wB (by decide) x_wn)) x_wn (by decide) rfl (c171_75_S0 j34  (by decide)) (fun v106 h109 l107 q108 => ?_)
      obtain ⟨j110, f111, b112, c113, c114⟩ := q108
      have f115 := Fr.trans f39 f111 (by decide)
      have b116 := jB (e := 7) 0 j110 rg_75_7_0_1 (by omega) (by omega)
      refine x_ifz (k := 0) (tg := 152) (np := 134) (by decide +kernel) (by decide) l107 (fun q117 => ?_) (fun q118 => ?_)
      · have q117 : v106 = 2147483648 := q117
        refine x_aload (np := 153) (x := 0) (by decide +kernel) rfl (x_nc_le (by decide)) ?_
        have q119 : h109 75 13 = h33 75 13 := jK 0 f111 rg_75_13_0_1 (by omega) (by omega) (by decide)
        have q120 : h33 75 13 = h20 75 13 := jK 0 f35 rg_75_13_0_1 (by omega) (by omega) (by decide)
        have q121 : h20 75 13 = h7 75 13 := jK 0 f22 rg_75_13_0_1 (by omega) (by omega) (by decide)
        have q122 : h7 75 13 = h 75 13 := jK 0 f9 rg_75_13_0_1 (by omega) (by omega) (by decide)
        refine x_cI (t := 6) (mj := 189) (n := 1) (rc := 12) (ml := 1) (nr := 0) (np := 156) (as := [x_r 75]) (rest := []) (lo1 := [x_r 75]) (by decide +kernel) (by decide) (by decide +kernel) (x_rb_of (by decide +kernel)) rfl rfl (x_wr (by decide) x_wn) x_wn (by decide) rfl (c189_75 j110  (by omega)) (fun v123 h126 l124 q125 => ?_)
        obtain ⟨j127, f128, b129, c130, c131, c132, c133, c134⟩ := q125
        have f135 := Fr.trans f115 f128 (by decide)
        have q136 : h109 75 13 = h33 75 13 := jK 0 f111 rg_75_13_0_1 (by omega) (by omega) (by decide)
        have q137 : h33 75 13 = h20 75 13 := jK 0 f35 rg_75_13_0_1 (by omega) (by omega) (by decide)
        have q138 : h20 75 13 = h7 75 13 := jK 0 f22 rg_75_13_0_1 (by omega) (by omega) (by decide)
        have q139 : h7 75 13 = h 75 13 := jK 0 f9 rg_75_13_0_1 (by omega) (by omega) (by decide)
        have b140 := jB (e := 13) 0 j127 rg_75_13_0_1 (by omega) (by omega)
        have b141 := jB (e := 7) 0 j127 rg_75_7_0_1 (by omega) (by omega)
        have q142 : h109 75 13 = h33 75 13 := jK 0 f111 rg_75_13_0_1 (by omega) (by omega) (by decide)
        have q143 : h33 75 13 = h20 75 13 := jK 0 f35 rg_75_13_0_1 (by omega) (by omega) (by decide)
        have q144 : h20 75 13 = h7 75 13 := jK 0 f22 rg_75_13_0_1 (by omega) (by omega) (by decide)
        have q145 : h7 75 13 = h 75 13 := jK 0 f9 rg_75_13_0_1 (by omega) (by omega) (by decide)
        refine x_ifz (k := 1) (tg := 161) (np := 159) (by decide +kernel) (by decide) l124 (fun q146 => ?_) (fun q147 => ?_)
        · have q146 : v123 ≠ 2147483648 := q146
          have b148 := c130 (by omega)
          have b149 := c131 (by omega)
          have b150 := c132 (by omega)
          have s151 := c134 (by omega)
          have q152 : h109 75 13 = h33 75 13 := jK 0 f111 rg_75_13_0_1 (by omega) (by omega) (by decide)
          have q153 : h33 75 13 = h20 75 13 := jK 0 f35 rg_75_13_0_1 (by omega) (by omega) (by decide)
          have q154 : h20 75 13 = h7 75 13 := jK 0 f22 rg_75_13_0_1 (by omega) (by omega) (by decide)
          have q155 : h7 75 13 = h 75 13 := jK 0 f9 rg_75_13_0_1 (by omega) (by omega) (by decide)
          refine x_aload (np := 162) (x := 0) (by decide +kernel) rfl (x_nc_le (by decide)) ?_
          refine x_const (np := 164) (x := 9223372296700297276) (a := 2147483708) (by decide +kernel) (by decide) (by decide) ?_
          refine x_cI (t := 6) (mj := 173) (n := 2) (rc := 12) (ml := 2) (nr := 0) (np := 167) (as := [x_r 75, iv_c 2147483708]) (rest := []) (lo1 := [x_r 75, iv_c 2147483708]) (by decide +kernel) (by decide) (by decide +kernel) (x_rb_of (by decide +kernel)) rfl rfl (x_wr (by decide) (x_wi (by decide) x_wn)) x_wn (by decide) rfl (c173_75 j127  (by omega)) (fun v156 h159 l157 q158 => ?_)
          obtain ⟨j160, f161, b162, c163, c164⟩ := q158
          have f165 := Fr.trans f135 f161 (by decide)
          have b166 := jB (e := 7) 0 j160 rg_75_7_0_1 (by omega) (by omega)
          refine x_istore (np := 168) (x := 2) (lo' := [x_r 75, iv_c v30, iv_c v156]) (by decide +kernel) l157 (Nat.le_of_ble_eq_true rfl) rfl ?_
          refine x_iload (np := 169) (x := 2) (by decide +kernel) rfl l157 ?_
          refine x_ifz (k := 1) (tg := 181) (np := 172) (by decide +kernel) (by decide) l157 (fun q167 => ?_) (fun q168 => ?_)
          · have q167 : v156 ≠ 2147483648 := q167
            have b169 := c164 (by omega)
            refine x_aload (np := 182) (x := 0) (by decide +kernel) rfl (x_nc_le (by decide)) ?_
            have q170 : h159 75 13 = h126 75 13 := jK 0 f161 rg_75_13_0_1 (by omega) (by omega) (by decide)
            refine x_cI (t := 6) (mj := 189) (n := 1) (rc := 12) (ml := 1) (nr := 0) (np := 185) (as := [x_r 75]) (rest := []) (lo1 := [x_r 75]) (by decide +kernel) (by decide) (by decide +kernel) (x_rb_of (by decide +kernel)) rfl rfl (x_wr (by decide) x_wn) x_wn (by decide) rfl (c189_75 j160  (by omega)) (fun v171 h174 l172 q173 => ?_)
            obtain ⟨j175, f176, b177, c178, c179, c180, c181, c182⟩ := q173
            have f183 := Fr.trans f165 f176 (by decide)
            have q184 : h159 75 13 = h126 75 13 := jK 0 f161 rg_75_13_0_1 (by omega) (by omega) (by decide)
            have b185 := jB (e := 13) 0 j175 rg_75_13_0_1 (by omega) (by omega)
            have b186 := jB (e := 7) 0 j175 rg_75_7_0_1 (by omega) (by omega)
            have q187 : h159 75 13 = h126 75 13 := jK 0 f161 rg_75_13_0_1 (by omega) (by omega) (by decide)
            refine x_ifz (k := 1) (tg := 190) (np := 188) (by decide +kernel) (by decide) l172 (fun q188 => ?_) (fun q189 => ?_)
            · have q188 : v171 ≠ 2147483648 := q188
              have b190 := c178 (by omega)
              have b191 := c179 (by omega)
              have b192 := c180 (by omega)
              have s193 := c182 (by omega)
              have q194 : h159 75 13 = h126 75 13 := jK 0 f161 rg_75_13_0_1 (by omega) (by omega) (by decide)
              refine x_aload (np := 191) (x := 0) (by decide +kernel) rfl (x_nc_le (by decide)) ?_
              refine x_iload (np := 192) (x := 2) (by decide +kernel) rfl l157 ?_
              refine x_ifz (k := 0) (tg := 200) (np := 195) (by decide +kernel) (by decide) l157 (fun q195 => ?_) (fun q196 => ?_)
              · have q195 : v156 = 2147483648 := q195
                exfalso; omega
              have q196 : ¬ (v156 = 2147483648) := q196
              refine x_const (np := 197) (x := 9223372081951932426) (a := 2147483658) (by decide +kernel) (by decide) (by decide) ?_
              refine x_goto (np := 200) (x := 202) (by decide +kernel) ?_
              refine x_const (np := 203) (x := 9223372039002259456) (a := 2147483648) (by decide +kernel) (by decide) (by decide) ?_
              refine x_nV (t := 6) (mj := 187) (n := 3) (rc := 12) (ml := 3) (nr := 0) (np := 206) (as := [x_r 75, iv_c 2147483658, iv_c 2147483648]) (rest := []) (lo1 := [x_r 75, iv_c 2147483658, iv_c 2147483648]) (by decide +kernel) (by decide) (by decide +kernel) (x_rb_of (by decide +kernel)) rfl rfl (x_wr (by decide) (x_wi (by decide) (x_wi (by decide) x_wn))) x_wn (by decide) rfl ?_
              refine x_aload (np := 1) (x := 0) (by decide +kernel) rfl (x_nc_le (by decide)) ?_
              have q197 : h174 75 1 = 76 := by have z := jB (e := 1) 0 j175 rg_75_1_0_1 (by decide) (by decide); omega
              refine x_getR (np := 4) (x := 705) (f := 1) (q := 76) (by decide +kernel) (by decide) (by decide +kernel) q197 ?_
              refine x_const (np := 7) (x := 9223376986804585600) (a := 2147484800) (by decide +kernel) (by decide) (by decide) ?_
              refine x_const (np := 8) (x := 9223372047592194050) (a := 2147483650) (by decide +kernel) (by decide) (by decide) ?_
              refine x_aload (np := 9) (x := 0) (by decide +kernel) rfl (x_nc_le (by decide)) ?_
              refine x_getC (np := 12) (x := 717) (f := 13) (q := (h174 75 13)) (by decide +kernel) (by decide) (by decide +kernel) rfl (fun l198 => ?_)
              obtain ⟨u199, q200⟩ : ∃ z, (h174 75 13) = 2147483648 + z := ⟨(h174 75 13) - 2147483648, by omega⟩
              refine x_imul (np := 13) (x := 0) (i := 2) (j := u199) (v := (2147483648 + 2 * u199)) (by decide +kernel) (by omega) (by omega) (by omega) (by omega) (by decide) l198 ?_
              refine x_iadd (np := 14) (x := 0) (v := (2147484800 + 2 * u199)) (by decide +kernel) (by decide) (by omega) (by omega) (by omega) ?_
              refine x_iload (np := 15) (x := 1) (by decide +kernel) rfl (by decide) ?_
              refine x_ast (np := 16) (x := 0) (kd := 1) (n := 1952) (i := (1152 + 2 * u199)) (by decide +kernel) (Or.inl rfl) (by decide +kernel) (by omega) (by omega) (by decide) (by decide) (fun z => absurd z (by decide)) ?_
              have j203 := jU (e := (1152 + 2 * u199)) (v := 2147483658) u199 j175 rg_76_1152_2_395 (by omega) (by omega) (by omega)
              have f205 := jF (e := (1152 + 2 * u199)) (v := 2147483658) u199 f183 rg_76_1152_2_395 (by omega) (by omega) (by decide)
              generalize e204 : x_up h174 76 (1152 + 2 * u199) 2147483658 = h202 at j203 f205 ⊢
              refine x_aload (np := 17) (x := 0) (by decide +kernel) rfl (x_nc_le (by decide)) ?_
              have q206 : h202 75 1 = 76 := by have z := jB (e := 1) 0 j203 rg_75_1_0_1 (by decide) (by decide); omega
              refine x_getR (np := 20) (x := 705) (f := 1) (q := 76) (by decide +kernel) (by decide) (by decide +kernel) q206 ?_
              refine x_const (np := 23) (x := 9223376986804585600) (a := 2147484800) (by decide +kernel) (by decide) (by decide) ?_
              refine x_const (np := 24) (x := 9223372047592194050) (a := 2147483650) (by decide +kernel) (by decide) (by decide) ?_
              refine x_aload (np := 25) (x := 0) (by decide +kernel) rfl (x_nc_le (by decide)) ?_
              have q207 : h202 75 13 = h174 75 13 := by rw [← e204]; exact x_up_k (by decide)
              refine x_getC (np := 28) (x := 717) (f := 13) (q := (h174 75 13)) (by decide +kernel) (by decide) (by decide +kernel) q207 (fun l208 => ?_)
              refine x_imul (np := 29) (x := 0) (i := 2) (j := u199) (v := (2147483648 + 2 * u199)) (by decide +kernel) (by omega) (by omega) (by omega) (by omega) (by decide) l198 ?_
              refine x_iadd (np := 30) (x := 0) (v := (2147484800 + 2 * u199)) (by decide +kernel) (by decide) (by omega) (by omega) (by omega) ?_
              refine x_const (np := 31) (x := 9223372043297226753) (a := 2147483649) (by decide +kernel) (by decide) (by decide) ?_
              refine x_iadd (np := 32) (x := 0) (v := (2147484801 + 2 * u199)) (by decide +kernel) (by omega) (by decide) (by omega) (by omega) ?_
              refine x_iload (np := 33) (x := 2) (by decide +kernel) rfl (by decide) ?_
              refine x_ast (np := 34) (x := 0) (kd := 1) (n := 1952) (i := (1153 + 2 * u199)) (by decide +kernel) (Or.inl rfl) (by decide +kernel) (by omega) (by omega) (by decide) (by decide) (fun z => absurd z (by decide)) ?_
              have j211 := jU (e := (1153 + 2 * u199)) (v := 2147483648) u199 j203 rg_76_1153_2_395 (by omega) (by omega) (by omega)
              have f213 := jF (e := (1153 + 2 * u199)) (v := 2147483648) u199 f205 rg_76_1153_2_395 (by omega) (by omega) (by decide)
              generalize e212 : x_up h202 76 (1153 + 2 * u199) 2147483648 = h210 at j211 f213 ⊢
              refine x_aload (np := 35) (x := 0) (by decide +kernel) rfl (x_nc_le (by decide)) ?_
              refine x_dup (np := 36) (x := 0) (by decide +kernel) (by have z := x_nc_le (k := 75) (by decide); unfold x_r; omega) ?_
              have q214 : h210 75 13 = h202 75 13 := by rw [← e212]; exact x_up_k (by decide)
              have q215 : h202 75 13 = h174 75 13 := by rw [← e204]; exact x_up_k (by decide)
              refine x_getC (np := 39) (x := 717) (f := 13) (q := (h174 75 13)) (by decide +kernel) (by decide) (by decide +kernel) (q214.trans q215) (fun l216 => ?_)
              refine x_const (np := 40) (x := 9223372043297226753) (a := 2147483649) (by decide +kernel) (by decide) (by decide) ?_
              refine x_iadd (np := 41) (x := 0) (v := (1 + (h174 75 13))) (by decide +kernel) l198 (by decide) (by omega) (by omega) ?_
              refine x_putI (np := 44) (x := 717) (f := 13) (by decide +kernel) (by decide +kernel) (by omega) (Or.inl (by decide)) ?_
              have j218 := jU (e := 13) (v := (1 + (h174 75 13))) 0 j211 rg_75_13_0_1 (by omega) (by omega) (by omega)
              have f220 := jF (e := 13) (v := (1 + (h174 75 13))) 0 f213 rg_75_13_0_1 (by omega) (by omega) (by decide)
              generalize e219 : x_up h210 75 13 (1 + (h174 75 13)) = h217 at j218 f220 ⊢
              refine x_retV (np := 45) (x := 0) (by decide +kernel) (by decide +kernel) ⟨rfl, ?_⟩
              have q221 : h217 75 13 = (1 + (h174 75 13)) := by rw [← e219]; exact x_up_at
              refine x_const (np := 207) (x := 9223372043297226753) (a := 2147483649) (by decide +kernel) (by decide) (by decide) ?_
              have q222 : h217 75 13 = (1 + (h174 75 13)) := by rw [← e219]; exact x_up_at
              have q223 : h217 75 7 = h210 75 7 := by rw [← e219]; exact x_up_i (by omega)
              have q224 : h210 75 7 = h202 75 7 := by rw [← e212]; exact x_up_k (by decide)
              have q225 : h202 75 7 = h174 75 7 := by rw [← e204]; exact x_up_k (by decide)
              have q226 : h217 75 10 = h210 75 10 := by rw [← e219]; exact x_up_i (by omega)
              have q227 : h210 75 10 = h202 75 10 := by rw [← e212]; exact x_up_k (by decide)
              have q228 : h202 75 10 = h174 75 10 := by rw [← e204]; exact x_up_k (by decide)
              have q229 : h174 75 10 = h159 75 10 := jK 0 f176 rg_75_10_0_1 (by omega) (by omega) (by decide)
              have q230 : h159 75 10 = h126 75 10 := jK 0 f161 rg_75_10_0_1 (by omega) (by omega) (by decide)
              have q231 : h126 75 10 = h109 75 10 := jK 0 f128 rg_75_10_0_1 (by omega) (by omega) (by decide)
              have q232 : h109 75 10 = h33 75 10 := jK 0 f111 rg_75_10_0_1 (by omega) (by omega) (by decide)
              have q233 : h33 75 10 = h20 75 10 := jK 0 f35 rg_75_10_0_1 (by omega) (by omega) (by decide)
              have q234 : h20 75 10 = h7 75 10 := jK 0 f22 rg_75_10_0_1 (by omega) (by omega) (by decide)
              have q235 : h7 75 10 = h 75 10 := jK 0 f9 rg_75_10_0_1 (by omega) (by omega) (by decide)
              have q236 : h217 75 7 = h210 75 7 := by rw [← e219]; exact x_up_i (by omega)
              have q237 : h210 75 7 = h202 75 7 := by rw [← e212]; exact x_up_k (by decide)
              have q238 : h202 75 7 = h174 75 7 := by rw [← e204]; exact x_up_k (by decide)
              have q239 : h217 75 13 = (1 + (h174 75 13)) := by rw [← e219]; exact x_up_at
              have k249 : Kp h h7 (h 75 13 - 2147483648) := Kp.fr Kp.refl f9 (by omega) (by decide)
              have k248 : Kp h h20 (h 75 13 - 2147483648) := Kp.fr k249 f22 (by omega) (by decide)
              have k247 : Kp h h33 (h 75 13 - 2147483648) := Kp.fr k248 f35 (by omega) (by decide)
              have k246 : Kp h h109 (h 75 13 - 2147483648) := Kp.fr k247 f111 (by omega) (by decide)
              have q250 : h109 75 13 = h33 75 13 := jK 0 f111 rg_75_13_0_1 (by omega) (by omega) (by decide)
              have q251 : h33 75 13 = h20 75 13 := jK 0 f35 rg_75_13_0_1 (by omega) (by omega) (by decide)
              have q252 : h20 75 13 = h7 75 13 := jK 0 f22 rg_75_13_0_1 (by omega) (by omega) (by decide)
              have q253 : h7 75 13 = h 75 13 := jK 0 f9 rg_75_13_0_1 (by omega) (by omega) (by decide)
              have k245 : Kp h h126 (h 75 13 - 2147483648) := Kp.trans k246 c133 (by omega)
              have k244 : Kp h h159 (h 75 13 - 2147483648) := Kp.fr k245 f161 (by omega) (by decide)
              have q254 : h159 75 13 = h126 75 13 := jK 0 f161 rg_75_13_0_1 (by omega) (by omega) (by decide)
              have k243 : Kp h h174 (h 75 13 - 2147483648) := Kp.trans k244 c181 (by omega)
              have k242 : Kp h h202 (h 75 13 - 2147483648) := by rw [← e204]; exact Kp.up k243 (by omega) (fun i hi => by omega)
              have k241 : Kp h h210 (h 75 13 - 2147483648) := by rw [← e212]; exact Kp.up k242 (by omega) (fun i hi => by omega)
              have k240 : Kp h h217 (h 75 13 - 2147483648) := by rw [← e219]; exact Kp.oth k241 (by decide)
              have q255 : h217 75 13 = (1 + (h174 75 13)) := by rw [← e219]; exact x_up_at
              have q257 : h217 76 (1152 + 2 * u199) = h210 76 (1152 + 2 * u199) := by rw [← e219]; exact x_up_k (by decide)
              have q258 : h210 76 (1152 + 2 * u199) = h202 76 (1152 + 2 * u199) := by rw [← e212]; exact x_up_i (by omega)
              have q259 : h202 76 (1152 + 2 * u199) = 2147483658 := by rw [← e204]; exact x_up_at
              have k264 : Kp h126 h159 (h126 75 13 - 2147483648) := Kp.fr Kp.refl f161 (by omega) (by decide)
              have q265 : h159 75 13 = h126 75 13 := jK 0 f161 rg_75_13_0_1 (by omega) (by omega) (by decide)
              have k263 : Kp h126 h174 (h126 75 13 - 2147483648) := Kp.trans k264 c181 (by omega)
              have k262 : Kp h126 h202 (h126 75 13 - 2147483648) := by rw [← e204]; exact Kp.up k263 (by omega) (fun i hi => by omega)
              have k261 : Kp h126 h210 (h126 75 13 - 2147483648) := by rw [← e212]; exact Kp.up k262 (by omega) (fun i hi => by omega)
              have k260 : Kp h126 h217 (h126 75 13 - 2147483648) := by rw [← e219]; exact Kp.oth k261 (by decide)
              have k268 : Kp h174 h202 (h174 75 13 - 2147483648) := by rw [← e204]; exact Kp.up Kp.refl (by omega) (fun i hi => by omega)
              have k267 : Kp h174 h210 (h174 75 13 - 2147483648) := by rw [← e212]; exact Kp.up k268 (by omega) (fun i hi => by omega)
              have k266 : Kp h174 h217 (h174 75 13 - 2147483648) := by rw [← e219]; exact Kp.oth k267 (by decide)
              have s256 : Seg (sg h217) (h109 75 13 - 2147483648) (u199 + 1) := Seg.bin (Seg.kp s151 k260) (Seg.cast (a' := (h126 75 13 - 2147483648)) (b' := u199) (Seg.kp s193 k266) (by omega) (by omega)) (show 2147483656 < h217 76 (1152 + 2 * u199) by omega) (show h217 76 (1152 + 2 * u199) ≠ 2147483660 by omega)
              have s269 : Seg (sg h217) (h 75 13 - 2147483648) (h217 75 13 - 2147483648) := Seg.cast (Seg.kp s256 Kp.refl) (by omega) (by omega)
              refine x_retI (np := 208) (x := 0) (by decide +kernel) (by decide) (Or.inr ⟨by decide +kernel, by omega, by omega⟩) ⟨_, rfl, (by decide), ?_⟩
              exact ⟨j218, f220, (by omega), (fun z => by omega), (fun z => by omega), (fun z => by omega), (fun z => by omega), k240, (fun _ => s269)⟩
            have q189 : ¬ (v171 ≠ 2147483648) := q189
            refine x_const (np := 189) (x := 9223372039002259456) (a := 2147483648) (by decide +kernel) (by decide) (by decide) ?_
            have q270 : h174 75 10 = h159 75 10 := jK 0 f176 rg_75_10_0_1 (by omega) (by omega) (by decide)
            have q271 : h159 75 10 = h126 75 10 := jK 0 f161 rg_75_10_0_1 (by omega) (by omega) (by decide)
            have q272 : h126 75 10 = h109 75 10 := jK 0 f128 rg_75_10_0_1 (by omega) (by omega) (by decide)
            have q273 : h109 75 10 = h33 75 10 := jK 0 f111 rg_75_10_0_1 (by omega) (by omega) (by decide)
            have q274 : h33 75 10 = h20 75 10 := jK 0 f35 rg_75_10_0_1 (by omega) (by omega) (by decide)
            have q275 : h20 75 10 = h7 75 10 := jK 0 f22 rg_75_10_0_1 (by omega) (by omega) (by decide)
            have q276 : h7 75 10 = h 75 10 := jK 0 f9 rg_75_10_0_1 (by omega) (by omega) (by decide)
            have k283 : Kp h h7 (h 75 13 - 2147483648) := Kp.fr Kp.refl f9 (by omega) (by decide)
            have k282 : Kp h h20 (h 75 13 - 2147483648) := Kp.fr k283 f22 (by omega) (by decide)
            have k281 : Kp h h33 (h 75 13 - 2147483648) := Kp.fr k282 f35 (by omega) (by decide)
            have k280 : Kp h h109 (h 75 13 - 2147483648) := Kp.fr k281 f111 (by omega) (by decide)
            have q284 : h109 75 13 = h33 75 13 := jK 0 f111 rg_75_13_0_1 (by omega) (by omega) (by decide)
            have q285 : h33 75 13 = h20 75 13 := jK 0 f35 rg_75_13_0_1 (by omega) (by omega) (by decide)
            have q286 : h20 75 13 = h7 75 13 := jK 0 f22 rg_75_13_0_1 (by omega) (by omega) (by decide)
            have q287 : h7 75 13 = h 75 13 := jK 0 f9 rg_75_13_0_1 (by omega) (by omega) (by decide)
            have k279 : Kp h h126 (h 75 13 - 2147483648) := Kp.trans k280 c133 (by omega)
            have k278 : Kp h h159 (h 75 13 - 2147483648) := Kp.fr k279 f161 (by omega) (by decide)
            have q288 : h159 75 13 = h126 75 13 := jK 0 f161 rg_75_13_0_1 (by omega) (by omega) (by decide)
            have k277 : Kp h h174 (h 75 13 - 2147483648) := Kp.trans k278 c181 (by omega)
            refine x_retI (np := 190) (x := 0) (by decide +kernel) (by decide) (Or.inr ⟨by decide +kernel, by omega, by omega⟩) ⟨_, rfl, (by decide), ?_⟩
            exact ⟨j175, f183, (by omega), (fun z => by omega), (fun z => by omega), (fun z => by omega), (fun z => by omega), k277, (fun z => absurd z (by omega))⟩
          have q168 : ¬ (v156 ≠ 2147483648) := q168
          refine x_aload (np := 173) (x := 0) (by decide +kernel) rfl (x_nc_le (by decide)) ?_
          refine x_const (np := 175) (x := 9223372305290231870) (a := 2147483710) (by decide +kernel) (by decide) (by decide) ?_
          refine x_cI (t := 6) (mj := 173) (n := 2) (rc := 12) (ml := 2) (nr := 0) (np := 178) (as := [x_r 75, iv_c 2147483710]) (rest := []) (lo1 := [x_r 75, iv_c 2147483710]) (by decide +kernel) (by decide) (by decide +kernel) (x_rb_of (by decide +kernel)) rfl rfl (x_wr (by decide) (x_wi (by decide) x_wn)) x_wn (by decide) rfl (c173_75 j160  (by omega)) (fun v289 h292 l290 q291 => ?_)
          obtain ⟨j293, f294, b295, c296, c297⟩ := q291
          have f298 := Fr.trans f165 f294 (by decide)
          have b299 := jB (e := 7) 0 j293 rg_75_7_0_1 (by omega) (by omega)
          refine x_ifz (k := 0) (tg := 188) (np := 181) (by decide +kernel) (by decide) l290 (fun q300 => ?_) (fun q301 => ?_)
          · have q300 : v289 = 2147483648 := q300
            refine x_const (np := 189) (x := 9223372039002259456) (a := 2147483648) (by decide +kernel) (by decide) (by decide) ?_
            have q302 : h292 75 13 = h159 75 13 := jK 0 f294 rg_75_13_0_1 (by omega) (by omega) (by decide)
            have q303 : h159 75 13 = h126 75 13 := jK 0 f161 rg_75_13_0_1 (by omega) (by omega) (by decide)
            have q304 : h292 75 10 = h159 75 10 := jK 0 f294 rg_75_10_0_1 (by omega) (by omega) (by decide)
            have q305 : h159 75 10 = h126 75 10 := jK 0 f161 rg_75_10_0_1 (by omega) (by omega) (by decide)
            have q306 : h126 75 10 = h109 75 10 := jK 0 f128 rg_75_10_0_1 (by omega) (by omega) (by decide)
            have q307 : h109 75 10 = h33 75 10 := jK 0 f111 rg_75_10_0_1 (by omega) (by omega) (by decide)
            have q308 : h33 75 10 = h20 75 10 := jK 0 f35 rg_75_10_0_1 (by omega) (by omega) (by decide)
            have q309 : h20 75 10 = h7 75 10 := jK 0 f22 rg_75_10_0_1 (by omega) (by omega) (by decide)
            have q310 : h7 75 10 = h 75 10 := jK 0 f9 rg_75_10_0_1 (by omega) (by omega) (by decide)
            have q311 : h292 75 13 = h159 75 13 := jK 0 f294 rg_75_13_0_1 (by omega) (by omega) (by decide)
            have q312 : h159 75 13 = h126 75 13 := jK 0 f161 rg_75_13_0_1 (by omega) (by omega) (by decide)
            have k319 : Kp h h7 (h 75 13 - 2147483648) := Kp.fr Kp.refl f9 (by omega) (by decide)
            have k318 : Kp h h20 (h 75 13 - 2147483648) := Kp.fr k319 f22 (by omega) (by decide)
            have k317 : Kp h h33 (h 75 13 - 2147483648) := Kp.fr k318 f35 (by omega) (by decide)
            have k316 : Kp h h109 (h 75 13 - 2147483648) := Kp.fr k317 f111 (by omega) (by decide)
            have q320 : h109 75 13 = h33 75 13 := jK 0 f111 rg_75_13_0_1 (by omega) (by omega) (by decide)
            have q321 : h33 75 13 = h20 75 13 := jK 0 f35 rg_75_13_0_1 (by omega) (by omega) (by decide)
            have q322 : h20 75 13 = h7 75 13 := jK 0 f22 rg_75_13_0_1 (by omega) (by omega) (by decide)
            have q323 : h7 75 13 = h 75 13 := jK 0 f9 rg_75_13_0_1 (by omega) (by omega) (by decide)
            have k315 : Kp h h126 (h 75 13 - 2147483648) := Kp.trans k316 c133 (by omega)
            have k314 : Kp h h159 (h 75 13 - 2147483648) := Kp.fr k315 f161 (by omega) (by decide)
            have k313 : Kp h h292 (h 75 13 - 2147483648) := Kp.fr k314 f294 (by omega) (by decide)
            refine x_retI (np := 190) (x := 0) (by decide +kernel) (by decide) (Or.inr ⟨by decide +kernel, by omega, by omega⟩) ⟨_, rfl, (by decide), ?_⟩
            exact ⟨j293, f298, (by omega), (fun z => by omega), (fun z => by omega), (fun z => by omega), (fun z => by omega), k313, (fun z => absurd z (by omega))⟩
          have q301 : ¬ (v289 = 2147483648) := q301
          have b324 := c297 (by omega)
          refine x_aload (np := 182) (x := 0) (by decide +kernel) rfl (x_nc_le (by decide)) ?_
          have q325 : h292 75 13 = h159 75 13 := jK 0 f294 rg_75_13_0_1 (by omega) (by omega) (by decide)
          have q326 : h159 75 13 = h126 75 13 := jK 0 f161 rg_75_13_0_1 (by omega) (by omega) (by decide)
          refine x_cI (t := 6) (mj := 189) (n := 1) (rc := 12) (ml := 1) (nr := 0) (np := 185) (as := [x_r 75]) (rest := []) (lo1 := [x_r 75]) (by decide +kernel) (by decide) (by decide +kernel) (x_rb_of (by decide +kernel)) rfl rfl (x_wr (by decide) x_wn) x_wn (by decide) rfl (c189_75 j293  (by omega)) (fun v327 h330 l328 q329 => ?_)
          obtain ⟨j331, f332, b333, c334, c335, c336, c337, c338⟩ := q329
          have f339 := Fr.trans f298 f332 (by decide)
          have q340 : h292 75 13 = h159 75 13 := jK 0 f294 rg_75_13_0_1 (by omega) (by omega) (by decide)
          have q341 : h159 75 13 = h126 75 13 := jK 0 f161 rg_75_13_0_1 (by omega) (by omega) (by decide)
          have b342 := jB (e := 13) 0 j331 rg_75_13_0_1 (by omega) (by omega)
          have b343 := jB (e := 7) 0 j331 rg_75_7_0_1 (by omega) (by omega)
          have q344 : h292 75 13 = h159 75 13 := jK 0 f294 rg_75_13_0_1 (by omega) (by omega) (by decide)
          have q345 : h159 75 13 = h126 75 13 := jK 0 f161 rg_75_13_0_1 (by omega) (by omega) (by decide)
          refine x_ifz (k := 1) (tg := 190) (np := 188) (by decide +kernel) (by decide) l328 (fun q346 => ?_) (fun q347 => ?_)
          · have q346 : v327 ≠ 2147483648 := q346
            have b348 := c334 (by omega)
            have b349 := c335 (by omega)
            have b350 := c336 (by omega)
            have s351 := c338 (by omega)
            have q352 : h292 75 13 = h159 75 13 := jK 0 f294 rg_75_13_0_1 (by omega) (by omega) (by decide)
            have q353 : h159 75 13 = h126 75 13 := jK 0 f161 rg_75_13_0_1 (by omega) (by omega) (by decide)
            refine x_aload (np := 191) (x := 0) (by decide +kernel) rfl (x_nc_le (by decide)) ?_
            refine x_iload (np := 192) (x := 2) (by decide +kernel) rfl l157 ?_
            refine x_ifz (k := 0) (tg := 200) (np := 195) (by decide +kernel) (by decide) l157 (fun q354 => ?_) (fun q355 => ?_)
            · have q354 : v156 = 2147483648 := q354
              refine x_const (np := 202) (x := 9223372086246899723) (a := 2147483659) (by decide +kernel) (by decide) (by decide) ?_
              refine x_const (np := 203) (x := 9223372039002259456) (a := 2147483648) (by decide +kernel) (by decide) (by decide) ?_
              refine x_nV (t := 6) (mj := 187) (n := 3) (rc := 12) (ml := 3) (nr := 0) (np := 206) (as := [x_r 75, iv_c 2147483659, iv_c 2147483648]) (rest := []) (lo1 := [x_r 75, iv_c 2147483659, iv_c 2147483648]) (by decide +kernel) (by decide) (by decide +kernel) (x_rb_of (by decide +kernel)) rfl rfl (x_wr (by decide) (x_wi (by decide) (x_wi (by decide) x_wn))) x_wn (by decide) rfl ?_
              refine x_aload (np := 1) (x := 0) (by decide +kernel) rfl (x_nc_le (by decide)) ?_
              have q356 : h330 75 1 = 76 := by have z := jB (e := 1) 0 j331 rg_75_1_0_1 (by decide) (by decide); omega
              refine x_getR (np := 4) (x := 705) (f := 1) (q := 76) (by decide +kernel) (by decide) (by decide +kernel) q356 ?_
              refine x_const (np := 7) (x := 9223376986804585600) (a := 2147484800) (by decide +kernel) (by decide) (by decide) ?_
              refine x_const (np := 8) (x := 9223372047592194050) (a := 2147483650) (by decide +kernel) (by decide) (by decide) ?_
              refine x_aload (np := 9) (x := 0) (by decide +kernel) rfl (x_nc_le (by decide)) ?_
              refine x_getC (np := 12) (x := 717) (f := 13) (q := (h330 75 13)) (by decide +kernel) (by decide) (by decide +kernel) rfl (fun l357 => ?_)
              obtain ⟨u358, q359⟩ : ∃ z, (h330 75 13) = 2147483648 + z := ⟨(h330 75 13) - 2147483648, by omega⟩
              refine x_imul (np := 13) (x := 0) (i := 2) (j := u358) (v := (2147483648 + 2 * u358)) (by decide +kernel) (by omega) (by omega) (by omega) (by omega) (by decide) l357 ?_
              refine x_iadd (np := 14) (x := 0) (v := (2147484800 + 2 * u358)) (by decide +kernel) (by decide) (by omega) (by omega) (by omega) ?_
              refine x_iload (np := 15) (x := 1) (by decide +kernel) rfl (by decide) ?_
              refine x_ast (np := 16) (x := 0) (kd := 1) (n := 1952) (i := (1152 + 2 * u358)) (by decide +kernel) (Or.inl rfl) (by decide +kernel) (by omega) (by omega) (by decide) (by decide) (fun z => absurd z (by decide)) ?_
              have j362 := jU (e := (1152 + 2 * u358)) (v := 2147483659) u358 j331 rg_76_1152_2_395 (by omega) (by omega) (by omega)
              have f364 := jF (e := (1152 + 2 * u358)) (v := 2147483659) u358 f339 rg_76_1152_2_395 (by omega) (by omega) (by decide)
              generalize e363 : x_up h330 76 (1152 + 2 * u358) 2147483659 = h361 at j362 f364 ⊢
              refine x_aload (np := 17) (x := 0) (by decide +kernel) rfl (x_nc_le (by decide)) ?_
              have q365 : h361 75 1 = 76 := by have z := jB (e := 1) 0 j362 rg_75_1_0_1 (by decide) (by decide); omega
              refine x_getR (np := 20) (x := 705) (f := 1) (q := 76) (by decide +kernel) (by decide) (by decide +kernel) q365 ?_
              refine x_const (np := 23) (x := 9223376986804585600) (a := 2147484800) (by decide +kernel) (by decide) (by decide) ?_
              refine x_const (np := 24) (x := 9223372047592194050) (a := 2147483650) (by decide +kernel) (by decide) (by decide) ?_
              refine x_aload (np := 25) (x := 0) (by decide +kernel) rfl (x_nc_le (by decide)) ?_
              have q366 : h361 75 13 = h330 75 13 := by rw [← e363]; exact x_up_k (by decide)
              refine x_getC (np := 28) (x := 717) (f := 13) (q := (h330 75 13)) (by decide +kernel) (by decide) (by decide +kernel) q366 (fun l367 => ?_)
              refine x_imul (np := 29) (x := 0) (i := 2) (j := u358) (v := (2147483648 + 2 * u358)) (by decide +kernel) (by omega) (by omega) (by omega) (by omega) (by decide) l357 ?_
              refine x_iadd (np := 30) (x := 0) (v := (2147484800 + 2 * u358)) (by decide +kernel) (by decide) (by omega) (by omega) (by omega) ?_
              refine x_const (np := 31) (x := 9223372043297226753) (a := 2147483649) (by decide +kernel) (by decide) (by decide) ?_
              refine x_iadd (np := 32) (x := 0) (v := (2147484801 + 2 * u358)) (by decide +kernel) (by omega) (by decide) (by omega) (by omega) ?_
              refine x_iload (np := 33) (x := 2) (by decide +kernel) rfl (by decide) ?_
              refine x_ast (np := 34) (x := 0) (kd := 1) (n := 1952) (i := (1153 + 2 * u358)) (by decide +kernel) (Or.inl rfl) (by decide +kernel) (by omega) (by omega) (by decide) (by decide) (fun z => absurd z (by decide)) ?_
              have j370 := jU (e := (1153 + 2 * u358)) (v := 2147483648) u358 j362 rg_76_1153_2_395 (by omega) (by omega) (by omega)
              have f372 := jF (e := (1153 + 2 * u358)) (v := 2147483648) u358 f364 rg_76_1153_2_395 (by omega) (by omega) (by decide)
              generalize e371 : x_up h361 76 (1153 + 2 * u358) 2147483648 = h369 at j370 f372 ⊢
              refine x_aload (np := 35) (x := 0) (by decide +kernel) rfl (x_nc_le (by decide)) ?_
              refine x_dup (np := 36) (x := 0) (by decide +kernel) (by have z := x_nc_le (k := 75) (by decide); unfold x_r; omega) ?_
              have q373 : h369 75 13 = h361 75 13 := by rw [← e371]; exact x_up_k (by decide)
              have q374 : h361 75 13 = h330 75 13 := by rw [← e363]; exact x_up_k (by decide)
              refine x_getC (np := 39) (x := 717) (f := 13) (q := (h330 75 13)) (by decide +kernel) (by decide) (by decide +kernel) (q373.trans q374) (fun l375 => ?_)
              refine x_const (np := 40) (x := 9223372043297226753) (a := 2147483649) (by decide +kernel) (by decide) (by decide) ?_
              refine x_iadd (np := 41) (x := 0) (v := (1 + (h330 75 13))) (by decide +kernel) l357 (by decide) (by omega) (by omega) ?_
              refine x_putI (np := 44) (x := 717) (f := 13) (by decide +kernel) (by decide +kernel) (by omega) (Or.inl (by decide)) ?_
              have j377 := jU (e := 13) (v := (1 + (h330 75 13))) 0 j370 rg_75_13_0_1 (by omega) (by omega) (by omega)
              have f379 := jF (e := 13) (v := (1 + (h330 75 13))) 0 f372 rg_75_13_0_1 (by omega) (by omega) (by decide)
              generalize e378 : x_up h369 75 13 (1 + (h330 75 13)) = h376 at j377 f379 ⊢
              refine x_retV (np := 45) (x := 0) (by decide +kernel) (by decide +kernel) ⟨rfl, ?_⟩
              have q380 : h376 75 13 = (1 + (h330 75 13)) := by rw [← e378]; exact x_up_at
              refine x_const (np := 207) (x := 9223372043297226753) (a := 2147483649) (by decide +kernel) (by decide) (by decide) ?_
              have q381 : h376 75 13 = (1 + (h330 75 13)) := by rw [← e378]; exact x_up_at
              have q382 : h376 75 7 = h369 75 7 := by rw [← e378]; exact x_up_i (by omega)
              have q383 : h369 75 7 = h361 75 7 := by rw [← e371]; exact x_up_k (by decide)
              have q384 : h361 75 7 = h330 75 7 := by rw [← e363]; exact x_up_k (by decide)
              have q385 : h376 75 10 = h369 75 10 := by rw [← e378]; exact x_up_i (by omega)
              have q386 : h369 75 10 = h361 75 10 := by rw [← e371]; exact x_up_k (by decide)
              have q387 : h361 75 10 = h330 75 10 := by rw [← e363]; exact x_up_k (by decide)
              have q388 : h330 75 10 = h292 75 10 := jK 0 f332 rg_75_10_0_1 (by omega) (by omega) (by decide)
              have q389 : h292 75 10 = h159 75 10 := jK 0 f294 rg_75_10_0_1 (by omega) (by omega) (by decide)
              have q390 : h159 75 10 = h126 75 10 := jK 0 f161 rg_75_10_0_1 (by omega) (by omega) (by decide)
              have q391 : h126 75 10 = h109 75 10 := jK 0 f128 rg_75_10_0_1 (by omega) (by omega) (by decide)
              have q392 : h109 75 10 = h33 75 10 := jK 0 f111 rg_75_10_0_1 (by omega) (by omega) (by decide)
              have q393 : h33 75 10 = h20 75 10 := jK 0 f35 rg_75_10_0_1 (by omega) (by omega) (by decide)
              have q394 : h20 75 10 = h7 75 10 := jK 0 f22 rg_75_10_0_1 (by omega) (by omega) (by decide)
              have q395 : h7 75 10 = h 75 10 := jK 0 f9 rg_75_10_0_1 (by omega) (by omega) (by decide)
              have q396 : h376 75 7 = h369 75 7 := by rw [← e378]; exact x_up_i (by omega)
              have q397 : h369 75 7 = h361 75 7 := by rw [← e371]; exact x_up_k (by decide)
              have q398 : h361 75 7 = h330 75 7 := by rw [← e363]; exact x_up_k (by decide)
              have q399 : h376 75 13 = (1 + (h330 75 13)) := by rw [← e378]; exact x_up_at
              have k410 : Kp h h7 (h 75 13 - 2147483648) := Kp.fr Kp.refl f9 (by omega) (by decide)
              have k409 : Kp h h20 (h 75 13 - 2147483648) := Kp.fr k410 f22 (by omega) (by decide)
              have k408 : Kp h h33 (h 75 13 - 2147483648) := Kp.fr k409 f35 (by omega) (by decide)
              have k407 : Kp h h109 (h 75 13 - 2147483648) := Kp.fr k408 f111 (by omega) (by decide)
              have q411 : h109 75 13 = h33 75 13 := jK 0 f111 rg_75_13_0_1 (by omega) (by omega) (by decide)
              have q412 : h33 75 13 = h20 75 13 := jK 0 f35 rg_75_13_0_1 (by omega) (by omega) (by decide)
              have q413 : h20 75 13 = h7 75 13 := jK 0 f22 rg_75_13_0_1 (by omega) (by omega) (by decide)
              have q414 : h7 75 13 = h 75 13 := jK 0 f9 rg_75_13_0_1 (by omega) (by omega) (by decide)
              have k406 : Kp h h126 (h 75 13 - 2147483648) := Kp.trans k407 c133 (by omega)
              have k405 : Kp h h159 (h 75 13 - 2147483648) := Kp.fr k406 f161 (by omega) (by decide)
              have k404 : Kp h h292 (h 75 13 - 2147483648) := Kp.fr k405 f294 (by omega) (by decide)
              have q415 : h292 75 13 = h159 75 13 := jK 0 f294 rg_75_13_0_1 (by omega) (by omega) (by decide)
              have q416 : h159 75 13 = h126 75 13 := jK 0 f161 rg_75_13_0_1 (by omega) (by omega) (by decide)
              have k403 : Kp h h330 (h 75 13 - 2147483648) := Kp.trans k404 c337 (by omega)
              have k402 : Kp h h361 (h 75 13 - 2147483648) := by rw [← e363]; exact Kp.up k403 (by omega) (fun i hi => by omega)
              have k401 : Kp h h369 (h 75 13 - 2147483648) := by rw [← e371]; exact Kp.up k402 (by omega) (fun i hi => by omega)
              have k400 : Kp h h376 (h 75 13 - 2147483648) := by rw [← e378]; exact Kp.oth k401 (by decide)
              have q417 : h376 75 13 = (1 + (h330 75 13)) := by rw [← e378]; exact x_up_at
              have q419 : h376 76 (1152 + 2 * u358) = h369 76 (1152 + 2 * u358) := by rw [← e378]; exact x_up_k (by decide)
              have q420 : h369 76 (1152 + 2 * u358) = h361 76 (1152 + 2 * u358) := by rw [← e371]; exact x_up_i (by omega)
              have q421 : h361 76 (1152 + 2 * u358) = 2147483659 := by rw [← e363]; exact x_up_at
              have k427 : Kp h126 h159 (h126 75 13 - 2147483648) := Kp.fr Kp.refl f161 (by omega) (by decide)
              have k426 : Kp h126 h292 (h126 75 13 - 2147483648) := Kp.fr k427 f294 (by omega) (by decide)
              have q428 : h292 75 13 = h159 75 13 := jK 0 f294 rg_75_13_0_1 (by omega) (by omega) (by decide)
              have q429 : h159 75 13 = h126 75 13 := jK 0 f161 rg_75_13_0_1 (by omega) (by omega) (by decide)
              have k425 : Kp h126 h330 (h126 75 13 - 2147483648) := Kp.trans k426 c337 (by omega)
              have k424 : Kp h126 h361 (h126 75 13 - 2147483648) := by rw [← e363]; exact Kp.up k425 (by omega) (fun i hi => by omega)
              have k423 : Kp h126 h369 (h126 75 13 - 2147483648) := by rw [← e371]; exact Kp.up k424 (by omega) (fun i hi => by omega)
              have k422 : Kp h126 h376 (h126 75 13 - 2147483648) := by rw [← e378]; exact Kp.oth k423 (by decide)
              have k432 : Kp h330 h361 (h330 75 13 - 2147483648) := by rw [← e363]; exact Kp.up Kp.refl (by omega) (fun i hi => by omega)
              have k431 : Kp h330 h369 (h330 75 13 - 2147483648) := by rw [← e371]; exact Kp.up k432 (by omega) (fun i hi => by omega)
              have k430 : Kp h330 h376 (h330 75 13 - 2147483648) := by rw [← e378]; exact Kp.oth k431 (by decide)
              have s418 : Seg (sg h376) (h109 75 13 - 2147483648) (u358 + 1) := Seg.bin (Seg.kp s151 k422) (Seg.cast (a' := (h126 75 13 - 2147483648)) (b' := u358) (Seg.kp s351 k430) (by omega) (by omega)) (show 2147483656 < h376 76 (1152 + 2 * u358) by omega) (show h376 76 (1152 + 2 * u358) ≠ 2147483660 by omega)
              have s433 : Seg (sg h376) (h 75 13 - 2147483648) (h376 75 13 - 2147483648) := Seg.cast (Seg.kp s418 Kp.refl) (by omega) (by omega)
              refine x_retI (np := 208) (x := 0) (by decide +kernel) (by decide) (Or.inr ⟨by decide +kernel, by omega, by omega⟩) ⟨_, rfl, (by decide), ?_⟩
              exact ⟨j377, f379, (by omega), (fun z => by omega), (fun z => by omega), (fun z => by omega), (fun z => by omega), k400, (fun _ => s433)⟩
            have q355 : ¬ (v156 = 2147483648) := q355
            exfalso; omega
          have q347 : ¬ (v327 ≠ 2147483648) := q347
          refine x_const (np := 189) (x := 9223372039002259456) (a := 2147483648) (by decide +kernel) (by decide) (by decide) ?_
          have q434 : h330 75 10 = h292 75 10 := jK 0 f332 rg_75_10_0_1 (by omega) (by omega) (by decide)
          have q435 : h292 75 10 = h159 75 10 := jK 0 f294 rg_75_10_0_1 (by omega) (by omega) (by decide)
          have q436 : h159 75 10 = h126 75 10 := jK 0 f161 rg_75_10_0_1 (by omega) (by omega) (by decide)
          have q437 : h126 75 10 = h109 75 10 := jK 0 f128 rg_75_10_0_1 (by omega) (by omega) (by decide)
          have q438 : h109 75 10 = h33 75 10 := jK 0 f111 rg_75_10_0_1 (by omega) (by omega) (by decide)
          have q439 : h33 75 10 = h20 75 10 := jK 0 f35 rg_75_10_0_1 (by omega) (by omega) (by decide)
          have q440 : h20 75 10 = h7 75 10 := jK 0 f22 rg_75_10_0_1 (by omega) (by omega) (by decide)
          have q441 : h7 75 10 = h 75 10 := jK 0 f9 rg_75_10_0_1 (by omega) (by omega) (by decide)
          have k449 : Kp h h7 (h 75 13 - 2147483648) := Kp.fr Kp.refl f9 (by omega) (by decide)
          have k448 : Kp h h20 (h 75 13 - 2147483648) := Kp.fr k449 f22 (by omega) (by decide)
          have k447 : Kp h h33 (h 75 13 - 2147483648) := Kp.fr k448 f35 (by omega) (by decide)
          have k446 : Kp h h109 (h 75 13 - 2147483648) := Kp.fr k447 f111 (by omega) (by decide)
          have q450 : h109 75 13 = h33 75 13 := jK 0 f111 rg_75_13_0_1 (by omega) (by omega) (by decide)
          have q451 : h33 75 13 = h20 75 13 := jK 0 f35 rg_75_13_0_1 (by omega) (by omega) (by decide)
          have q452 : h20 75 13 = h7 75 13 := jK 0 f22 rg_75_13_0_1 (by omega) (by omega) (by decide)
          have q453 : h7 75 13 = h 75 13 := jK 0 f9 rg_75_13_0_1 (by omega) (by omega) (by decide)
          have k445 : Kp h h126 (h 75 13 - 2147483648) := Kp.trans k446 c133 (by omega)
          have k444 : Kp h h159 (h 75 13 - 2147483648) := Kp.fr k445 f161 (by omega) (by decide)
          have k443 : Kp h h292 (h 75 13 - 2147483648) := Kp.fr k444 f294 (by omega) (by decide)
          have q454 : h292 75 13 = h159 75 13 := jK 0 f294 rg_75_13_0_1 (by omega) (by omega) (by decide)
          have q455 : h159 75 13 = h126 75 13 := jK 0 f161 rg_75_13_0_1 (by omega) (by omega) (by decide)
          have k442 : Kp h h330 (h 75 13 - 2147483648) := Kp.trans k443 c337 (by omega)
          refine x_retI (np := 190) (x := 0) (by decide +kernel) (by decide) (Or.inr ⟨by decide +kernel, by omega, by omega⟩) ⟨_, rfl, (by decide), ?_⟩
          exact ⟨j331, f339, (by omega), (fun z => by omega), (fun z => by omega), (fun z => by omega), (fun z => by omega), k442, (fun z => absurd z (by omega))⟩
        have q147 : ¬ (v123 ≠ 2147483648) := q147
        refine x_const (np := 160) (x := 9223372039002259456) (a := 2147483648) (by decide +kernel) (by decide) (by decide) ?_
        have q456 : h126 75 10 = h109 75 10 := jK 0 f128 rg_75_10_0_1 (by omega) (by omega) (by decide)
        have q457 : h109 75 10 = h33 75 10 := jK 0 f111 rg_75_10_0_1 (by omega) (by omega) (by decide)
        have q458 : h33 75 10 = h20 75 10 := jK 0 f35 rg_75_10_0_1 (by omega) (by omega) (by decide)
        have q459 : h20 75 10 = h7 75 10 := jK 0 f22 rg_75_10_0_1 (by omega) (by omega) (by decide)
        have q460 : h7 75 10 = h 75 10 := jK 0 f9 rg_75_10_0_1 (by omega) (by omega) (by decide)
        have k465 : Kp h h7 (h 75 13 - 2147483648) := Kp.fr Kp.refl f9 (by omega) (by decide)
        have k464 : Kp h h20 (h 75 13 - 2147483648) := Kp.fr k465 f22 (by omega) (by decide)
        have k463 : Kp h h33 (h 75 13 - 2147483648) := Kp.fr k464 f35 (by omega) (by decide)
        have k462 : Kp h h109 (h 75 13 - 2147483648) := Kp.fr k463 f111 (by omega) (by decide)
        have q466 : h109 75 13 = h33 75 13 := jK 0 f111 rg_75_13_0_1 (by omega) (by omega) (by decide)
        have q467 : h33 75 13 = h20 75 13 := jK 0 f35 rg_75_13_0_1 (by omega) (by omega) (by decide)
        have q468 : h20 75 13 = h7 75 13 := jK 0 f22 rg_75_13_0_1 (by omega) (by omega) (by decide)
        have q469 : h7 75 13 = h 75 13 := jK 0 f9 rg_75_13_0_1 (by omega) (by omega) (by decide)
        have k461 : Kp h h126 (h 75 13 - 2147483648) := Kp.trans k462 c133 (by omega)
        refine x_retI (np := 161) (x := 0) (by decide +kernel) (by decide) (Or.inr ⟨by decide +kernel, by omega, by omega⟩) ⟨_, rfl, (by decide), ?_⟩
        exact ⟨j127, f135, (by omega), (fun z => by omega), (fun z => by omega), (fun z => by omega), (fun z => by omega), k461, (fun z => absurd z (by omega))⟩
      have q118 : ¬ (v106 = 2147483648) := q118
      have b470 := c114 (by omega)
      refine x_aload (np := 135) (x := 0) (by decide +kernel) rfl (x_nc_le (by decide)) ?_
      refine x_iload (np := 136) (x := 1) (by decide +kernel) rfl l31 ?_
      refine x_ifz (k := 0) (tg := 144) (np := 139) (by decide +kernel) (by decide) l31 (fun q471 => ?_) (fun q472 => ?_)
      · have q471 : v30 = 2147483648 := q471
        refine x_const (np := 146) (x := 9223372069067030535) (a := 2147483655) (by decide +kernel) (by decide) (by decide) ?_
        refine x_const (np := 147) (x := 9223372039002259456) (a := 2147483648) (by decide +kernel) (by decide) (by decide) ?_
        refine x_nV (t := 6) (mj := 187) (n := 3) (rc := 12) (ml := 3) (nr := 0) (np := 150) (as := [x_r 75, iv_c 2147483655, iv_c 2147483648]) (rest := []) (lo1 := [x_r 75, iv_c 2147483655, iv_c 2147483648]) (by decide +kernel) (by decide) (by decide +kernel) (x_rb_of (by decide +kernel)) rfl rfl (x_wr (by decide) (x_wi (by decide) (x_wi (by decide) x_wn))) x_wn (by decide) rfl ?_
        refine x_aload (np := 1) (x := 0) (by decide +kernel) rfl (x_nc_le (by decide)) ?_
        have q473 : h109 75 1 = 76 := by have z := jB (e := 1) 0 j110 rg_75_1_0_1 (by decide) (by decide); omega
        refine x_getR (np := 4) (x := 705) (f := 1) (q := 76) (by decide +kernel) (by decide) (by decide +kernel) q473 ?_
        refine x_const (np := 7) (x := 9223376986804585600) (a := 2147484800) (by decide +kernel) (by decide) (by decide) ?_
        refine x_const (np := 8) (x := 9223372047592194050) (a := 2147483650) (by decide +kernel) (by decide) (by decide) ?_
        refine x_aload (np := 9) (x := 0) (by decide +kernel) rfl (x_nc_le (by decide)) ?_
        have q474 : h109 75 13 = h33 75 13 := jK 0 f111 rg_75_13_0_1 (by omega) (by omega) (by decide)
        have q475 : h33 75 13 = h20 75 13 := jK 0 f35 rg_75_13_0_1 (by omega) (by omega) (by decide)
        have q476 : h20 75 13 = h7 75 13 := jK 0 f22 rg_75_13_0_1 (by omega) (by omega) (by decide)
        have q477 : h7 75 13 = h 75 13 := jK 0 f9 rg_75_13_0_1 (by omega) (by omega) (by decide)
        refine x_getC (np := 12) (x := 717) (f := 13) (q := (h 75 13)) (by decide +kernel) (by decide) (by decide +kernel) (((q474.trans q475).trans q476).trans q477) (fun l478 => ?_)
        obtain ⟨u479, q480⟩ : ∃ z, (h 75 13) = 2147483648 + z := ⟨(h 75 13) - 2147483648, by omega⟩
        refine x_imul (np := 13) (x := 0) (i := 2) (j := u479) (v := (2147483648 + 2 * u479)) (by decide +kernel) (by omega) (by omega) (by omega) (by omega) (by decide) l478 ?_
        refine x_iadd (np := 14) (x := 0) (v := (2147484800 + 2 * u479)) (by decide +kernel) (by decide) (by omega) (by omega) (by omega) ?_
        refine x_iload (np := 15) (x := 1) (by decide +kernel) rfl (by decide) ?_
        refine x_ast (np := 16) (x := 0) (kd := 1) (n := 1952) (i := (1152 + 2 * u479)) (by decide +kernel) (Or.inl rfl) (by decide +kernel) (by omega) (by omega) (by decide) (by decide) (fun z => absurd z (by decide)) ?_
        have j483 := jU (e := (1152 + 2 * u479)) (v := 2147483655) u479 j110 rg_76_1152_2_394 (by omega) (by omega) (by omega)
        have f485 := jF (e := (1152 + 2 * u479)) (v := 2147483655) u479 f115 rg_76_1152_2_394 (by omega) (by omega) (by decide)
        generalize e484 : x_up h109 76 (1152 + 2 * u479) 2147483655 = h482 at j483 f485 ⊢
        refine x_aload (np := 17) (x := 0) (by decide +kernel) rfl (x_nc_le (by decide)) ?_
        have q486 : h482 75 1 = 76 := by have z := jB (e := 1) 0 j483 rg_75_1_0_1 (by decide) (by decide); omega
        refine x_getR (np := 20) (x := 705) (f := 1) (q := 76) (by decide +kernel) (by decide) (by decide +kernel) q486 ?_
        refine x_const (np := 23) (x := 9223376986804585600) (a := 2147484800) (by decide +kernel) (by decide) (by decide) ?_
        refine x_const (np := 24) (x := 9223372047592194050) (a := 2147483650) (by decide +kernel) (by decide) (by decide) ?_
        refine x_aload (np := 25) (x := 0) (by decide +kernel) rfl (x_nc_le (by decide)) ?_
        have q487 : h482 75 13 = h109 75 13 := by rw [← e484]; exact x_up_k (by decide)
        have q488 : h109 75 13 = h33 75 13 := jK 0 f111 rg_75_13_0_1 (by omega) (by omega) (by decide)
        have q489 : h33 75 13 = h20 75 13 := jK 0 f35 rg_75_13_0_1 (by omega) (by omega) (by decide)
        have q490 : h20 75 13 = h7 75 13 := jK 0 f22 rg_75_13_0_1 (by omega) (by omega) (by decide)
        have q491 : h7 75 13 = h 75 13 := jK 0 f9 rg_75_13_0_1 (by omega) (by omega) (by decide)
        refine x_getC (np := 28) (x := 717) (f := 13) (q := (h 75 13)) (by decide +kernel) (by decide) (by decide +kernel) ((((q487.trans q488).trans q489).trans q490).trans q491) (fun l492 => ?_)
        refine x_imul (np := 29) (x := 0) (i := 2) (j := u479) (v := (2147483648 + 2 * u479)) (by decide +kernel) (by omega) (by omega) (by omega) (by omega) (by decide) l478 ?_
        refine x_iadd (np := 30) (x := 0) (v := (2147484800 + 2 * u479)) (by decide +kernel) (by decide) (by omega) (by omega) (by omega) ?_
        refine x_const (np := 31) (x := 9223372043297226753) (a := 2147483649) (by decide +kernel) (by decide) (by decide) ?_
        refine x_iadd (np := 32) (x := 0) (v := (2147484801 + 2 * u479)) (by decide +kernel) (by omega) (by decide) (by omega) (by omega) ?_
        refine x_iload (np := 33) (x := 2) (by decide +kernel) rfl (by decide) ?_
        refine x_ast (np := 34) (x := 0) (kd := 1) (n := 1952) (i := (1153 + 2 * u479)) (by decide +kernel) (Or.inl rfl) (by decide +kernel) (by omega) (by omega) (by decide) (by decide) (fun z => absurd z (by decide)) ?_
        have j495 := jU (e := (1153 + 2 * u479)) (v := 2147483648) u479 j483 rg_76_1153_2_394 (by omega) (by omega) (by omega)
        have f497 := jF (e := (1153 + 2 * u479)) (v := 2147483648) u479 f485 rg_76_1153_2_394 (by omega) (by omega) (by decide)
        generalize e496 : x_up h482 76 (1153 + 2 * u479) 2147483648 = h494 at j495 f497 ⊢
        refine x_aload (np := 35) (x := 0) (by decide +kernel) rfl (x_nc_le (by decide)) ?_
        refine x_dup (np := 36) (x := 0) (by decide +kernel) (by have z := x_nc_le (k := 75) (by decide); unfold x_r; omega) ?_
        have q498 : h494 75 13 = h482 75 13 := by rw [← e496]; exact x_up_k (by decide)
        have q499 : h482 75 13 = h109 75 13 := by rw [← e484]; exact x_up_k (by decide)
        have q500 : h109 75 13 = h33 75 13 := jK 0 f111 rg_75_13_0_1 (by omega) (by omega) (by decide)
        have q501 : h33 75 13 = h20 75 13 := jK 0 f35 rg_75_13_0_1 (by omega) (by omega) (by decide)
        have q502 : h20 75 13 = h7 75 13 := jK 0 f22 rg_75_13_0_1 (by omega) (by omega) (by decide)
        have q503 : h7 75 13 = h 75 13 := jK 0 f9 rg_75_13_0_1 (by omega) (by omega) (by decide)
        refine x_getC (np := 39) (x := 717) (f := 13) (q := (h 75 13)) (by decide +kernel) (by decide) (by decide +kernel) (((((q498.trans q499).trans q500).trans q501).trans q502).trans q503) (fun l504 => ?_)
        refine x_const (np := 40) (x := 9223372043297226753) (a := 2147483649) (by decide +kernel) (by decide) (by decide) ?_
        refine x_iadd (np := 41) (x := 0) (v := (1 + (h 75 13))) (by decide +kernel) l478 (by decide) (by omega) (by omega) ?_
        refine x_putI (np := 44) (x := 717) (f := 13) (by decide +kernel) (by decide +kernel) (by omega) (Or.inl (by decide)) ?_
        have j506 := jU (e := 13) (v := (1 + (h 75 13))) 0 j495 rg_75_13_0_1 (by omega) (by omega) (by omega)
        have f508 := jF (e := 13) (v := (1 + (h 75 13))) 0 f497 rg_75_13_0_1 (by omega) (by omega) (by decide)
        generalize e507 : x_up h494 75 13 (1 + (h 75 13)) = h505 at j506 f508 ⊢
        refine x_retV (np := 45) (x := 0) (by decide +kernel) (by decide +kernel) ⟨rfl, ?_⟩
        have q509 : h505 75 13 = (1 + (h 75 13)) := by rw [← e507]; exact x_up_at
        refine x_const (np := 151) (x := 9223372043297226753) (a := 2147483649) (by decide +kernel) (by decide) (by decide) ?_
        have q510 : h505 75 13 = (1 + (h 75 13)) := by rw [← e507]; exact x_up_at
        have q511 : h505 75 7 = h494 75 7 := by rw [← e507]; exact x_up_i (by omega)
        have q512 : h494 75 7 = h482 75 7 := by rw [← e496]; exact x_up_k (by decide)
        have q513 : h482 75 7 = h109 75 7 := by rw [← e484]; exact x_up_k (by decide)
        have q514 : h505 75 10 = h494 75 10 := by rw [← e507]; exact x_up_i (by omega)
        have q515 : h494 75 10 = h482 75 10 := by rw [← e496]; exact x_up_k (by decide)
        have q516 : h482 75 10 = h109 75 10 := by rw [← e484]; exact x_up_k (by decide)
        have q517 : h109 75 10 = h33 75 10 := jK 0 f111 rg_75_10_0_1 (by omega) (by omega) (by decide)
        have q518 : h33 75 10 = h20 75 10 := jK 0 f35 rg_75_10_0_1 (by omega) (by omega) (by decide)
        have q519 : h20 75 10 = h7 75 10 := jK 0 f22 rg_75_10_0_1 (by omega) (by omega) (by decide)
        have q520 : h7 75 10 = h 75 10 := jK 0 f9 rg_75_10_0_1 (by omega) (by omega) (by decide)
        have q521 : h505 75 7 = h494 75 7 := by rw [← e507]; exact x_up_i (by omega)
        have q522 : h494 75 7 = h482 75 7 := by rw [← e496]; exact x_up_k (by decide)
        have q523 : h482 75 7 = h109 75 7 := by rw [← e484]; exact x_up_k (by decide)
        have q524 : h505 75 13 = (1 + (h 75 13)) := by rw [← e507]; exact x_up_at
        have k531 : Kp h h7 (h 75 13 - 2147483648) := Kp.fr Kp.refl f9 (by omega) (by decide)
        have k530 : Kp h h20 (h 75 13 - 2147483648) := Kp.fr k531 f22 (by omega) (by decide)
        have k529 : Kp h h33 (h 75 13 - 2147483648) := Kp.fr k530 f35 (by omega) (by decide)
        have k528 : Kp h h109 (h 75 13 - 2147483648) := Kp.fr k529 f111 (by omega) (by decide)
        have k527 : Kp h h482 (h 75 13 - 2147483648) := by rw [← e484]; exact Kp.up k528 (by omega) (fun i hi => by omega)
        have k526 : Kp h h494 (h 75 13 - 2147483648) := by rw [← e496]; exact Kp.up k527 (by omega) (fun i hi => by omega)
        have k525 : Kp h h505 (h 75 13 - 2147483648) := by rw [← e507]; exact Kp.oth k526 (by decide)
        have q532 : h505 75 13 = (1 + (h 75 13)) := by rw [← e507]; exact x_up_at
        have q534 : h505 76 (1152 + 2 * u479) = h494 76 (1152 + 2 * u479) := by rw [← e507]; exact x_up_k (by decide)
        have q535 : h494 76 (1152 + 2 * u479) = h482 76 (1152 + 2 * u479) := by rw [← e496]; exact x_up_i (by omega)
        have q536 : h482 76 (1152 + 2 * u479) = 2147483655 := by rw [← e484]; exact x_up_at
        have s533 : Seg (sg h505) u479 (u479 + 1) := Seg.push (show 2147483648 ≤ h505 76 (1152 + 2 * u479) by omega) (show h505 76 (1152 + 2 * u479) ≤ 2147483656 by omega)
        have s537 : Seg (sg h505) (h 75 13 - 2147483648) (h505 75 13 - 2147483648) := Seg.cast (Seg.kp s533 Kp.refl) (by omega) (by omega)
        refine x_retI (np := 152) (x := 0) (by decide +kernel) (by decide) (Or.inr ⟨by decide +kernel, by omega, by omega⟩) ⟨_, rfl, (by decide), ?_⟩
        exact ⟨j506, f508, (by omega), (fun z => by omega), (fun z => by omega), (fun z => by omega), (fun z => by omega), k525, (fun _ => s537)⟩
      have q472 : ¬ (v30 = 2147483648) := q472
      exfalso; omega
    have q29 : ¬ (v17 = 2147483648) := q29
    have b538 := c25 (by omega)
    refine x_aload (np := 66) (x := 0) (by decide +kernel) rfl (x_nc_le (by decide)) ?_
    have q539 : h20 75 10 = h7 75 10 := jK 0 f22 rg_75_10_0_1 (by omega) (by omega) (by decide)
    have q540 : h7 75 10 = h 75 10 := jK 0 f9 rg_75_10_0_1 (by omega) (by omega) (by decide)
    refine x_getC (np := 69) (x := 714) (f := 10) (q := (h 75 10)) (by decide +kernel) (by decide) (by decide +kernel) (q539.trans q540) (fun l541 => ?_)
    refine x_const (np := 71) (x := 9223372064772063238) (a := 2147483654) (by decide +kernel) (by decide) (by decide) ?_
    refine x_icmp (k := 1) (tg := 76) (np := 74) (by decide +kernel) (by decide) l541 (by decide) (fun q542 => ?_) (fun q543 => ?_)
    · have q542 : (h 75 10) ≠ 2147483654 := q542
      exfalso; omega
    have q543 : ¬ ((h 75 10) ≠ 2147483654) := q543
    refine x_const (np := 75) (x := 9223372039002259456) (a := 2147483648) (by decide +kernel) (by decide) (by decide) ?_
    have q544 : h20 75 13 = h7 75 13 := jK 0 f22 rg_75_13_0_1 (by omega) (by omega) (by decide)
    have q545 : h7 75 13 = h 75 13 := jK 0 f9 rg_75_13_0_1 (by omega) (by omega) (by decide)
    have q546 : h20 75 10 = h7 75 10 := jK 0 f22 rg_75_10_0_1 (by omega) (by omega) (by decide)
    have q547 : h7 75 10 = h 75 10 := jK 0 f9 rg_75_10_0_1 (by omega) (by omega) (by decide)
    have q548 : h20 75 13 = h7 75 13 := jK 0 f22 rg_75_13_0_1 (by omega) (by omega) (by decide)
    have q549 : h7 75 13 = h 75 13 := jK 0 f9 rg_75_13_0_1 (by omega) (by omega) (by decide)
    have k551 : Kp h h7 (h 75 13 - 2147483648) := Kp.fr Kp.refl f9 (by omega) (by decide)
    have k550 : Kp h h20 (h 75 13 - 2147483648) := Kp.fr k551 f22 (by omega) (by decide)
    refine x_retI (np := 76) (x := 0) (by decide +kernel) (by decide) (Or.inr ⟨by decide +kernel, by omega, by omega⟩) ⟨_, rfl, (by decide), ?_⟩
    exact ⟨j21, f26, (by omega), (fun z => by omega), (fun z => by omega), (fun z => by omega), (fun z => by omega), k550, (fun z => absurd z (by omega))⟩
  have q16 : ¬ (v4 = 2147483648) := q16
  have b552 := c12 (by omega)
  refine x_aload (np := 10) (x := 0) (by decide +kernel) rfl (x_nc_le (by decide)) ?_
  have q553 : h7 75 10 = h 75 10 := jK 0 f9 rg_75_10_0_1 (by omega) (by omega) (by decide)
  refine x_getC (np := 13) (x := 714) (f := 10) (q := (h 75 10)) (by decide +kernel) (by decide) (by decide +kernel) q553 (fun l554 => ?_)
  refine x_const (np := 15) (x := 9223372064772063238) (a := 2147483654) (by decide +kernel) (by decide) (by decide) ?_
  refine x_icmp (k := 1) (tg := 20) (np := 18) (by decide +kernel) (by decide) l554 (by decide) (fun q555 => ?_) (fun q556 => ?_)
  · have q555 : (h 75 10) ≠ 2147483654 := q555
    exfalso; omega
  have q556 : ¬ ((h 75 10) ≠ 2147483654) := q556
  refine x_const (np := 19) (x := 9223372039002259456) (a := 2147483648) (by decide +kernel) (by decide) (by decide) ?_
  have q557 : h7 75 13 = h 75 13 := jK 0 f9 rg_75_13_0_1 (by omega) (by omega) (by decide)
  have q558 : h7 75 10 = h 75 10 := jK 0 f9 rg_75_10_0_1 (by omega) (by omega) (by decide)
  have q559 : h7 75 13 = h 75 13 := jK 0 f9 rg_75_13_0_1 (by omega) (by omega) (by decide)
  have k560 : Kp h h7 (h 75 13 - 2147483648) := Kp.fr Kp.refl f9 (by omega) (by decide)
  refine x_retI (np := 20) (x := 0) (by decide +kernel) (by decide) (Or.inr ⟨by decide +kernel, by omega, by omega⟩) ⟨_, rfl, (by decide), ?_⟩
  exact ⟨j8, f13, (by omega), (fun z => by omega), (fun z => by omega), (fun z => by omega), (fun z => by omega), k560, (fun z => absurd z (by omega))⟩
