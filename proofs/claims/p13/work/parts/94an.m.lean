/-! ===== methods ===== -/
set_option maxHeartbeats 0 in
/-- LentNamesModel.custom()I -/
theorem c196_75 {sc : Nat × Nat} {d  : Nat} {h : xh} {tB : Nat → Nat} {tN : Nat} (hJ : J h) (hW : WT 76 h) (hT : Tr tB tN h) : X sc 196 (d + 30) (xI fun r h' => J h' ∧ Fr 133824513 h h' ∧ (2147483648 ≤ r ∧ r ≤ 2147483658) ∧ (h' 75 6 = 2147483648) ∧ WT 76 h' ∧ Cq tB tN r (h' 75 0)) 0 0 0 [x_r 75, 147573952589676412928, 147573952589676412928] [] h := by
  have hF := Fr.refl 133824513 h
  refine x_aload (np := 1) (x := 0) (by decide +kernel) rfl (x_nc_le (by decide)) ?_
  refine x_const (np := 2) (x := 9223372039002259456) (a := 2147483648) (by decide +kernel) (by decide) (by decide) ?_
  refine x_putI (np := 5) (x := 704) (f := 0) (by decide +kernel) (by decide +kernel) (by decide) (Or.inl (by decide)) ?_
  have j2 := jU (e := 0) (v := 2147483648) 0 hJ rg_75_0_0_1 (by first | decide | omega) (by first | decide | omega) (by first | decide | omega)
  have f4 := jF (e := 0) (v := 2147483648) 0 hF rg_75_0_0_1 (by first | decide | omega) (by first | decide | omega) (by decide)
  generalize e3 : x_up h 75 0 2147483648 = h1 at j2 f4 ⊢
  refine x_aload (np := 6) (x := 0) (by decide +kernel) rfl (x_nc_le (by decide)) ?_
  refine x_const (np := 7) (x := 9223372039002259456) (a := 2147483648) (by decide +kernel) (by decide) (by decide) ?_
  have m8 : Tr tB tN h1 := by rw [← e3]; exact Tr.oth hT (by decide) (by decide)
  refine x_cI (t := 6) (mj := 194) (n := 2) (rc := 12) (ml := 3) (nr := 0) (np := 10) (as := [x_r 75, iv_c 2147483648]) (rest := []) (lo1 := [x_r 75, iv_c 2147483648, 147573952589676412928]) (by decide +kernel) (by decide) (by decide +kernel) (x_rb_of (by decide +kernel)) rfl rfl (x_wr (by decide) (x_wi (by decide) x_wn)) x_wn (by decide) rfl (c194_75_c0 j2   m8) (fun v5 h9 l6 q7 => ?_)
  obtain ⟨j10, f11, b12, c13, c14, c15, c16, c17⟩ := q7
  have f18 := Fr.trans f4 f11 (by decide)
  have b19 := jB (e := 6) 0 j10 rg_75_6_0_1 (by first | decide | omega) (by first | decide | omega)
  have q20 : h1 78 0 = h 78 0 := by rw [← e3]; exact x_up_k (by decide)
  have b21 := jB (e := 0) 0 hJ rg_78_0_0_1 (by first | decide | omega) (by first | decide | omega)
  have q22 : h9 78 0 = h1 78 0 := jK 0 f11 rg_78_0_0_1 (by first | decide | omega) (by first | decide | omega) (by decide)
  have q23 : h1 78 0 = h 78 0 := by rw [← e3]; exact x_up_k (by decide)
  have q24 : h1 78 1 = h 78 1 := by rw [← e3]; exact x_up_k (by decide)
  have q25 : h9 78 1 = h1 78 1 := jK 0 f11 rg_78_1_0_1 (by first | decide | omega) (by first | decide | omega) (by decide)
  have q26 : h1 78 1 = h 78 1 := by rw [← e3]; exact x_up_k (by decide)
  refine x_istore (np := 11) (x := 1) (lo' := [x_r 75, iv_c v5, 147573952589676412928]) (by decide +kernel) l6 (Nat.le_of_ble_eq_true rfl) rfl ?_
  refine x_aload (np := 12) (x := 0) (by decide +kernel) rfl (x_nc_le (by decide)) ?_
  refine x_iload (np := 13) (x := 1) (by decide +kernel) rfl l6 ?_
  refine x_ifz (k := 3) (tg := 23) (np := 16) (by decide +kernel) (by decide) l6 (fun q27 => ?_) (fun q28 => ?_)
  · have q27 : 2147483648 ≤ v5 := q27
    have b29 := c14 (by first | decide | omega)
    have b30 := c15 (by first | decide | omega)
    have m31 := c16 (by first | decide | omega)
    refine x_const (np := 24) (x := 9223372034707292159) (a := 2147483647) (by decide +kernel) (by decide) (by decide) ?_
    refine x_putI (np := 27) (x := 715) (f := 11) (by decide +kernel) (by decide +kernel) (by decide) (Or.inl (by decide)) ?_
    have j33 := jU (e := 11) (v := 2147483647) 0 j10 rg_75_11_0_1 (by first | decide | omega) (by first | decide | omega) (by first | decide | omega)
    have f35 := jF (e := 11) (v := 2147483647) 0 f18 rg_75_11_0_1 (by first | decide | omega) (by first | decide | omega) (by decide)
    generalize e34 : x_up h9 75 11 2147483647 = h32 at j33 f35 ⊢
    refine x_aload (np := 28) (x := 0) (by decide +kernel) rfl (x_nc_le (by decide)) ?_
    refine x_iload (np := 29) (x := 1) (by decide +kernel) rfl l6 ?_
    refine x_ifz (k := 3) (tg := 36) (np := 32) (by decide +kernel) (by decide) l6 (fun q36 => ?_) (fun q37 => ?_)
    · have q36 : 2147483648 ≤ v5 := q36
      refine x_const (np := 37) (x := 9223372039002259456) (a := 2147483648) (by decide +kernel) (by decide) (by decide) ?_
      refine x_const (np := 38) (x := 9223372043297226753) (a := 2147483649) (by decide +kernel) (by decide) (by decide) ?_
      refine x_nI (t := 6) (mj := 152) (n := 3) (rc := 12) (ml := 3) (nr := 0) (np := 41) (as := [x_r 75, iv_c 2147483648, iv_c 2147483649]) (rest := []) (lo1 := [x_r 75, iv_c 2147483648, iv_c 2147483649]) (by decide +kernel) (by decide) (by decide +kernel) (x_rb_of (by decide +kernel)) rfl rfl (x_wr (by decide) (x_wi (by decide) (x_wi (by decide) x_wn))) x_wn (by decide) rfl ?_
      refine x_iload (np := 1) (x := 1) (by decide +kernel) rfl (by decide) ?_
      refine x_ifz (k := 0) (tg := 9) (np := 4) (by decide +kernel) (by decide) (by decide) (fun q38 => ?_) (fun q39 => ?_)
      · have q38 : 2147483648 = 2147483648 := q38
        refine x_iload (np := 10) (x := 1) (by decide +kernel) rfl (by decide) ?_
        refine x_retI (np := 11) (x := 0) (by decide +kernel) (by decide) (Or.inr ⟨by decide +kernel, by first | decide | omega, by first | decide | omega⟩) ⟨_, rfl, (by decide), ?_⟩
        refine x_ifz (k := 0) (tg := 46) (np := 44) (by decide +kernel) (by decide) (by decide) (fun q40 => ?_) (fun q41 => ?_)
        · have q40 : 2147483648 = 2147483648 := q40
          refine x_aload (np := 47) (x := 0) (by decide +kernel) rfl (x_nc_le (by decide)) ?_
          have q42 : h32 75 1 = 76 := by have z := jB (e := 1) 0 j33 rg_75_1_0_1 (by decide) (by decide); omega
          refine x_getR (np := 50) (x := 705) (f := 1) (q := 76) (by decide +kernel) (by decide) (by decide +kernel) q42 ?_
          refine x_const (np := 53) (x := 9223376853660599393) (a := 2147484769) (by decide +kernel) (by decide) (by decide) ?_
          refine x_iload (np := 54) (x := 1) (by decide +kernel) rfl l6 ?_
          refine x_ast (np := 55) (x := 0) (kd := 1) (n := 1952) (i := 1121) (by decide +kernel) (Or.inl rfl) (by decide +kernel) (by first | decide | omega) (by first | decide | omega) (by decide) l6 (fun z => absurd z (by decide)) ?_
          have j44 := jU (e := 1121) (v := v5) 0 j33 rg_76_1121_0_1 (by first | decide | omega) (by first | decide | omega) (by first | decide | omega)
          have f46 := jF (e := 1121) (v := v5) 0 f35 rg_76_1121_0_1 (by first | decide | omega) (by first | decide | omega) (by decide)
          generalize e45 : x_up h32 76 1121 v5 = h43 at j44 f46 ⊢
          refine x_const (np := 56) (x := 9223372039002259456) (a := 2147483648) (by decide +kernel) (by decide) (by decide) ?_
          refine x_istore (np := 57) (x := 2) (lo' := [x_r 75, iv_c v5, iv_c 2147483648]) (by decide +kernel) (by decide) (Nat.le_of_ble_eq_true rfl) rfl ?_
          have p458 : ∀ (n : Nat) (v453 : Nat) (h455 : xh), 4294967296 - v453 < n → (2147483648 ≤ v453 ∧ v453 ≤ 2147484479) → J h455 → Fr 33554432 h43 h455 → Cp6 h43 h455 (v453 - 2147483648) → X sc 196 (d + 30) (xI fun r h' => J h' ∧ Fr 133824513 h h' ∧ (2147483648 ≤ r ∧ r ≤ 2147483658) ∧ (h' 75 6 = 2147483648) ∧ WT 76 h' ∧ Cq tB tN r (h' 75 0)) 0 0 57 [x_r 75, iv_c v5, iv_c v453] [] h455 := by
            intro n
            induction n with
            | zero => intro v453 h455 q460; exact absurd q460 (Nat.not_lt_zero _)
            | succ n i461 =>
              intro v453 h455 q460 b454 j457 f456 m459
              have f462 := Fr.trans f46 f456 (by decide)
              refine x_iload (np := 58) (x := 2) (by decide +kernel) rfl (by first | decide | omega) ?_
              refine x_const (np := 61) (x := 9223375608120083263) (a := 2147484479) (by decide +kernel) (by decide) (by decide) ?_
              refine x_icmp (k := 3) (tg := 90) (np := 64) (by decide +kernel) (by decide) (by first | decide | omega) (by decide) (fun q463 => ?_) (fun q464 => ?_)
              · have q463 : 2147484479 ≤ v453 := q463
                refine x_aload (np := 91) (x := 0) (by decide +kernel) rfl (x_nc_le (by decide)) ?_
                have q465 : h455 75 1 = 76 := by have z := jB (e := 1) 0 j457 rg_75_1_0_1 (by decide) (by decide); omega
                refine x_getR (np := 94) (x := 705) (f := 1) (q := 76) (by decide +kernel) (by decide) (by decide +kernel) q465 ?_
                refine x_const (np := 96) (x := 9223372064772063238) (a := 2147483654) (by decide +kernel) (by decide) (by decide) ?_
                refine x_const (np := 97) (x := 9223372043297226753) (a := 2147483649) (by decide +kernel) (by decide) (by decide) ?_
                refine x_ast (np := 98) (x := 0) (kd := 1) (n := 1952) (i := 6) (by decide +kernel) (Or.inl rfl) (by decide +kernel) (by first | decide | omega) (by first | decide | omega) (by decide) (by decide) (fun z => absurd z (by decide)) ?_
                have j467 := jU (e := 6) (v := 2147483649) 0 j457 rg_76_6_0_1 (by first | decide | omega) (by first | decide | omega) (by first | decide | omega)
                have f469 := jF (e := 6) (v := 2147483649) 0 f462 rg_76_6_0_1 (by first | decide | omega) (by first | decide | omega) (by decide)
                generalize e468 : x_up h455 76 6 2147483649 = h466 at j467 f469 ⊢
                refine x_iload (np := 99) (x := 1) (by decide +kernel) rfl l6 ?_
                have q470 : h466 75 6 = h455 75 6 := by rw [← e468]; exact x_up_k (by decide)
                have q471 : h455 75 6 = h43 75 6 := jK 0 f456 rg_75_6_0_1 (by first | decide | omega) (by first | decide | omega) (by decide)
                have q472 : h43 75 6 = h32 75 6 := by rw [← e45]; exact x_up_k (by decide)
                have q473 : h32 75 6 = h9 75 6 := by rw [← e34]; exact x_up_i (by first | decide | omega)
                have m475 : LnS (v5 - 2147483648) h32 := by rw [← e34]; exact LnS.oth m31 (by decide) (by decide)
                have m474 : LnS (v5 - 2147483648) h43 := by rw [← e45]; exact LnS.up m475 (by decide)
                have q476 : h43 75 13 = h32 75 13 := by rw [← e45]; exact x_up_k (by decide)
                have q477 : h32 75 13 = h9 75 13 := by rw [← e34]; exact x_up_i (by first | decide | omega)
                have b478 := jB (e := 13) 0 j10 rg_75_13_0_1 (by first | decide | omega) (by first | decide | omega)
                have q479 : h43 76 1121 = v5 := by rw [← e45]; exact x_up_at
                have m480 : WT 76 h455 := WT.mk m474 m459 (by first | decide | omega) (by first | decide | omega) (by first | decide | omega) (by first | decide | omega)
                have m481 : WT 76 h466 := by rw [← e468]; exact WT.up m480 j457 (by first | decide | omega)
                have q482 : h466 75 0 = h455 75 0 := by rw [← e468]; exact x_up_k (by decide)
                have q483 : h455 75 0 = h43 75 0 := jK 0 f456 rg_75_0_0_1 (by first | decide | omega) (by first | decide | omega) (by decide)
                have q484 : h43 75 0 = h32 75 0 := by rw [← e45]; exact x_up_k (by decide)
                have q485 : h32 75 0 = h9 75 0 := by rw [← e34]; exact x_up_i (by first | decide | omega)
                have q486 : h9 75 0 = h1 75 0 := jK 0 f11 rg_75_0_0_1 (by first | decide | omega) (by first | decide | omega) (by decide)
                have q487 : h1 75 0 = 2147483648 := by rw [← e3]; exact x_up_at
                refine x_retI (np := 100) (x := 0) (by decide +kernel) l6 (Or.inl (by decide +kernel)) ⟨_, rfl, l6, ?_⟩
                exact ⟨j467, f469, (by first | decide | omega), (by first | decide | omega), m481, (Cq.yes c17 (by first | decide | omega) (by first | decide | omega) (by first | decide | omega))⟩
              have q464 : ¬ (2147484479 ≤ v453) := q464
              refine x_aload (np := 65) (x := 0) (by decide +kernel) rfl (x_nc_le (by decide)) ?_
              have q488 : h455 75 1 = 76 := by have z := jB (e := 1) 0 j457 rg_75_1_0_1 (by decide) (by decide); omega
              refine x_getR (np := 68) (x := 705) (f := 1) (q := 76) (by decide +kernel) (by decide) (by decide +kernel) q488 ?_
              refine x_const (np := 71) (x := 9223373284542775586) (a := 2147483938) (by decide +kernel) (by decide) (by decide) ?_
              refine x_iload (np := 72) (x := 2) (by decide +kernel) rfl (by first | decide | omega) ?_
              refine x_iadd (np := 73) (x := 0) (v := (290 + v453)) (by decide +kernel) (by decide) (by first | decide | omega) (by first | decide | omega) (by first | decide | omega) ?_
              refine x_aload (np := 74) (x := 0) (by decide +kernel) rfl (x_nc_le (by decide)) ?_
              have q489 : h455 75 1 = 76 := by have z := jB (e := 1) 0 j457 rg_75_1_0_1 (by decide) (by decide); omega
              refine x_getR (np := 77) (x := 705) (f := 1) (q := 76) (by decide +kernel) (by decide) (by decide +kernel) q489 ?_
              refine x_const (np := 80) (x := 9223376853660599393) (a := 2147484769) (by decide +kernel) (by decide) (by decide) ?_
              refine x_iload (np := 81) (x := 2) (by decide +kernel) rfl (by first | decide | omega) ?_
              refine x_iadd (np := 82) (x := 0) (v := (1121 + v453)) (by decide +kernel) (by decide) (by first | decide | omega) (by first | decide | omega) (by first | decide | omega) ?_
              obtain ⟨u490, q491⟩ : ∃ z, v453 = 2147483648 + z := ⟨v453 - 2147483648, by first | decide | omega⟩
              refine x_aldC (np := 83) (x := 0) (n := 1952) (i := (1121 + u490)) (q := (h455 76 (1121 + u490))) (by decide +kernel) (by decide +kernel) (by first | decide | omega) (by first | decide | omega) (by decide) rfl (fun l492 => ?_)
              refine x_ast (np := 84) (x := 0) (kd := 1) (n := 1952) (i := (290 + u490)) (by decide +kernel) (Or.inl rfl) (by decide +kernel) (by first | decide | omega) (by first | decide | omega) (by decide) l492 (fun z => absurd z (by decide)) ?_
              have j494 := cwJ (e := (290 + u490)) (v := (h455 76 (1121 + u490))) u490 j457 j457 cw_76_290_76_1121_831 (by first | decide | omega) (by first | decide | omega) (by first | rfl | (congr 1; omega))
              have f496 := cwF (e := (290 + u490)) (v := (h455 76 (1121 + u490))) u490 f462 cw_76_290_76_1121_831 (by first | decide | omega) (by first | decide | omega) (by decide)
              have f497 := cwF (e := (290 + u490)) (v := (h455 76 (1121 + u490))) u490 f456 cw_76_290_76_1121_831 (by first | decide | omega) (by first | decide | omega) (by decide)
              generalize e495 : x_up h455 76 (290 + u490) (h455 76 (1121 + u490)) = h493 at j494 f496 f497 ⊢
              refine x_iinc (np := 87) (i := 2) (j := 2147483649) (v := (1 + v453)) (lo' := [x_r 75, iv_c v5, iv_c (1 + v453)]) (by decide +kernel) (by decide) (by decide) rfl (by first | decide | omega) (by first | decide | omega) (by first | decide | omega) rfl ?_
              refine x_goto (np := 90) (x := 57) (by decide +kernel) ?_
              have m498 : Cp6 h43 h493 ((1 + v453) - 2147483648) := by
                have e0 : v453 - 2147483648 = u490 := by first | decide | omega
                have e9 : (1 + v453) = 2147483648 + (u490 + 1) := by first | decide | omega
                have e1 : (1 + v453) - 2147483648 = u490 + 1 := by rw [e9]; exact Nat.add_sub_cancel_left _ _
                have p9 := m459
                rw [e0] at p9
                rw [e1, ← e495]
                exact Cp6.step p9 f456 (by decide) (by first | decide | omega)
              exact i461 (1 + v453) h493 (by first | decide | omega) (by first | decide | omega) j494 f497 m498
          exact p458 _ 2147483648 h43 (Nat.lt_succ_self _) (by first | decide | omega) j44 (Fr.refl _ _) Cp6.zero
        have q41 : ¬ (2147483648 = 2147483648) := q41
        exfalso; omega
      have q39 : ¬ (2147483648 = 2147483648) := q39
      exfalso; omega
    have q37 : ¬ (2147483648 ≤ v5) := q37
    exfalso; omega
  have q28 : ¬ (2147483648 ≤ v5) := q28
  refine x_aload (np := 17) (x := 0) (by decide +kernel) rfl (x_nc_le (by decide)) ?_
  have b499 := jB (e := 9) 0 j10 rg_75_9_0_1 (by first | decide | omega) (by first | decide | omega)
  refine x_getC (np := 20) (x := 713) (f := 9) (q := (h9 75 9)) (by decide +kernel) (by decide) (by decide +kernel) rfl (fun l500 => ?_)
  refine x_goto (np := 23) (x := 24) (by decide +kernel) ?_
  refine x_putI (np := 27) (x := 715) (f := 11) (by decide +kernel) (by decide +kernel) l500 (Or.inl (by decide)) ?_
  have j502 := jU (e := 11) (v := (h9 75 9)) 0 j10 rg_75_11_0_1 (by first | decide | omega) (by first | decide | omega) (by first | decide | omega)
  have f504 := jF (e := 11) (v := (h9 75 9)) 0 f18 rg_75_11_0_1 (by first | decide | omega) (by first | decide | omega) (by decide)
  generalize e503 : x_up h9 75 11 (h9 75 9) = h501 at j502 f504 ⊢
  refine x_aload (np := 28) (x := 0) (by decide +kernel) rfl (x_nc_le (by decide)) ?_
  refine x_iload (np := 29) (x := 1) (by decide +kernel) rfl l6 ?_
  refine x_ifz (k := 3) (tg := 36) (np := 32) (by decide +kernel) (by decide) l6 (fun q505 => ?_) (fun q506 => ?_)
  · have q505 : 2147483648 ≤ v5 := q505
    exfalso; omega
  have q506 : ¬ (2147483648 ≤ v5) := q506
  refine x_const (np := 33) (x := 9223372043297226753) (a := 2147483649) (by decide +kernel) (by decide) (by decide) ?_
  refine x_goto (np := 36) (x := 37) (by decide +kernel) ?_
  refine x_const (np := 38) (x := 9223372043297226753) (a := 2147483649) (by decide +kernel) (by decide) (by decide) ?_
  refine x_nI (t := 6) (mj := 152) (n := 3) (rc := 12) (ml := 3) (nr := 0) (np := 41) (as := [x_r 75, iv_c 2147483649, iv_c 2147483649]) (rest := []) (lo1 := [x_r 75, iv_c 2147483649, iv_c 2147483649]) (by decide +kernel) (by decide) (by decide +kernel) (x_rb_of (by decide +kernel)) rfl rfl (x_wr (by decide) (x_wi (by decide) (x_wi (by decide) x_wn))) x_wn (by decide) rfl ?_
  refine x_iload (np := 1) (x := 1) (by decide +kernel) rfl (by decide) ?_
  refine x_ifz (k := 0) (tg := 9) (np := 4) (by decide +kernel) (by decide) (by decide) (fun q507 => ?_) (fun q508 => ?_)
  · have q507 : 2147483649 = 2147483648 := q507
    exfalso; omega
  have q508 : ¬ (2147483649 = 2147483648) := q508
  refine x_aload (np := 5) (x := 0) (by decide +kernel) rfl (x_nc_le (by decide)) ?_
  refine x_iload (np := 6) (x := 2) (by decide +kernel) rfl (by decide) ?_
  refine x_putI (np := 9) (x := 704) (f := 0) (by decide +kernel) (by decide +kernel) (by decide) (Or.inl (by decide)) ?_
  have j510 := jU (e := 0) (v := 2147483649) 0 j502 rg_75_0_0_1 (by first | decide | omega) (by first | decide | omega) (by first | decide | omega)
  have f512 := jF (e := 0) (v := 2147483649) 0 f504 rg_75_0_0_1 (by first | decide | omega) (by first | decide | omega) (by decide)
  generalize e511 : x_up h501 75 0 2147483649 = h509 at j510 f512 ⊢
  refine x_iload (np := 10) (x := 1) (by decide +kernel) rfl (by decide) ?_
  refine x_retI (np := 11) (x := 0) (by decide +kernel) (by decide) (Or.inr ⟨by decide +kernel, by first | decide | omega, by first | decide | omega⟩) ⟨_, rfl, (by decide), ?_⟩
  refine x_ifz (k := 0) (tg := 46) (np := 44) (by decide +kernel) (by decide) (by decide) (fun q513 => ?_) (fun q514 => ?_)
  · have q513 : 2147483649 = 2147483648 := q513
    exfalso; omega
  have q514 : ¬ (2147483649 = 2147483648) := q514
  refine x_const (np := 45) (x := 9223372039002259456) (a := 2147483648) (by decide +kernel) (by decide) (by decide) ?_
  have q515 : h509 75 6 = h501 75 6 := by rw [← e511]; exact x_up_i (by first | decide | omega)
  have q516 : h501 75 6 = h9 75 6 := by rw [← e503]; exact x_up_i (by first | decide | omega)
  have m520 : WT 76 h1 := by rw [← e3]; exact WT.oth hW hJ (by decide)
  have m519 := WT.fr m520 j2 f11 (by decide)
  have m518 : WT 76 h501 := by rw [← e503]; exact WT.oth m519 j10 (by decide)
  have m517 : WT 76 h509 := by rw [← e511]; exact WT.oth m518 j502 (by decide)
  have q521 : h509 75 0 = 2147483649 := by rw [← e511]; exact x_up_at
  refine x_retI (np := 46) (x := 0) (by decide +kernel) (by decide) (Or.inl (by decide +kernel)) ⟨_, rfl, (by decide), ?_⟩
  exact ⟨j510, f512, (by first | decide | omega), (by first | decide | omega), m517, (Cq.no c17 (by first | decide | omega) (by first | decide | omega) (by first | decide | omega))⟩
set_option maxHeartbeats 0 in
/-- LentNamesModel.people(I)V -/
theorem c197_75 {sc : Nat × Nat} {d a1 : Nat} {h : xh} (hJ : J h) (ba1 : 0 ≤ a1 ∧ a1 ≤ 4294967295) (hW : WT 76 h) : X sc 197 (d + 1) (xV fun h' => J h' ∧ Fr 562949953552385 h h' ∧ WT 76 h' ∧ Pf h h' a1) 0 0 0 [x_r 75, iv_c a1] [] h := by
  have la1 : a1 < 4294967296 := by first | decide | omega
  have hF := Fr.refl 562949953552385 h
  refine x_aload (np := 1) (x := 0) (by decide +kernel) rfl (x_nc_le (by decide)) ?_
  refine x_const (np := 2) (x := 9223372039002259456) (a := 2147483648) (by decide +kernel) (by decide) (by decide) ?_
  refine x_putI (np := 5) (x := 704) (f := 0) (by decide +kernel) (by decide +kernel) (by decide) (Or.inl (by decide)) ?_
  have j2 := jU (e := 0) (v := 2147483648) 0 hJ rg_75_0_0_1 (by first | decide | omega) (by first | decide | omega) (by first | decide | omega)
  have f4 := jF (e := 0) (v := 2147483648) 0 hF rg_75_0_0_1 (by first | decide | omega) (by first | decide | omega) (by decide)
  generalize e3 : x_up h 75 0 2147483648 = h1 at j2 f4 ⊢
  refine x_aload (np := 6) (x := 0) (by decide +kernel) rfl (x_nc_le (by decide)) ?_
  refine x_iload (np := 7) (x := 1) (by decide +kernel) rfl la1 ?_
  refine x_const (np := 8) (x := 9223372047592194050) (a := 2147483650) (by decide +kernel) (by decide) (by decide) ?_
  refine x_const (np := 10) (x := 9223372064772063238) (a := 2147483654) (by decide +kernel) (by decide) (by decide) ?_
  refine x_nI (t := 0) (mj := 153) (n := 3) (rc := 0) (ml := 3) (nr := 1) (np := 13) (as := [iv_c a1, iv_c 2147483650, iv_c 2147483654]) (rest := [x_r 75]) (lo1 := [iv_c a1, iv_c 2147483650, iv_c 2147483654]) (by decide +kernel) (by decide) (by decide +kernel) (Or.inl rfl) rfl rfl (x_wi la1 (x_wi (by decide) (x_wi (by decide) x_wn))) (x_wr (by decide) x_wn) (by decide) rfl ?_
  refine x_iload (np := 1) (x := 0) (by decide +kernel) rfl la1 ?_
  refine x_iload (np := 2) (x := 1) (by decide +kernel) rfl (by decide) ?_
  refine x_icmp (k := 2) (tg := 14) (np := 5) (by decide +kernel) (by decide) la1 (by decide) (fun q5 => ?_) (fun q6 => ?_)
  · have q5 : a1 < 2147483650 := q5
    refine x_const (np := 15) (x := 9223372039002259456) (a := 2147483648) (by decide +kernel) (by decide) (by decide) ?_
    refine x_retI (np := 16) (x := 0) (by decide +kernel) (by decide) (Or.inr ⟨by decide +kernel, by first | decide | omega, by first | decide | omega⟩) ⟨_, rfl, (by decide), ?_⟩
    refine x_ifz (k := 1) (tg := 20) (np := 16) (by decide +kernel) (by decide) (by decide) (fun q7 => ?_) (fun q8 => ?_)
    · have q7 : 2147483648 ≠ 2147483648 := q7
      exfalso; omega
    have q8 : ¬ (2147483648 ≠ 2147483648) := q8
    refine x_const (np := 17) (x := 9223372043297226753) (a := 2147483649) (by decide +kernel) (by decide) (by decide) ?_
    refine x_goto (np := 20) (x := 21) (by decide +kernel) ?_
    refine x_const (np := 22) (x := 9223372043297226753) (a := 2147483649) (by decide +kernel) (by decide) (by decide) ?_
    refine x_nI (t := 6) (mj := 152) (n := 3) (rc := 12) (ml := 3) (nr := 0) (np := 25) (as := [x_r 75, iv_c 2147483649, iv_c 2147483649]) (rest := []) (lo1 := [x_r 75, iv_c 2147483649, iv_c 2147483649]) (by decide +kernel) (by decide) (by decide +kernel) (x_rb_of (by decide +kernel)) rfl rfl (x_wr (by decide) (x_wi (by decide) (x_wi (by decide) x_wn))) x_wn (by decide) rfl ?_
    refine x_iload (np := 1) (x := 1) (by decide +kernel) rfl (by decide) ?_
    refine x_ifz (k := 0) (tg := 9) (np := 4) (by decide +kernel) (by decide) (by decide) (fun q9 => ?_) (fun q10 => ?_)
    · have q9 : 2147483649 = 2147483648 := q9
      exfalso; omega
    have q10 : ¬ (2147483649 = 2147483648) := q10
    refine x_aload (np := 5) (x := 0) (by decide +kernel) rfl (x_nc_le (by decide)) ?_
    refine x_iload (np := 6) (x := 2) (by decide +kernel) rfl (by decide) ?_
    refine x_putI (np := 9) (x := 704) (f := 0) (by decide +kernel) (by decide +kernel) (by decide) (Or.inl (by decide)) ?_
    have j12 := jU (e := 0) (v := 2147483649) 0 j2 rg_75_0_0_1 (by first | decide | omega) (by first | decide | omega) (by first | decide | omega)
    have f14 := jF (e := 0) (v := 2147483649) 0 f4 rg_75_0_0_1 (by first | decide | omega) (by first | decide | omega) (by decide)
    generalize e13 : x_up h1 75 0 2147483649 = h11 at j12 f14 ⊢
    refine x_iload (np := 10) (x := 1) (by decide +kernel) rfl (by decide) ?_
    refine x_retI (np := 11) (x := 0) (by decide +kernel) (by decide) (Or.inr ⟨by decide +kernel, by first | decide | omega, by first | decide | omega⟩) ⟨_, rfl, (by decide), ?_⟩
    refine x_ifz (k := 1) (tg := 50) (np := 28) (by decide +kernel) (by decide) (by decide) (fun q15 => ?_) (fun q16 => ?_)
    · have q15 : 2147483649 ≠ 2147483648 := q15
      have m18 : WT 76 h1 := by rw [← e3]; exact WT.oth hW hJ (by decide)
      have m17 : WT 76 h11 := by rw [← e13]; exact WT.oth m18 j2 (by decide)
      have q19 : h11 75 0 = 2147483649 := by rw [← e13]; exact x_up_at
      have b20 := jB (e := 0) 0 hJ rg_76_0_0_1 (by first | decide | omega) (by first | decide | omega)
      have q21 : h11 76 0 = h1 76 0 := by rw [← e13]; exact x_up_k (by decide)
      have q22 : h1 76 0 = h 76 0 := by rw [← e3]; exact x_up_k (by decide)
      have q23 : h11 76 1 = h1 76 1 := by rw [← e13]; exact x_up_k (by decide)
      have q24 : h1 76 1 = h 76 1 := by rw [← e3]; exact x_up_k (by decide)
      have b25 := jB (e := 2) 0 hJ rg_76_2_0_1 (by first | decide | omega) (by first | decide | omega)
      have q26 : h11 76 2 = h1 76 2 := by rw [← e13]; exact x_up_k (by decide)
      have q27 : h1 76 2 = h 76 2 := by rw [← e3]; exact x_up_k (by decide)
      have b28 := jB (e := 3) 0 hJ rg_76_3_0_1 (by first | decide | omega) (by first | decide | omega)
      have q29 : h11 76 3 = h1 76 3 := by rw [← e13]; exact x_up_k (by decide)
      have q30 : h1 76 3 = h 76 3 := by rw [← e3]; exact x_up_k (by decide)
      have b31 := jB (e := 4) 0 hJ rg_76_4_0_1 (by first | decide | omega) (by first | decide | omega)
      have q32 : h11 76 4 = h1 76 4 := by rw [← e13]; exact x_up_k (by decide)
      have q33 : h1 76 4 = h 76 4 := by rw [← e3]; exact x_up_k (by decide)
      have b34 := jB (e := 5) 0 hJ rg_76_5_0_1 (by first | decide | omega) (by first | decide | omega)
      have q35 : h11 76 5 = h1 76 5 := by rw [← e13]; exact x_up_k (by decide)
      have q36 : h1 76 5 = h 76 5 := by rw [← e3]; exact x_up_k (by decide)
      refine x_retV (np := 51) (x := 0) (by decide +kernel) (by decide +kernel) ⟨rfl, ?_⟩
      exact ⟨j12, f14, m17, ⟨(by first | decide | omega), (by first | decide | omega), (by first | decide | omega), (by first | decide | omega), (by first | decide | omega), (by first | decide | omega), (by first | decide | omega), (by first | decide | omega)⟩⟩
    have q16 : ¬ (2147483649 ≠ 2147483648) := q16
    exfalso; omega
  have q6 : ¬ (a1 < 2147483650) := q6
  refine x_iload (np := 6) (x := 0) (by decide +kernel) rfl la1 ?_
  refine x_iload (np := 7) (x := 2) (by decide +kernel) rfl (by decide) ?_
  refine x_icmp (k := 4) (tg := 14) (np := 10) (by decide +kernel) (by decide) la1 (by decide) (fun q37 => ?_) (fun q38 => ?_)
  · have q37 : 2147483654 < a1 := q37
    refine x_const (np := 15) (x := 9223372039002259456) (a := 2147483648) (by decide +kernel) (by decide) (by decide) ?_
    refine x_retI (np := 16) (x := 0) (by decide +kernel) (by decide) (Or.inr ⟨by decide +kernel, by first | decide | omega, by first | decide | omega⟩) ⟨_, rfl, (by decide), ?_⟩
    refine x_ifz (k := 1) (tg := 20) (np := 16) (by decide +kernel) (by decide) (by decide) (fun q39 => ?_) (fun q40 => ?_)
    · have q39 : 2147483648 ≠ 2147483648 := q39
      exfalso; omega
    have q40 : ¬ (2147483648 ≠ 2147483648) := q40
    refine x_const (np := 17) (x := 9223372043297226753) (a := 2147483649) (by decide +kernel) (by decide) (by decide) ?_
    refine x_goto (np := 20) (x := 21) (by decide +kernel) ?_
    refine x_const (np := 22) (x := 9223372043297226753) (a := 2147483649) (by decide +kernel) (by decide) (by decide) ?_
    refine x_nI (t := 6) (mj := 152) (n := 3) (rc := 12) (ml := 3) (nr := 0) (np := 25) (as := [x_r 75, iv_c 2147483649, iv_c 2147483649]) (rest := []) (lo1 := [x_r 75, iv_c 2147483649, iv_c 2147483649]) (by decide +kernel) (by decide) (by decide +kernel) (x_rb_of (by decide +kernel)) rfl rfl (x_wr (by decide) (x_wi (by decide) (x_wi (by decide) x_wn))) x_wn (by decide) rfl ?_
    refine x_iload (np := 1) (x := 1) (by decide +kernel) rfl (by decide) ?_
    refine x_ifz (k := 0) (tg := 9) (np := 4) (by decide +kernel) (by decide) (by decide) (fun q41 => ?_) (fun q42 => ?_)
    · have q41 : 2147483649 = 2147483648 := q41
      exfalso; omega
    have q42 : ¬ (2147483649 = 2147483648) := q42
    refine x_aload (np := 5) (x := 0) (by decide +kernel) rfl (x_nc_le (by decide)) ?_
    refine x_iload (np := 6) (x := 2) (by decide +kernel) rfl (by decide) ?_
    refine x_putI (np := 9) (x := 704) (f := 0) (by decide +kernel) (by decide +kernel) (by decide) (Or.inl (by decide)) ?_
    have j44 := jU (e := 0) (v := 2147483649) 0 j2 rg_75_0_0_1 (by first | decide | omega) (by first | decide | omega) (by first | decide | omega)
    have f46 := jF (e := 0) (v := 2147483649) 0 f4 rg_75_0_0_1 (by first | decide | omega) (by first | decide | omega) (by decide)
    generalize e45 : x_up h1 75 0 2147483649 = h43 at j44 f46 ⊢
    refine x_iload (np := 10) (x := 1) (by decide +kernel) rfl (by decide) ?_
    refine x_retI (np := 11) (x := 0) (by decide +kernel) (by decide) (Or.inr ⟨by decide +kernel, by first | decide | omega, by first | decide | omega⟩) ⟨_, rfl, (by decide), ?_⟩
    refine x_ifz (k := 1) (tg := 50) (np := 28) (by decide +kernel) (by decide) (by decide) (fun q47 => ?_) (fun q48 => ?_)
    · have q47 : 2147483649 ≠ 2147483648 := q47
      have m50 : WT 76 h1 := by rw [← e3]; exact WT.oth hW hJ (by decide)
      have m49 : WT 76 h43 := by rw [← e45]; exact WT.oth m50 j2 (by decide)
      have q51 : h43 75 0 = 2147483649 := by rw [← e45]; exact x_up_at
      have b52 := jB (e := 0) 0 hJ rg_76_0_0_1 (by first | decide | omega) (by first | decide | omega)
      have q53 : h43 76 0 = h1 76 0 := by rw [← e45]; exact x_up_k (by decide)
      have q54 : h1 76 0 = h 76 0 := by rw [← e3]; exact x_up_k (by decide)
      have q55 : h43 76 1 = h1 76 1 := by rw [← e45]; exact x_up_k (by decide)
      have q56 : h1 76 1 = h 76 1 := by rw [← e3]; exact x_up_k (by decide)
      have b57 := jB (e := 2) 0 hJ rg_76_2_0_1 (by first | decide | omega) (by first | decide | omega)
      have q58 : h43 76 2 = h1 76 2 := by rw [← e45]; exact x_up_k (by decide)
      have q59 : h1 76 2 = h 76 2 := by rw [← e3]; exact x_up_k (by decide)
      have b60 := jB (e := 3) 0 hJ rg_76_3_0_1 (by first | decide | omega) (by first | decide | omega)
      have q61 : h43 76 3 = h1 76 3 := by rw [← e45]; exact x_up_k (by decide)
      have q62 : h1 76 3 = h 76 3 := by rw [← e3]; exact x_up_k (by decide)
      have b63 := jB (e := 4) 0 hJ rg_76_4_0_1 (by first | decide | omega) (by first | decide | omega)
      have q64 : h43 76 4 = h1 76 4 := by rw [← e45]; exact x_up_k (by decide)
      have q65 : h1 76 4 = h 76 4 := by rw [← e3]; exact x_up_k (by decide)
      have b66 := jB (e := 5) 0 hJ rg_76_5_0_1 (by first | decide | omega) (by first | decide | omega)
      have q67 : h43 76 5 = h1 76 5 := by rw [← e45]; exact x_up_k (by decide)
      have q68 : h1 76 5 = h 76 5 := by rw [← e3]; exact x_up_k (by decide)
      refine x_retV (np := 51) (x := 0) (by decide +kernel) (by decide +kernel) ⟨rfl, ?_⟩
      exact ⟨j44, f46, m49, ⟨(by first | decide | omega), (by first | decide | omega), (by first | decide | omega), (by first | decide | omega), (by first | decide | omega), (by first | decide | omega), (by first | decide | omega), (by first | decide | omega)⟩⟩
    have q48 : ¬ (2147483649 ≠ 2147483648) := q48
    exfalso; omega
  have q38 : ¬ (2147483654 < a1) := q38
  refine x_const (np := 11) (x := 9223372043297226753) (a := 2147483649) (by decide +kernel) (by decide) (by decide) ?_
  refine x_goto (np := 14) (x := 15) (by decide +kernel) ?_
  refine x_retI (np := 16) (x := 0) (by decide +kernel) (by decide) (Or.inr ⟨by decide +kernel, by first | decide | omega, by first | decide | omega⟩) ⟨_, rfl, (by decide), ?_⟩
  refine x_ifz (k := 1) (tg := 20) (np := 16) (by decide +kernel) (by decide) (by decide) (fun q69 => ?_) (fun q70 => ?_)
  · have q69 : 2147483649 ≠ 2147483648 := q69
    refine x_const (np := 21) (x := 9223372039002259456) (a := 2147483648) (by decide +kernel) (by decide) (by decide) ?_
    refine x_const (np := 22) (x := 9223372043297226753) (a := 2147483649) (by decide +kernel) (by decide) (by decide) ?_
    refine x_nI (t := 6) (mj := 152) (n := 3) (rc := 12) (ml := 3) (nr := 0) (np := 25) (as := [x_r 75, iv_c 2147483648, iv_c 2147483649]) (rest := []) (lo1 := [x_r 75, iv_c 2147483648, iv_c 2147483649]) (by decide +kernel) (by decide) (by decide +kernel) (x_rb_of (by decide +kernel)) rfl rfl (x_wr (by decide) (x_wi (by decide) (x_wi (by decide) x_wn))) x_wn (by decide) rfl ?_
    refine x_iload (np := 1) (x := 1) (by decide +kernel) rfl (by decide) ?_
    refine x_ifz (k := 0) (tg := 9) (np := 4) (by decide +kernel) (by decide) (by decide) (fun q71 => ?_) (fun q72 => ?_)
    · have q71 : 2147483648 = 2147483648 := q71
      refine x_iload (np := 10) (x := 1) (by decide +kernel) rfl (by decide) ?_
      refine x_retI (np := 11) (x := 0) (by decide +kernel) (by decide) (Or.inr ⟨by decide +kernel, by first | decide | omega, by first | decide | omega⟩) ⟨_, rfl, (by decide), ?_⟩
      refine x_ifz (k := 1) (tg := 50) (np := 28) (by decide +kernel) (by decide) (by decide) (fun q73 => ?_) (fun q74 => ?_)
      · have q73 : 2147483648 ≠ 2147483648 := q73
        exfalso; omega
      have q74 : ¬ (2147483648 ≠ 2147483648) := q74
      refine x_aload (np := 29) (x := 0) (by decide +kernel) rfl (x_nc_le (by decide)) ?_
      refine x_aload (np := 30) (x := 0) (by decide +kernel) rfl (x_nc_le (by decide)) ?_
      have q75 : h1 75 1 = 76 := by have z := jB (e := 1) 0 j2 rg_75_1_0_1 (by decide) (by decide); omega
      refine x_getR (np := 33) (x := 705) (f := 1) (q := 76) (by decide +kernel) (by decide) (by decide +kernel) q75 ?_
      refine x_const (np := 34) (x := 9223372043297226753) (a := 2147483649) (by decide +kernel) (by decide) (by decide) ?_
      have q76 : h1 76 1 = h 76 1 := by rw [← e3]; exact x_up_k (by decide)
      refine x_aldC (np := 35) (x := 0) (n := 1952) (i := 1) (q := (h 76 1)) (by decide +kernel) (by decide +kernel) (by first | decide | omega) (by first | decide | omega) (by decide) q76 (fun l77 => ?_)
      refine x_ifz (k := 5) (tg := 42) (np := 38) (by decide +kernel) (by decide) l77 (fun q78 => ?_) (fun q79 => ?_)
      · have q78 : (h 76 1) ≤ 2147483648 := q78
        refine x_const (np := 43) (x := 9223372039002259456) (a := 2147483648) (by decide +kernel) (by decide) (by decide) ?_
        refine x_const (np := 44) (x := 9223372047592194050) (a := 2147483650) (by decide +kernel) (by decide) (by decide) ?_
        refine x_nI (t := 6) (mj := 152) (n := 3) (rc := 12) (ml := 3) (nr := 0) (np := 47) (as := [x_r 75, iv_c 2147483648, iv_c 2147483650]) (rest := []) (lo1 := [x_r 75, iv_c 2147483648, iv_c 2147483650]) (by decide +kernel) (by decide) (by decide +kernel) (x_rb_of (by decide +kernel)) rfl rfl (x_wr (by decide) (x_wi (by decide) (x_wi (by decide) x_wn))) x_wn (by decide) rfl ?_
        refine x_iload (np := 1) (x := 1) (by decide +kernel) rfl (by decide) ?_
        refine x_ifz (k := 0) (tg := 9) (np := 4) (by decide +kernel) (by decide) (by decide) (fun q80 => ?_) (fun q81 => ?_)
        · have q80 : 2147483648 = 2147483648 := q80
          refine x_iload (np := 10) (x := 1) (by decide +kernel) rfl (by decide) ?_
          refine x_retI (np := 11) (x := 0) (by decide +kernel) (by decide) (Or.inr ⟨by decide +kernel, by first | decide | omega, by first | decide | omega⟩) ⟨_, rfl, (by decide), ?_⟩
          refine x_ifz (k := 0) (tg := 51) (np := 50) (by decide +kernel) (by decide) (by decide) (fun q82 => ?_) (fun q83 => ?_)
          · have q82 : 2147483648 = 2147483648 := q82
            refine x_aload (np := 52) (x := 0) (by decide +kernel) rfl (x_nc_le (by decide)) ?_
            have q84 : h1 75 1 = 76 := by have z := jB (e := 1) 0 j2 rg_75_1_0_1 (by decide) (by decide); omega
            refine x_getR (np := 55) (x := 705) (f := 1) (q := 76) (by decide +kernel) (by decide) (by decide +kernel) q84 ?_
            refine x_const (np := 56) (x := 9223372039002259456) (a := 2147483648) (by decide +kernel) (by decide) (by decide) ?_
            refine x_iload (np := 57) (x := 1) (by decide +kernel) rfl la1 ?_
            refine x_ast (np := 58) (x := 0) (kd := 1) (n := 1952) (i := 0) (by decide +kernel) (Or.inl rfl) (by decide +kernel) (by first | decide | omega) (by first | decide | omega) (by decide) la1 (fun z => absurd z (by decide)) ?_
            have j86 := jU (e := 0) (v := a1) 0 j2 rg_76_0_0_1 (by first | decide | omega) (by first | decide | omega) (by first | decide | omega)
            have f88 := jF (e := 0) (v := a1) 0 f4 rg_76_0_0_1 (by first | decide | omega) (by first | decide | omega) (by decide)
            generalize e87 : x_up h1 76 0 a1 = h85 at j86 f88 ⊢
            have m90 : WT 76 h1 := by rw [← e3]; exact WT.oth hW hJ (by decide)
            have m89 : WT 76 h85 := by rw [← e87]; exact WT.up m90 j2 (by first | decide | omega)
            have q91 : h85 75 0 = h1 75 0 := by rw [← e87]; exact x_up_k (by decide)
            have q92 : h1 75 0 = 2147483648 := by rw [← e3]; exact x_up_at
            have b93 := jB (e := 0) 0 hJ rg_76_0_0_1 (by first | decide | omega) (by first | decide | omega)
            have q94 : h85 76 0 = a1 := by rw [← e87]; exact x_up_at
            have q95 : h85 76 1 = h1 76 1 := by rw [← e87]; exact x_up_i (by first | decide | omega)
            have q96 : h1 76 1 = h 76 1 := by rw [← e3]; exact x_up_k (by decide)
            have b97 := jB (e := 2) 0 hJ rg_76_2_0_1 (by first | decide | omega) (by first | decide | omega)
            have q98 : h85 76 2 = h1 76 2 := by rw [← e87]; exact x_up_i (by first | decide | omega)
            have q99 : h1 76 2 = h 76 2 := by rw [← e3]; exact x_up_k (by decide)
            have b100 := jB (e := 3) 0 hJ rg_76_3_0_1 (by first | decide | omega) (by first | decide | omega)
            have q101 : h85 76 3 = h1 76 3 := by rw [← e87]; exact x_up_i (by first | decide | omega)
            have q102 : h1 76 3 = h 76 3 := by rw [← e3]; exact x_up_k (by decide)
            have b103 := jB (e := 4) 0 hJ rg_76_4_0_1 (by first | decide | omega) (by first | decide | omega)
            have q104 : h85 76 4 = h1 76 4 := by rw [← e87]; exact x_up_i (by first | decide | omega)
            have q105 : h1 76 4 = h 76 4 := by rw [← e3]; exact x_up_k (by decide)
            have b106 := jB (e := 5) 0 hJ rg_76_5_0_1 (by first | decide | omega) (by first | decide | omega)
            have q107 : h85 76 5 = h1 76 5 := by rw [← e87]; exact x_up_i (by first | decide | omega)
            have q108 : h1 76 5 = h 76 5 := by rw [← e3]; exact x_up_k (by decide)
            refine x_retV (np := 59) (x := 0) (by decide +kernel) (by decide +kernel) ⟨rfl, ?_⟩
            exact ⟨j86, f88, m89, ⟨(by first | decide | omega), (by first | decide | omega), (by first | decide | omega), (by first | decide | omega), (by first | decide | omega), (by first | decide | omega), (by first | decide | omega), (by first | decide | omega)⟩⟩
          have q83 : ¬ (2147483648 = 2147483648) := q83
          exfalso; omega
        have q81 : ¬ (2147483648 = 2147483648) := q81
        exfalso; omega
      have q79 : ¬ ((h 76 1) ≤ 2147483648) := q79
      refine x_const (np := 39) (x := 9223372043297226753) (a := 2147483649) (by decide +kernel) (by decide) (by decide) ?_
      refine x_goto (np := 42) (x := 43) (by decide +kernel) ?_
      refine x_const (np := 44) (x := 9223372047592194050) (a := 2147483650) (by decide +kernel) (by decide) (by decide) ?_
      refine x_nI (t := 6) (mj := 152) (n := 3) (rc := 12) (ml := 3) (nr := 0) (np := 47) (as := [x_r 75, iv_c 2147483649, iv_c 2147483650]) (rest := []) (lo1 := [x_r 75, iv_c 2147483649, iv_c 2147483650]) (by decide +kernel) (by decide) (by decide +kernel) (x_rb_of (by decide +kernel)) rfl rfl (x_wr (by decide) (x_wi (by decide) (x_wi (by decide) x_wn))) x_wn (by decide) rfl ?_
      refine x_iload (np := 1) (x := 1) (by decide +kernel) rfl (by decide) ?_
      refine x_ifz (k := 0) (tg := 9) (np := 4) (by decide +kernel) (by decide) (by decide) (fun q109 => ?_) (fun q110 => ?_)
      · have q109 : 2147483649 = 2147483648 := q109
        exfalso; omega
      have q110 : ¬ (2147483649 = 2147483648) := q110
      refine x_aload (np := 5) (x := 0) (by decide +kernel) rfl (x_nc_le (by decide)) ?_
      refine x_iload (np := 6) (x := 2) (by decide +kernel) rfl (by decide) ?_
      refine x_putI (np := 9) (x := 704) (f := 0) (by decide +kernel) (by decide +kernel) (by decide) (Or.inl (by decide)) ?_
      have j112 := jU (e := 0) (v := 2147483650) 0 j2 rg_75_0_0_1 (by first | decide | omega) (by first | decide | omega) (by first | decide | omega)
      have f114 := jF (e := 0) (v := 2147483650) 0 f4 rg_75_0_0_1 (by first | decide | omega) (by first | decide | omega) (by decide)
      generalize e113 : x_up h1 75 0 2147483650 = h111 at j112 f114 ⊢
      refine x_iload (np := 10) (x := 1) (by decide +kernel) rfl (by decide) ?_
      refine x_retI (np := 11) (x := 0) (by decide +kernel) (by decide) (Or.inr ⟨by decide +kernel, by first | decide | omega, by first | decide | omega⟩) ⟨_, rfl, (by decide), ?_⟩
      refine x_ifz (k := 0) (tg := 51) (np := 50) (by decide +kernel) (by decide) (by decide) (fun q115 => ?_) (fun q116 => ?_)
      · have q115 : 2147483649 = 2147483648 := q115
        exfalso; omega
      have q116 : ¬ (2147483649 = 2147483648) := q116
      have m118 : WT 76 h1 := by rw [← e3]; exact WT.oth hW hJ (by decide)
      have m117 : WT 76 h111 := by rw [← e113]; exact WT.oth m118 j2 (by decide)
      have q119 : h111 75 0 = 2147483650 := by rw [← e113]; exact x_up_at
      have b120 := jB (e := 0) 0 hJ rg_76_0_0_1 (by first | decide | omega) (by first | decide | omega)
      have q121 : h111 76 0 = h1 76 0 := by rw [← e113]; exact x_up_k (by decide)
      have q122 : h1 76 0 = h 76 0 := by rw [← e3]; exact x_up_k (by decide)
      have q123 : h111 76 1 = h1 76 1 := by rw [← e113]; exact x_up_k (by decide)
      have q124 : h1 76 1 = h 76 1 := by rw [← e3]; exact x_up_k (by decide)
      have b125 := jB (e := 2) 0 hJ rg_76_2_0_1 (by first | decide | omega) (by first | decide | omega)
      have q126 : h111 76 2 = h1 76 2 := by rw [← e113]; exact x_up_k (by decide)
      have q127 : h1 76 2 = h 76 2 := by rw [← e3]; exact x_up_k (by decide)
      have b128 := jB (e := 3) 0 hJ rg_76_3_0_1 (by first | decide | omega) (by first | decide | omega)
      have q129 : h111 76 3 = h1 76 3 := by rw [← e113]; exact x_up_k (by decide)
      have q130 : h1 76 3 = h 76 3 := by rw [← e3]; exact x_up_k (by decide)
      have b131 := jB (e := 4) 0 hJ rg_76_4_0_1 (by first | decide | omega) (by first | decide | omega)
      have q132 : h111 76 4 = h1 76 4 := by rw [← e113]; exact x_up_k (by decide)
      have q133 : h1 76 4 = h 76 4 := by rw [← e3]; exact x_up_k (by decide)
      have b134 := jB (e := 5) 0 hJ rg_76_5_0_1 (by first | decide | omega) (by first | decide | omega)
      have q135 : h111 76 5 = h1 76 5 := by rw [← e113]; exact x_up_k (by decide)
      have q136 : h1 76 5 = h 76 5 := by rw [← e3]; exact x_up_k (by decide)
      refine x_retV (np := 51) (x := 0) (by decide +kernel) (by decide +kernel) ⟨rfl, ?_⟩
      exact ⟨j112, f114, m117, ⟨(by first | decide | omega), (by first | decide | omega), (by first | decide | omega), (by first | decide | omega), (by first | decide | omega), (by first | decide | omega), (by first | decide | omega), (by first | decide | omega)⟩⟩
    have q72 : ¬ (2147483648 = 2147483648) := q72
    exfalso; omega
  have q70 : ¬ (2147483649 ≠ 2147483648) := q70
  exfalso; omega
set_option maxHeartbeats 0 in
/-- LentNamesModel.endsTo(III)V -/
theorem c205_75 {sc : Nat × Nat} {d a1 a2 a3 n0 : Nat} {h : xh} (hJ : J h) (ba1 : 2147483648 ≤ a1 ∧ a1 ≤ 2147483653) (ba2 : 2147483648 ≤ a2 ∧ a2 ≤ 2147483668) (ba3 : 2147483648 ≤ a3 ∧ a3 ≤ 2147483659) (hM : MB 6 n0 h) : X sc 205 d (xV fun h' => J h' ∧ Fr 42949672961 h h' ∧ MB 6 n0 h' ∧ (∀ u, a1 = 2147483648 + u → h' 83 u ≤ a2)) 0 0 0 [x_r 75, iv_c a1, iv_c a2, iv_c a3] [] h := by
  have la1 : a1 < 4294967296 := by first | decide | omega
  have la2 : a2 < 4294967296 := by first | decide | omega
  have la3 : a3 < 4294967296 := by first | decide | omega
  have hF := Fr.refl 42949672961 h
  obtain ⟨u1, q2⟩ : ∃ z, a1 = 2147483648 + z := ⟨a1 - 2147483648, by first | decide | omega⟩
  have p78 : ∀ (n : Nat) (h75 : xh), h75 83 u1 < n → J h75 → Fr 42949672960 h h75 → MB 6 n0 h75 → X sc 205 d (xV fun h' => J h' ∧ Fr 42949672961 h h' ∧ MB 6 n0 h' ∧ (∀ u, a1 = 2147483648 + u → h' 83 u ≤ a2)) 0 0 0 [x_r 75, iv_c a1, iv_c a2, iv_c a3] [] h75 := by
    intro n
    induction n with
    | zero => intro h75 q80; exact absurd q80 (Nat.not_lt_zero _)
    | succ n i81 =>
      intro h75 q80 j77 f76 m79
      have f82 := Fr.trans hF f76 (by decide)
      refine x_aload (np := 1) (x := 0) (by decide +kernel) rfl (x_nc_le (by decide)) ?_
      have q83 : h75 75 16 = 83 := by have z := jB (e := 16) 0 j77 rg_75_16_0_1 (by decide) (by decide); omega
      refine x_getR (np := 4) (x := 720) (f := 16) (q := 83) (by decide +kernel) (by decide) (by decide +kernel) q83 ?_
      refine x_iload (np := 5) (x := 1) (by decide +kernel) rfl la1 ?_
      have b84 := jB (e := u1) u1 j77 rg_83_0_1_6 (by first | decide | omega) (by first | decide | omega)
      refine x_aldC (np := 6) (x := 0) (n := 6) (i := u1) (q := (h75 83 u1)) (by decide +kernel) (by decide +kernel) (by first | decide | omega) (by first | decide | omega) (by decide) rfl (fun l85 => ?_)
      refine x_iload (np := 7) (x := 2) (by decide +kernel) rfl la2 ?_
      refine x_icmp (k := 5) (tg := 45) (np := 10) (by decide +kernel) (by decide) l85 la2 (fun q86 => ?_) (fun q87 => ?_)
      · have q86 : (h75 83 u1) ≤ a2 := q86
        refine x_retV (np := 46) (x := 0) (by decide +kernel) (by decide +kernel) ⟨rfl, ?_⟩
        have p88 : ∀ u, a1 = 2147483648 + u → h75 83 u ≤ a2 := fun u e => by
          have z : u = u1 := by first | decide | omega
          rw [z]
          omega
        exact ⟨j77, f82, m79, p88⟩
      have q87 : ¬ ((h75 83 u1) ≤ a2) := q87
      refine x_aload (np := 11) (x := 0) (by decide +kernel) rfl (x_nc_le (by decide)) ?_
      have q89 : h75 75 16 = 83 := by have z := jB (e := 16) 0 j77 rg_75_16_0_1 (by decide) (by decide); omega
      refine x_getR (np := 14) (x := 720) (f := 16) (q := 83) (by decide +kernel) (by decide) (by decide +kernel) q89 ?_
      refine x_iload (np := 15) (x := 1) (by decide +kernel) rfl la1 ?_
      refine x_dup2 (np := 16) (x := 0) (by decide +kernel) (by have z := (iw_c_lt (a := a1) la1).1; omega) (by have z := x_nc_le (k := 83) (by decide); unfold x_r; omega) ?_
      refine x_aldC (np := 17) (x := 0) (n := 6) (i := u1) (q := (h75 83 u1)) (by decide +kernel) (by decide +kernel) (by first | decide | omega) (by first | decide | omega) (by decide) rfl (fun l90 => ?_)
      refine x_const (np := 18) (x := 9223372043297226753) (a := 2147483649) (by decide +kernel) (by decide) (by decide) ?_
      obtain ⟨v91, q92⟩ : ∃ z, z + 2147483649 = (h75 83 u1) + 2147483648 := ⟨(h75 83 u1) + 2147483648 - 2147483649, by first | decide | omega⟩
      refine x_isub (np := 19) (x := 0) (v := v91) (by decide +kernel) l85 (by decide) (by first | decide | omega) (by first | decide | omega) ?_
      refine x_ast (np := 20) (x := 0) (kd := 1) (n := 6) (i := u1) (by decide +kernel) (Or.inl rfl) (by decide +kernel) (by first | decide | omega) (by first | decide | omega) (by decide) (by first | decide | omega) (fun z => absurd z (by decide)) ?_
      have j94 := jU (e := u1) (v := v91) u1 j77 rg_83_0_1_6 (by first | decide | omega) (by first | decide | omega) (by first | decide | omega)
      have f96 := jF (e := u1) (v := v91) u1 f82 rg_83_0_1_6 (by first | decide | omega) (by first | decide | omega) (by decide)
      have f97 := jF (e := u1) (v := v91) u1 f76 rg_83_0_1_6 (by first | decide | omega) (by first | decide | omega) (by decide)
      have m98 := MB.up (e := u1) (v := v91) m79 (by have z := m79 u1 (by first | decide | omega); omega)
      generalize e95 : x_up h75 83 u1 v91 = h93 at j94 f96 f97 m98 ⊢
      refine x_aload (np := 21) (x := 0) (by decide +kernel) rfl (x_nc_le (by decide)) ?_
      have q99 : h93 75 22 = 89 := by have z := jB (e := 22) 0 j94 rg_75_22_0_1 (by decide) (by decide); omega
      refine x_getR (np := 24) (x := 726) (f := 22) (q := 89) (by decide +kernel) (by decide) (by decide +kernel) q99 ?_
      refine x_aload (np := 25) (x := 0) (by decide +kernel) rfl (x_nc_le (by decide)) ?_
      have q100 : h93 75 17 = 84 := by have z := jB (e := 17) 0 j94 rg_75_17_0_1 (by decide) (by decide); omega
      refine x_getR (np := 28) (x := 721) (f := 17) (q := 84) (by decide +kernel) (by decide) (by decide +kernel) q100 ?_
      refine x_const (np := 30) (x := 9223372124901605396) (a := 2147483668) (by decide +kernel) (by decide) (by decide) ?_
      refine x_iload (np := 31) (x := 1) (by decide +kernel) rfl la1 ?_
      refine x_imul (np := 32) (x := 0) (i := 20) (j := u1) (v := (2147483648 + 20 * u1)) (by decide +kernel) (by first | decide | omega) (by first | decide | omega) (by first | decide | omega) (by first | decide | omega) (by decide) la1 ?_
      refine x_aload (np := 33) (x := 0) (by decide +kernel) rfl (x_nc_le (by decide)) ?_
      have q102 : h93 75 16 = 83 := by have z := jB (e := 16) 0 j94 rg_75_16_0_1 (by decide) (by decide); omega
      refine x_getR (np := 36) (x := 720) (f := 16) (q := 83) (by decide +kernel) (by decide) (by decide +kernel) q102 ?_
      refine x_iload (np := 37) (x := 1) (by decide +kernel) rfl la1 ?_
      have q103 : h93 83 u1 = v91 := by rw [← e95]; exact x_up_at
      refine x_aldC (np := 38) (x := 0) (n := 6) (i := u1) (q := v91) (by decide +kernel) (by decide +kernel) (by first | decide | omega) (by first | decide | omega) (by decide) q103 (fun l104 => ?_)
      refine x_iadd (np := 39) (x := 0) (v := (20 * u1 + v91)) (by decide +kernel) (by first | decide | omega) l104 (by first | decide | omega) (by first | decide | omega) ?_
      obtain ⟨u105, q106⟩ : ∃ z, v91 = 2147483648 + z := ⟨v91 - 2147483648, by first | decide | omega⟩
      have q107 : h93 84 (20 * u1 + u105) = h75 84 (20 * u1 + u105) := by rw [← e95]; exact x_up_k (by decide)
      have q108 : h75 84 (20 * u1 + u105) = h 84 (20 * u1 + u105) := jK (20 * u1 + u105) f76 rg_84_0_1_120 (by first | decide | omega) (by first | decide | omega) (by decide)
      have b109 := jB (e := (20 * u1 + u105)) (20 * u1 + u105) hJ rg_84_0_1_120 (by first | decide | omega) (by first | decide | omega)
      refine x_aldC (np := 40) (x := 0) (n := 120) (i := (20 * u1 + u105)) (q := ((h 84 (20 * u1 + u105)))) (by decide +kernel) (by decide +kernel) (by first | decide | omega) (by first | decide | omega) (by decide) (q107.trans q108) (fun l110 => ?_)
      refine x_iload (np := 41) (x := 3) (by decide +kernel) rfl la3 ?_
      obtain ⟨u111, q112⟩ : ∃ z, ((h 84 (20 * u1 + u105))) = 2147483648 + z := ⟨((h 84 (20 * u1 + u105))) - 2147483648, by first | decide | omega⟩
      refine x_ast (np := 42) (x := 0) (kd := 1) (n := 20) (i := u111) (by decide +kernel) (Or.inl rfl) (by decide +kernel) (by first | decide | omega) (by first | decide | omega) (by decide) la3 (fun z => absurd z (by decide)) ?_
      have j114 := jU (e := u111) (v := a3) u111 j94 rg_89_0_1_20 (by first | decide | omega) (by first | decide | omega) (by first | decide | omega)
      have f116 := jF (e := u111) (v := a3) u111 f96 rg_89_0_1_20 (by first | decide | omega) (by first | decide | omega) (by decide)
      have f117 := jF (e := u111) (v := a3) u111 f97 rg_89_0_1_20 (by first | decide | omega) (by first | decide | omega) (by decide)
      have m118 := MB.oth (q := 89) (e := u111) (v := a3) m98 (by decide)
      generalize e115 : x_up h93 89 u111 a3 = h113 at j114 f116 f117 m118 ⊢
      refine x_goto (np := 45) (x := 0) (by decide +kernel) ?_
      have q119 : h113 83 u1 = h93 83 u1 := by rw [← e115]; exact x_up_k (by decide)
      have q120 : h93 83 u1 = v91 := by rw [← e95]; exact x_up_at
      exact i81  h113 (by first | decide | omega) j114 f117 m118
  exact p78 _  h (Nat.lt_succ_self _) hJ (Fr.refl _ _) hM
set_option maxHeartbeats 0 in
/-- LentNamesModel.ends(II)V -/
theorem c206_75 {sc : Nat × Nat} {d a1 a2 n0 : Nat} {h : xh} (hJ : J h) (ba1 : 2147483648 ≤ a1 ∧ a1 ≤ 2147483653) (ba2 : 2147483648 ≤ a2 ∧ a2 ≤ 2147483659) (hM : MB 6 n0 h) : X sc 206 (d + 2) (xV fun h' => J h' ∧ Fr 42949672961 h h' ∧ MB 6 n0 h') 0 0 0 [x_r 75, iv_c a1, iv_c a2, 147573952589676412928] [] h := by
  have la1 : a1 < 4294967296 := by first | decide | omega
  have la2 : a2 < 4294967296 := by first | decide | omega
  have hF := Fr.refl 42949672961 h
  refine x_const (np := 1) (x := 9223372039002259456) (a := 2147483648) (by decide +kernel) (by decide) (by decide) ?_
  refine x_istore (np := 2) (x := 3) (lo' := [x_r 75, iv_c a1, iv_c a2, iv_c 2147483648]) (by decide +kernel) (by decide) (Nat.le_of_ble_eq_true rfl) rfl ?_
  have p513 : ∀ (n : Nat) (v511 : Nat), 4294967296 - v511 < n → (2147483648 ≤ v511 ∧ v511 ≤ 2147483668) → X sc 206 (d + 2) (xV fun h' => J h' ∧ Fr 42949672961 h h' ∧ MB 6 n0 h') 0 0 2 [x_r 75, iv_c a1, iv_c a2, iv_c v511] [] h := by
    intro n
    induction n with
    | zero => intro v511 q514; exact absurd q514 (Nat.not_lt_zero _)
    | succ n i515 =>
      intro v511 q514 b512
      refine x_iload (np := 3) (x := 3) (by decide +kernel) rfl (by first | decide | omega) ?_
      refine x_aload (np := 4) (x := 0) (by decide +kernel) rfl (x_nc_le (by decide)) ?_
      have q516 : h 75 16 = 83 := by have z := jB (e := 16) 0 hJ rg_75_16_0_1 (by decide) (by decide); omega
      refine x_getR (np := 7) (x := 720) (f := 16) (q := 83) (by decide +kernel) (by decide) (by decide +kernel) q516 ?_
      refine x_iload (np := 8) (x := 1) (by decide +kernel) rfl la1 ?_
      obtain ⟨u517, q518⟩ : ∃ z, a1 = 2147483648 + z := ⟨a1 - 2147483648, by first | decide | omega⟩
      have b519 := jB (e := u517) u517 hJ rg_83_0_1_6 (by first | decide | omega) (by first | decide | omega)
      refine x_aldC (np := 9) (x := 0) (n := 6) (i := u517) (q := (h 83 u517)) (by decide +kernel) (by decide +kernel) (by first | decide | omega) (by first | decide | omega) (by decide) rfl (fun l520 => ?_)
      refine x_icmp (k := 3) (tg := 37) (np := 12) (by decide +kernel) (by decide) (by first | decide | omega) l520 (fun q521 => ?_) (fun q522 => ?_)
      · have q521 : (h 83 u517) ≤ v511 := q521
        refine x_aload (np := 38) (x := 0) (by decide +kernel) rfl (x_nc_le (by decide)) ?_
        refine x_iload (np := 39) (x := 1) (by decide +kernel) rfl la1 ?_
        refine x_iload (np := 40) (x := 3) (by decide +kernel) rfl (by first | decide | omega) ?_
        refine x_iload (np := 41) (x := 2) (by decide +kernel) rfl la2 ?_
        refine x_cV (t := 6) (mj := 205) (n := 4) (rc := 12) (ml := 4) (nr := 0) (np := 44) (as := [x_r 75, iv_c a1, iv_c v511, iv_c a2]) (rest := []) (lo1 := [x_r 75, iv_c a1, iv_c v511, iv_c a2]) (by decide +kernel) (by decide) (by decide +kernel) (x_rb_of (by decide +kernel)) rfl rfl (x_wr (by decide) (x_wi la1 (x_wi (by first | decide | omega) (x_wi la2 x_wn)))) x_wn (by decide) rfl (c205_75 (n0 := n0) hJ  (by first | decide | omega) (by first | decide | omega) (by first | decide | omega)  hM) (fun h526 q525 => ?_)
        obtain ⟨j527, f528, m530, p529⟩ := q525
        have b531 := p529 u517 (by first | decide | omega)
        have f532 := Fr.trans hF f528 (by decide)
        refine x_retV (np := 45) (x := 0) (by decide +kernel) (by decide +kernel) ⟨rfl, ?_⟩
        exact ⟨j527, f532, m530⟩
      have q522 : ¬ ((h 83 u517) ≤ v511) := q522
      refine x_aload (np := 13) (x := 0) (by decide +kernel) rfl (x_nc_le (by decide)) ?_
      refine x_aload (np := 14) (x := 0) (by decide +kernel) rfl (x_nc_le (by decide)) ?_
      have q533 : h 75 17 = 84 := by have z := jB (e := 17) 0 hJ rg_75_17_0_1 (by decide) (by decide); omega
      refine x_getR (np := 17) (x := 721) (f := 17) (q := 84) (by decide +kernel) (by decide) (by decide +kernel) q533 ?_
      refine x_const (np := 19) (x := 9223372124901605396) (a := 2147483668) (by decide +kernel) (by decide) (by decide) ?_
      refine x_iload (np := 20) (x := 1) (by decide +kernel) rfl la1 ?_
      refine x_imul (np := 21) (x := 0) (i := 20) (j := u517) (v := (2147483648 + 20 * u517)) (by decide +kernel) (by first | decide | omega) (by first | decide | omega) (by first | decide | omega) (by first | decide | omega) (by decide) la1 ?_
      refine x_iload (np := 22) (x := 3) (by decide +kernel) rfl (by first | decide | omega) ?_
      refine x_iadd (np := 23) (x := 0) (v := (20 * u517 + v511)) (by decide +kernel) (by first | decide | omega) (by first | decide | omega) (by first | decide | omega) (by first | decide | omega) ?_
      obtain ⟨u535, q536⟩ : ∃ z, v511 = 2147483648 + z := ⟨v511 - 2147483648, by first | decide | omega⟩
      have b537 := jB (e := (20 * u517 + u535)) (20 * u517 + u535) hJ rg_84_0_1_120 (by first | decide | omega) (by first | decide | omega)
      refine x_aldC (np := 24) (x := 0) (n := 120) (i := (20 * u517 + u535)) (q := ((h 84 (20 * u517 + u535)))) (by decide +kernel) (by decide +kernel) (by first | decide | omega) (by first | decide | omega) (by decide) rfl (fun l538 => ?_)
      refine x_nI (t := 6) (mj := 201) (n := 2) (rc := 12) (ml := 2) (nr := 0) (np := 27) (as := [x_r 75, iv_c ((h 84 (20 * u517 + u535)))]) (rest := []) (lo1 := [x_r 75, iv_c ((h 84 (20 * u517 + u535)))]) (by decide +kernel) (by decide) (by decide +kernel) (x_rb_of (by decide +kernel)) rfl rfl (x_wr (by decide) (x_wi l538 x_wn)) x_wn (by decide) rfl ?_
      refine x_aload (np := 1) (x := 0) (by decide +kernel) rfl (x_nc_le (by decide)) ?_
      refine x_iload (np := 2) (x := 1) (by decide +kernel) rfl l538 ?_
      refine x_const (np := 3) (x := 9223372047592194050) (a := 2147483650) (by decide +kernel) (by decide) (by decide) ?_
      refine x_nI (t := 6) (mj := 161) (n := 3) (rc := 12) (ml := 3) (nr := 0) (np := 6) (as := [x_r 75, iv_c ((h 84 (20 * u517 + u535))), iv_c 2147483650]) (rest := []) (lo1 := [x_r 75, iv_c ((h 84 (20 * u517 + u535))), iv_c 2147483650]) (by decide +kernel) (by decide) (by decide +kernel) (x_rb_of (by decide +kernel)) rfl rfl (x_wr (by decide) (x_wi l538 (x_wi (by decide) x_wn))) x_wn (by decide) rfl ?_
      refine x_aload (np := 1) (x := 0) (by decide +kernel) rfl (x_nc_le (by decide)) ?_
      have q539 : h 75 1 = 76 := by have z := jB (e := 1) 0 hJ rg_75_1_0_1 (by decide) (by decide); omega
      refine x_getR (np := 4) (x := 705) (f := 1) (q := 76) (by decide +kernel) (by decide) (by decide +kernel) q539 ?_
      refine x_const (np := 6) (x := 9223372124901605396) (a := 2147483668) (by decide +kernel) (by decide) (by decide) ?_
      refine x_const (np := 8) (x := 9223372069067030535) (a := 2147483655) (by decide +kernel) (by decide) (by decide) ?_
      refine x_iload (np := 9) (x := 1) (by decide +kernel) rfl l538 ?_
      obtain ⟨u540, q541⟩ : ∃ z, ((h 84 (20 * u517 + u535))) = 2147483648 + z := ⟨((h 84 (20 * u517 + u535))) - 2147483648, by first | decide | omega⟩
      refine x_imul (np := 10) (x := 0) (i := 7) (j := u540) (v := (2147483648 + 7 * u540)) (by decide +kernel) (by first | decide | omega) (by first | decide | omega) (by first | decide | omega) (by first | decide | omega) (by decide) l538 ?_
      refine x_iadd (np := 11) (x := 0) (v := (2147483668 + 7 * u540)) (by decide +kernel) (by decide) (by first | decide | omega) (by first | decide | omega) (by first | decide | omega) ?_
      refine x_iload (np := 12) (x := 2) (by decide +kernel) rfl (by decide) ?_
      refine x_iadd (np := 13) (x := 0) (v := (2147483670 + 7 * u540)) (by decide +kernel) (by first | decide | omega) (by decide) (by first | decide | omega) (by first | decide | omega) ?_
      refine x_aldC (np := 14) (x := 0) (n := 1952) (i := (22 + 7 * u540)) (q := ((h 76 (22 + 7 * u540)))) (by decide +kernel) (by decide +kernel) (by first | decide | omega) (by first | decide | omega) (by decide) rfl (fun l543 => ?_)
      refine x_retI (np := 15) (x := 0) (by decide +kernel) l543 (Or.inl (by decide +kernel)) ⟨_, rfl, l543, ?_⟩
      refine x_aload (np := 7) (x := 0) (by decide +kernel) rfl (x_nc_le (by decide)) ?_
      refine x_iload (np := 8) (x := 1) (by decide +kernel) rfl l538 ?_
      refine x_const (np := 9) (x := 9223372051887161347) (a := 2147483651) (by decide +kernel) (by decide) (by decide) ?_
      refine x_nI (t := 6) (mj := 161) (n := 3) (rc := 12) (ml := 3) (nr := 1) (np := 12) (as := [x_r 75, iv_c ((h 84 (20 * u517 + u535))), iv_c 2147483651]) (rest := [iv_c ((h 76 (22 + 7 * u540)))]) (lo1 := [x_r 75, iv_c ((h 84 (20 * u517 + u535))), iv_c 2147483651]) (by decide +kernel) (by decide) (by decide +kernel) (x_rb_of (by decide +kernel)) rfl rfl (x_wr (by decide) (x_wi l538 (x_wi (by decide) x_wn))) (x_wi l543 x_wn) (by decide) rfl ?_
      refine x_aload (np := 1) (x := 0) (by decide +kernel) rfl (x_nc_le (by decide)) ?_
      have q544 : h 75 1 = 76 := by have z := jB (e := 1) 0 hJ rg_75_1_0_1 (by decide) (by decide); omega
      refine x_getR (np := 4) (x := 705) (f := 1) (q := 76) (by decide +kernel) (by decide) (by decide +kernel) q544 ?_
      refine x_const (np := 6) (x := 9223372124901605396) (a := 2147483668) (by decide +kernel) (by decide) (by decide) ?_
      refine x_const (np := 8) (x := 9223372069067030535) (a := 2147483655) (by decide +kernel) (by decide) (by decide) ?_
      refine x_iload (np := 9) (x := 1) (by decide +kernel) rfl l538 ?_
      refine x_imul (np := 10) (x := 0) (i := 7) (j := u540) (v := (2147483648 + 7 * u540)) (by decide +kernel) (by first | decide | omega) (by first | decide | omega) (by first | decide | omega) (by first | decide | omega) (by decide) l538 ?_
      refine x_iadd (np := 11) (x := 0) (v := (2147483668 + 7 * u540)) (by decide +kernel) (by decide) (by first | decide | omega) (by first | decide | omega) (by first | decide | omega) ?_
      refine x_iload (np := 12) (x := 2) (by decide +kernel) rfl (by decide) ?_
      refine x_iadd (np := 13) (x := 0) (v := (2147483671 + 7 * u540)) (by decide +kernel) (by first | decide | omega) (by decide) (by first | decide | omega) (by first | decide | omega) ?_
      refine x_aldC (np := 14) (x := 0) (n := 1952) (i := (23 + 7 * u540)) (q := ((h 76 (23 + 7 * u540)))) (by decide +kernel) (by decide +kernel) (by first | decide | omega) (by first | decide | omega) (by decide) rfl (fun l546 => ?_)
      refine x_retI (np := 15) (x := 0) (by decide +kernel) l546 (Or.inl (by decide +kernel)) ⟨_, rfl, l546, ?_⟩
      refine x_addA (by rw [tb_b201]; decide +kernel) l543 l546 (fun v547 l548 => ?_)
      refine x_const (np := 14) (x := 9223372043297226753) (a := 2147483649) (by decide +kernel) (by decide) (by decide) ?_
      refine x_subA (by rw [tb_b201]; decide +kernel) l548 (by decide) (fun v549 l550 => ?_)
      refine x_aload (np := 16) (x := 0) (by decide +kernel) rfl (x_nc_le (by decide)) ?_
      refine x_iload (np := 17) (x := 1) (by decide +kernel) rfl l538 ?_
      refine x_const (np := 19) (x := 9223372064772063238) (a := 2147483654) (by decide +kernel) (by decide) (by decide) ?_
      refine x_nI (t := 6) (mj := 161) (n := 3) (rc := 12) (ml := 3) (nr := 1) (np := 22) (as := [x_r 75, iv_c ((h 84 (20 * u517 + u535))), iv_c 2147483654]) (rest := [iv_c v549]) (lo1 := [x_r 75, iv_c ((h 84 (20 * u517 + u535))), iv_c 2147483654]) (by decide +kernel) (by decide) (by decide +kernel) (x_rb_of (by decide +kernel)) rfl rfl (x_wr (by decide) (x_wi l538 (x_wi (by decide) x_wn))) (x_wi l550 x_wn) (by decide) rfl ?_
      refine x_aload (np := 1) (x := 0) (by decide +kernel) rfl (x_nc_le (by decide)) ?_
      have q551 : h 75 1 = 76 := by have z := jB (e := 1) 0 hJ rg_75_1_0_1 (by decide) (by decide); omega
      refine x_getR (np := 4) (x := 705) (f := 1) (q := 76) (by decide +kernel) (by decide) (by decide +kernel) q551 ?_
      refine x_const (np := 6) (x := 9223372124901605396) (a := 2147483668) (by decide +kernel) (by decide) (by decide) ?_
      refine x_const (np := 8) (x := 9223372069067030535) (a := 2147483655) (by decide +kernel) (by decide) (by decide) ?_
      refine x_iload (np := 9) (x := 1) (by decide +kernel) rfl l538 ?_
      refine x_imul (np := 10) (x := 0) (i := 7) (j := u540) (v := (2147483648 + 7 * u540)) (by decide +kernel) (by first | decide | omega) (by first | decide | omega) (by first | decide | omega) (by first | decide | omega) (by decide) l538 ?_
      refine x_iadd (np := 11) (x := 0) (v := (2147483668 + 7 * u540)) (by decide +kernel) (by decide) (by first | decide | omega) (by first | decide | omega) (by first | decide | omega) ?_
      refine x_iload (np := 12) (x := 2) (by decide +kernel) rfl (by decide) ?_
      refine x_iadd (np := 13) (x := 0) (v := (2147483674 + 7 * u540)) (by decide +kernel) (by first | decide | omega) (by decide) (by first | decide | omega) (by first | decide | omega) ?_
      refine x_aldC (np := 14) (x := 0) (n := 1952) (i := (26 + 7 * u540)) (q := ((h 76 (26 + 7 * u540)))) (by decide +kernel) (by decide +kernel) (by first | decide | omega) (by first | decide | omega) (by decide) rfl (fun l553 => ?_)
      refine x_retI (np := 15) (x := 0) (by decide +kernel) l553 (Or.inl (by decide +kernel)) ⟨_, rfl, l553, ?_⟩
      refine x_addA (by rw [tb_b201]; decide +kernel) l550 l553 (fun v554 l555 => ?_)
      refine x_retI (np := 24) (x := 0) (by decide +kernel) l555 (Or.inl (by decide +kernel)) ⟨_, rfl, l555, ?_⟩
      refine x_iload (np := 28) (x := 2) (by decide +kernel) rfl la2 ?_
      refine x_icmp (k := 2) (tg := 37) (np := 31) (by decide +kernel) (by decide) l555 la2 (fun q556 => ?_) (fun q557 => ?_)
      · have q556 : v554 < a2 := q556
        refine x_aload (np := 38) (x := 0) (by decide +kernel) rfl (x_nc_le (by decide)) ?_
        refine x_iload (np := 39) (x := 1) (by decide +kernel) rfl la1 ?_
        refine x_iload (np := 40) (x := 3) (by decide +kernel) rfl (by first | decide | omega) ?_
        refine x_iload (np := 41) (x := 2) (by decide +kernel) rfl la2 ?_
        refine x_cV (t := 6) (mj := 205) (n := 4) (rc := 12) (ml := 4) (nr := 0) (np := 44) (as := [x_r 75, iv_c a1, iv_c v511, iv_c a2]) (rest := []) (lo1 := [x_r 75, iv_c a1, iv_c v511, iv_c a2]) (by decide +kernel) (by decide) (by decide +kernel) (x_rb_of (by decide +kernel)) rfl rfl (x_wr (by decide) (x_wi la1 (x_wi (by first | decide | omega) (x_wi la2 x_wn)))) x_wn (by decide) rfl (c205_75 (n0 := n0) hJ  (by first | decide | omega) (by first | decide | omega) (by first | decide | omega)  hM) (fun h561 q560 => ?_)
        obtain ⟨j562, f563, m565, p564⟩ := q560
        have b566 := p564 u517 (by first | decide | omega)
        have f567 := Fr.trans hF f563 (by decide)
        refine x_retV (np := 45) (x := 0) (by decide +kernel) (by decide +kernel) ⟨rfl, ?_⟩
        exact ⟨j562, f567, m565⟩
      have q557 : ¬ (v554 < a2) := q557
      refine x_iinc (np := 34) (i := 3) (j := 2147483649) (v := (1 + v511)) (lo' := [x_r 75, iv_c a1, iv_c a2, iv_c (1 + v511)]) (by decide +kernel) (by decide) (by decide) rfl (by first | decide | omega) (by first | decide | omega) (by first | decide | omega) rfl ?_
      refine x_goto (np := 37) (x := 2) (by decide +kernel) ?_
      exact i515 (1 + v511) (by first | decide | omega) (by first | decide | omega)
  exact p513 _ 2147483648 (Nat.lt_succ_self _) (by first | decide | omega)
set_option maxHeartbeats 0 in
/-- LentNamesModel.isOver(II)Z -/
theorem c202_75 {sc : Nat × Nat} {d a1 a2 : Nat} {h : xh} (hJ : J h) (ba1 : 2147483648 ≤ a1 ∧ a1 ≤ 2147483667) (ba2 : 2147483648 ≤ a2 ∧ a2 ≤ 2147483659) : X sc 202 (d + 1) (xI fun r h' => h' = h ∧ (2147483648 ≤ r ∧ r ≤ 2147483649)) 0 0 0 [x_r 75, iv_c a1, iv_c a2] [] h := by
  have la1 : a1 < 4294967296 := by first | decide | omega
  have la2 : a2 < 4294967296 := by first | decide | omega
  refine x_aload (np := 1) (x := 0) (by decide +kernel) rfl (x_nc_le (by decide)) ?_
  refine x_iload (np := 2) (x := 1) (by decide +kernel) rfl la1 ?_
  refine x_const (np := 3) (x := 9223372047592194050) (a := 2147483650) (by decide +kernel) (by decide) (by decide) ?_
  refine x_nI (t := 6) (mj := 161) (n := 3) (rc := 12) (ml := 3) (nr := 0) (np := 6) (as := [x_r 75, iv_c a1, iv_c 2147483650]) (rest := []) (lo1 := [x_r 75, iv_c a1, iv_c 2147483650]) (by decide +kernel) (by decide) (by decide +kernel) (x_rb_of (by decide +kernel)) rfl rfl (x_wr (by decide) (x_wi la1 (x_wi (by decide) x_wn))) x_wn (by decide) rfl ?_
  refine x_aload (np := 1) (x := 0) (by decide +kernel) rfl (x_nc_le (by decide)) ?_
  have q1 : h 75 1 = 76 := by have z := jB (e := 1) 0 hJ rg_75_1_0_1 (by decide) (by decide); omega
  refine x_getR (np := 4) (x := 705) (f := 1) (q := 76) (by decide +kernel) (by decide) (by decide +kernel) q1 ?_
  refine x_const (np := 6) (x := 9223372124901605396) (a := 2147483668) (by decide +kernel) (by decide) (by decide) ?_
  refine x_const (np := 8) (x := 9223372069067030535) (a := 2147483655) (by decide +kernel) (by decide) (by decide) ?_
  refine x_iload (np := 9) (x := 1) (by decide +kernel) rfl la1 ?_
  obtain ⟨u2, q3⟩ : ∃ z, a1 = 2147483648 + z := ⟨a1 - 2147483648, by first | decide | omega⟩
  refine x_imul (np := 10) (x := 0) (i := 7) (j := u2) (v := (2147483648 + 7 * u2)) (by decide +kernel) (by first | decide | omega) (by first | decide | omega) (by first | decide | omega) (by first | decide | omega) (by decide) la1 ?_
  refine x_iadd (np := 11) (x := 0) (v := (2147483668 + 7 * u2)) (by decide +kernel) (by decide) (by first | decide | omega) (by first | decide | omega) (by first | decide | omega) ?_
  refine x_iload (np := 12) (x := 2) (by decide +kernel) rfl (by decide) ?_
  refine x_iadd (np := 13) (x := 0) (v := (2147483670 + 7 * u2)) (by decide +kernel) (by first | decide | omega) (by decide) (by first | decide | omega) (by first | decide | omega) ?_
  refine x_aldC (np := 14) (x := 0) (n := 1952) (i := (22 + 7 * u2)) (q := ((h 76 (22 + 7 * u2)))) (by decide +kernel) (by decide +kernel) (by first | decide | omega) (by first | decide | omega) (by decide) rfl (fun l5 => ?_)
  refine x_retI (np := 15) (x := 0) (by decide +kernel) l5 (Or.inl (by decide +kernel)) ⟨_, rfl, l5, ?_⟩
  refine x_aload (np := 7) (x := 0) (by decide +kernel) rfl (x_nc_le (by decide)) ?_
  refine x_iload (np := 8) (x := 1) (by decide +kernel) rfl la1 ?_
  refine x_const (np := 9) (x := 9223372051887161347) (a := 2147483651) (by decide +kernel) (by decide) (by decide) ?_
  refine x_nI (t := 6) (mj := 161) (n := 3) (rc := 12) (ml := 3) (nr := 1) (np := 12) (as := [x_r 75, iv_c a1, iv_c 2147483651]) (rest := [iv_c ((h 76 (22 + 7 * u2)))]) (lo1 := [x_r 75, iv_c a1, iv_c 2147483651]) (by decide +kernel) (by decide) (by decide +kernel) (x_rb_of (by decide +kernel)) rfl rfl (x_wr (by decide) (x_wi la1 (x_wi (by decide) x_wn))) (x_wi l5 x_wn) (by decide) rfl ?_
  refine x_aload (np := 1) (x := 0) (by decide +kernel) rfl (x_nc_le (by decide)) ?_
  have q6 : h 75 1 = 76 := by have z := jB (e := 1) 0 hJ rg_75_1_0_1 (by decide) (by decide); omega
  refine x_getR (np := 4) (x := 705) (f := 1) (q := 76) (by decide +kernel) (by decide) (by decide +kernel) q6 ?_
  refine x_const (np := 6) (x := 9223372124901605396) (a := 2147483668) (by decide +kernel) (by decide) (by decide) ?_
  refine x_const (np := 8) (x := 9223372069067030535) (a := 2147483655) (by decide +kernel) (by decide) (by decide) ?_
  refine x_iload (np := 9) (x := 1) (by decide +kernel) rfl la1 ?_
  refine x_imul (np := 10) (x := 0) (i := 7) (j := u2) (v := (2147483648 + 7 * u2)) (by decide +kernel) (by first | decide | omega) (by first | decide | omega) (by first | decide | omega) (by first | decide | omega) (by decide) la1 ?_
  refine x_iadd (np := 11) (x := 0) (v := (2147483668 + 7 * u2)) (by decide +kernel) (by decide) (by first | decide | omega) (by first | decide | omega) (by first | decide | omega) ?_
  refine x_iload (np := 12) (x := 2) (by decide +kernel) rfl (by decide) ?_
  refine x_iadd (np := 13) (x := 0) (v := (2147483671 + 7 * u2)) (by decide +kernel) (by first | decide | omega) (by decide) (by first | decide | omega) (by first | decide | omega) ?_
  refine x_aldC (np := 14) (x := 0) (n := 1952) (i := (23 + 7 * u2)) (q := ((h 76 (23 + 7 * u2)))) (by decide +kernel) (by decide +kernel) (by first | decide | omega) (by first | decide | omega) (by decide) rfl (fun l8 => ?_)
  refine x_retI (np := 15) (x := 0) (by decide +kernel) l8 (Or.inl (by decide +kernel)) ⟨_, rfl, l8, ?_⟩
  refine x_addA (by rw [tb_b202]; decide +kernel) l5 l8 (fun v9 l10 => ?_)
  refine x_const (np := 14) (x := 9223372043297226753) (a := 2147483649) (by decide +kernel) (by decide) (by decide) ?_
  refine x_subA (by rw [tb_b202]; decide +kernel) l10 (by decide) (fun v11 l12 => ?_)
  refine x_iload (np := 16) (x := 2) (by decide +kernel) rfl la2 ?_
  refine x_icmp (k := 3) (tg := 23) (np := 19) (by decide +kernel) (by decide) l12 la2 (fun q13 => ?_) (fun q14 => ?_)
  · have q13 : a2 ≤ v11 := q13
    refine x_const (np := 24) (x := 9223372039002259456) (a := 2147483648) (by decide +kernel) (by decide) (by decide) ?_
    refine x_retI (np := 25) (x := 0) (by decide +kernel) (by decide) (Or.inr ⟨by decide +kernel, by first | decide | omega, by first | decide | omega⟩) ⟨_, rfl, (by decide), ?_⟩
    exact ⟨rfl, (by first | decide | omega)⟩
  have q14 : ¬ (a2 ≤ v11) := q14
  refine x_const (np := 20) (x := 9223372043297226753) (a := 2147483649) (by decide +kernel) (by decide) (by decide) ?_
  refine x_goto (np := 23) (x := 24) (by decide +kernel) ?_
  refine x_retI (np := 25) (x := 0) (by decide +kernel) (by decide) (Or.inr ⟨by decide +kernel, by first | decide | omega, by first | decide | omega⟩) ⟨_, rfl, (by decide), ?_⟩
  exact ⟨rfl, (by first | decide | omega)⟩
set_option maxHeartbeats 0 in
/-- LentNamesModel.isRight(II)Z -/
theorem c204_75 {sc : Nat × Nat} {d a1 a2 : Nat} {h : xh} (hJ : J h) (ba1 : 2147483648 ≤ a1 ∧ a1 ≤ 2147483653) (ba2 : 2147483648 ≤ a2 ∧ a2 ≤ 2147483659) : X sc 204 (d + 2) (xI fun r h' => h' = h ∧ (2147483648 ≤ r ∧ r ≤ 2147483649)) 0 0 0 [x_r 75, iv_c a1, iv_c a2, 147573952589676412928, 147573952589676412928] [] h := by
  have la1 : a1 < 4294967296 := by first | decide | omega
  have la2 : a2 < 4294967296 := by first | decide | omega
  refine x_const (np := 1) (x := 9223372043297226753) (a := 2147483649) (by decide +kernel) (by decide) (by decide) ?_
  refine x_istore (np := 2) (x := 3) (lo' := [x_r 75, iv_c a1, iv_c a2, iv_c 2147483649, 147573952589676412928]) (by decide +kernel) (by decide) (Nat.le_of_ble_eq_true rfl) rfl ?_
  refine x_const (np := 3) (x := 9223372039002259456) (a := 2147483648) (by decide +kernel) (by decide) (by decide) ?_
  refine x_istore (np := 5) (x := 4) (lo' := [x_r 75, iv_c a1, iv_c a2, iv_c 2147483649, iv_c 2147483648]) (by decide +kernel) (by decide) (Nat.le_of_ble_eq_true rfl) rfl ?_
  have p365 : ∀ (n : Nat) (v361 : Nat) (v363 : Nat), 4294967296 - v363 < n → (2147483648 ≤ v361 ∧ v361 ≤ 2147483649) → (2147483648 ≤ v363 ∧ v363 ≤ 2147483668) → X sc 204 (d + 2) (xI fun r h' => h' = h ∧ (2147483648 ≤ r ∧ r ≤ 2147483649)) 0 0 5 [x_r 75, iv_c a1, iv_c a2, iv_c v361, iv_c v363] [] h := by
    intro n
    induction n with
    | zero => intro v361 v363 q366; exact absurd q366 (Nat.not_lt_zero _)
    | succ n i367 =>
      intro v361 v363 q366 b362 b364
      refine x_iload (np := 7) (x := 4) (by decide +kernel) rfl (by first | decide | omega) ?_
      refine x_aload (np := 8) (x := 0) (by decide +kernel) rfl (x_nc_le (by decide)) ?_
      have q368 : h 75 16 = 83 := by have z := jB (e := 16) 0 hJ rg_75_16_0_1 (by decide) (by decide); omega
      refine x_getR (np := 11) (x := 720) (f := 16) (q := 83) (by decide +kernel) (by decide) (by decide +kernel) q368 ?_
      refine x_iload (np := 12) (x := 1) (by decide +kernel) rfl la1 ?_
      obtain ⟨u369, q370⟩ : ∃ z, a1 = 2147483648 + z := ⟨a1 - 2147483648, by first | decide | omega⟩
      have b371 := jB (e := u369) u369 hJ rg_83_0_1_6 (by first | decide | omega) (by first | decide | omega)
      refine x_aldC (np := 13) (x := 0) (n := 6) (i := u369) (q := (h 83 u369)) (by decide +kernel) (by decide +kernel) (by first | decide | omega) (by first | decide | omega) (by decide) rfl (fun l372 => ?_)
      refine x_icmp (k := 3) (tg := 52) (np := 16) (by decide +kernel) (by decide) (by first | decide | omega) l372 (fun q373 => ?_) (fun q374 => ?_)
      · have q373 : (h 83 u369) ≤ v363 := q373
        refine x_iload (np := 53) (x := 3) (by decide +kernel) rfl (by first | decide | omega) ?_
        refine x_retI (np := 54) (x := 0) (by decide +kernel) (by first | decide | omega) (Or.inr ⟨by decide +kernel, by first | decide | omega, by first | decide | omega⟩) ⟨_, rfl, (by first | decide | omega), ?_⟩
        exact ⟨rfl, (by first | decide | omega)⟩
      have q374 : ¬ ((h 83 u369) ≤ v363) := q374
      refine x_iload (np := 17) (x := 3) (by decide +kernel) rfl (by first | decide | omega) ?_
      refine x_ifz (k := 0) (tg := 44) (np := 20) (by decide +kernel) (by decide) (by first | decide | omega) (fun q375 => ?_) (fun q376 => ?_)
      · have q375 : v361 = 2147483648 := q375
        refine x_const (np := 45) (x := 9223372039002259456) (a := 2147483648) (by decide +kernel) (by decide) (by decide) ?_
        refine x_istore (np := 46) (x := 3) (lo' := [x_r 75, iv_c a1, iv_c a2, iv_c 2147483648, iv_c v363]) (by decide +kernel) (by decide) (Nat.le_of_ble_eq_true rfl) rfl ?_
        refine x_iinc (np := 49) (i := 4) (j := 2147483649) (v := (1 + v363)) (lo' := [x_r 75, iv_c a1, iv_c a2, iv_c 2147483648, iv_c (1 + v363)]) (by decide +kernel) (by decide) (by decide) rfl (by first | decide | omega) (by first | decide | omega) (by first | decide | omega) rfl ?_
        refine x_goto (np := 52) (x := 5) (by decide +kernel) ?_
        exact i367 2147483648 (1 + v363) (by first | decide | omega) (by first | decide | omega) (by first | decide | omega)
      have q376 : ¬ (v361 = 2147483648) := q376
      refine x_aload (np := 21) (x := 0) (by decide +kernel) rfl (x_nc_le (by decide)) ?_
      refine x_aload (np := 22) (x := 0) (by decide +kernel) rfl (x_nc_le (by decide)) ?_
      have q377 : h 75 17 = 84 := by have z := jB (e := 17) 0 hJ rg_75_17_0_1 (by decide) (by decide); omega
      refine x_getR (np := 25) (x := 721) (f := 17) (q := 84) (by decide +kernel) (by decide) (by decide +kernel) q377 ?_
      refine x_const (np := 27) (x := 9223372124901605396) (a := 2147483668) (by decide +kernel) (by decide) (by decide) ?_
      refine x_iload (np := 28) (x := 1) (by decide +kernel) rfl la1 ?_
      refine x_imul (np := 29) (x := 0) (i := 20) (j := u369) (v := (2147483648 + 20 * u369)) (by decide +kernel) (by first | decide | omega) (by first | decide | omega) (by first | decide | omega) (by first | decide | omega) (by decide) la1 ?_
      refine x_iload (np := 31) (x := 4) (by decide +kernel) rfl (by first | decide | omega) ?_
      refine x_iadd (np := 32) (x := 0) (v := (20 * u369 + v363)) (by decide +kernel) (by first | decide | omega) (by first | decide | omega) (by first | decide | omega) (by first | decide | omega) ?_
      obtain ⟨u379, q380⟩ : ∃ z, v363 = 2147483648 + z := ⟨v363 - 2147483648, by first | decide | omega⟩
      have b381 := jB (e := (20 * u369 + u379)) (20 * u369 + u379) hJ rg_84_0_1_120 (by first | decide | omega) (by first | decide | omega)
      refine x_aldC (np := 33) (x := 0) (n := 120) (i := (20 * u369 + u379)) (q := ((h 84 (20 * u369 + u379)))) (by decide +kernel) (by decide +kernel) (by first | decide | omega) (by first | decide | omega) (by decide) rfl (fun l382 => ?_)
      refine x_iload (np := 34) (x := 2) (by decide +kernel) rfl la2 ?_
      refine x_cP (t := 6) (mj := 202) (n := 3) (rc := 12) (ml := 3) (nr := 0) (np := 37) (as := [x_r 75, iv_c ((h 84 (20 * u369 + u379))), iv_c a2]) (rest := []) (lo1 := [x_r 75, iv_c ((h 84 (20 * u369 + u379))), iv_c a2]) (by decide +kernel) (by decide) (by decide +kernel) (x_rb_of (by decide +kernel)) rfl rfl (x_wr (by decide) (x_wi l382 (x_wi la2 x_wn))) x_wn (by decide) rfl (c202_75 hJ  (by first | decide | omega) (by first | decide | omega)) (fun v383 l384 q385 => ?_)
      refine x_ifz (k := 1) (tg := 44) (np := 40) (by decide +kernel) (by decide) l384 (fun q386 => ?_) (fun q387 => ?_)
      · have q386 : v383 ≠ 2147483648 := q386
        refine x_const (np := 45) (x := 9223372039002259456) (a := 2147483648) (by decide +kernel) (by decide) (by decide) ?_
        refine x_istore (np := 46) (x := 3) (lo' := [x_r 75, iv_c a1, iv_c a2, iv_c 2147483648, iv_c v363]) (by decide +kernel) (by decide) (Nat.le_of_ble_eq_true rfl) rfl ?_
        refine x_iinc (np := 49) (i := 4) (j := 2147483649) (v := (1 + v363)) (lo' := [x_r 75, iv_c a1, iv_c a2, iv_c 2147483648, iv_c (1 + v363)]) (by decide +kernel) (by decide) (by decide) rfl (by first | decide | omega) (by first | decide | omega) (by first | decide | omega) rfl ?_
        refine x_goto (np := 52) (x := 5) (by decide +kernel) ?_
        exact i367 2147483648 (1 + v363) (by first | decide | omega) (by first | decide | omega) (by first | decide | omega)
      have q387 : ¬ (v383 ≠ 2147483648) := q387
      refine x_const (np := 41) (x := 9223372043297226753) (a := 2147483649) (by decide +kernel) (by decide) (by decide) ?_
      refine x_goto (np := 44) (x := 45) (by decide +kernel) ?_
      refine x_istore (np := 46) (x := 3) (lo' := [x_r 75, iv_c a1, iv_c a2, iv_c 2147483649, iv_c v363]) (by decide +kernel) (by decide) (Nat.le_of_ble_eq_true rfl) rfl ?_
      refine x_iinc (np := 49) (i := 4) (j := 2147483649) (v := (1 + v363)) (lo' := [x_r 75, iv_c a1, iv_c a2, iv_c 2147483649, iv_c (1 + v363)]) (by decide +kernel) (by decide) (by decide) rfl (by first | decide | omega) (by first | decide | omega) (by first | decide | omega) rfl ?_
      refine x_goto (np := 52) (x := 5) (by decide +kernel) ?_
      exact i367 2147483649 (1 + v363) (by first | decide | omega) (by first | decide | omega) (by first | decide | omega)
  exact p365 _ 2147483649 2147483648 (Nat.lt_succ_self _) (by first | decide | omega) (by first | decide | omega)
set_option maxHeartbeats 0 in
/-- LentNamesModel.holder(I)I -/
theorem c203_75 {sc : Nat × Nat} {d a1 : Nat} {h : xh} (hJ : J h) (ba1 : 2147483648 ≤ a1 ∧ a1 ≤ 2147483653) : X sc 203 (d + 1) (xI fun r h' => h' = h ∧ (2147483648 ≤ r ∧ r ≤ 2147483653)) 0 0 0 [x_r 75, iv_c a1] [] h := by
  have la1 : a1 < 4294967296 := by first | decide | omega
  refine x_aload (np := 1) (x := 0) (by decide +kernel) rfl (x_nc_le (by decide)) ?_
  have q1 : h 75 16 = 83 := by have z := jB (e := 16) 0 hJ rg_75_16_0_1 (by decide) (by decide); omega
  refine x_getR (np := 4) (x := 720) (f := 16) (q := 83) (by decide +kernel) (by decide) (by decide +kernel) q1 ?_
  refine x_iload (np := 5) (x := 1) (by decide +kernel) rfl la1 ?_
  obtain ⟨u2, q3⟩ : ∃ z, a1 = 2147483648 + z := ⟨a1 - 2147483648, by first | decide | omega⟩
  have b4 := jB (e := u2) u2 hJ rg_83_0_1_6 (by first | decide | omega) (by first | decide | omega)
  refine x_aldC (np := 6) (x := 0) (n := 6) (i := u2) (q := (h 83 u2)) (by decide +kernel) (by decide +kernel) (by first | decide | omega) (by first | decide | omega) (by decide) rfl (fun l5 => ?_)
  refine x_ifz (k := 1) (tg := 13) (np := 9) (by decide +kernel) (by decide) l5 (fun q6 => ?_) (fun q7 => ?_)
  · have q6 : (h 83 u2) ≠ 2147483648 := q6
    refine x_aload (np := 14) (x := 0) (by decide +kernel) rfl (x_nc_le (by decide)) ?_
    refine x_aload (np := 15) (x := 0) (by decide +kernel) rfl (x_nc_le (by decide)) ?_
    have q8 : h 75 17 = 84 := by have z := jB (e := 17) 0 hJ rg_75_17_0_1 (by decide) (by decide); omega
    refine x_getR (np := 18) (x := 721) (f := 17) (q := 84) (by decide +kernel) (by decide) (by decide +kernel) q8 ?_
    refine x_const (np := 20) (x := 9223372124901605396) (a := 2147483668) (by decide +kernel) (by decide) (by decide) ?_
    refine x_iload (np := 21) (x := 1) (by decide +kernel) rfl la1 ?_
    refine x_imul (np := 22) (x := 0) (i := 20) (j := u2) (v := (2147483648 + 20 * u2)) (by decide +kernel) (by first | decide | omega) (by first | decide | omega) (by first | decide | omega) (by first | decide | omega) (by decide) la1 ?_
    refine x_aload (np := 23) (x := 0) (by decide +kernel) rfl (x_nc_le (by decide)) ?_
    have q10 : h 75 16 = 83 := by have z := jB (e := 16) 0 hJ rg_75_16_0_1 (by decide) (by decide); omega
    refine x_getR (np := 26) (x := 720) (f := 16) (q := 83) (by decide +kernel) (by decide) (by decide +kernel) q10 ?_
    refine x_iload (np := 27) (x := 1) (by decide +kernel) rfl la1 ?_
    refine x_aldC (np := 28) (x := 0) (n := 6) (i := u2) (q := (h 83 u2)) (by decide +kernel) (by decide +kernel) (by first | decide | omega) (by first | decide | omega) (by decide) rfl (fun l11 => ?_)
    refine x_iadd (np := 29) (x := 0) (v := (20 * u2 + (h 83 u2))) (by decide +kernel) (by first | decide | omega) l5 (by first | decide | omega) (by first | decide | omega) ?_
    refine x_const (np := 30) (x := 9223372043297226753) (a := 2147483649) (by decide +kernel) (by decide) (by decide) ?_
    obtain ⟨v12, q13⟩ : ∃ z, z + 2147483649 = (20 * u2 + (h 83 u2)) + 2147483648 := ⟨(20 * u2 + (h 83 u2)) + 2147483648 - 2147483649, by first | decide | omega⟩
    refine x_isub (np := 31) (x := 0) (v := v12) (by decide +kernel) (by first | decide | omega) (by decide) (by first | decide | omega) (by first | decide | omega) ?_
    obtain ⟨u14, q15⟩ : ∃ z, v12 = 2147483648 + z := ⟨v12 - 2147483648, by first | decide | omega⟩
    have b16 := jB (e := u14) u14 hJ rg_84_0_1_120 (by first | decide | omega) (by first | decide | omega)
    refine x_aldC (np := 32) (x := 0) (n := 120) (i := u14) (q := (h 84 u14)) (by decide +kernel) (by decide +kernel) (by first | decide | omega) (by first | decide | omega) (by decide) rfl (fun l17 => ?_)
    refine x_const (np := 33) (x := 9223372043297226753) (a := 2147483649) (by decide +kernel) (by decide) (by decide) ?_
    refine x_nI (t := 6) (mj := 161) (n := 3) (rc := 12) (ml := 3) (nr := 0) (np := 36) (as := [x_r 75, iv_c (h 84 u14), iv_c 2147483649]) (rest := []) (lo1 := [x_r 75, iv_c (h 84 u14), iv_c 2147483649]) (by decide +kernel) (by decide) (by decide +kernel) (x_rb_of (by decide +kernel)) rfl rfl (x_wr (by decide) (x_wi l17 (x_wi (by decide) x_wn))) x_wn (by decide) rfl ?_
    refine x_aload (np := 1) (x := 0) (by decide +kernel) rfl (x_nc_le (by decide)) ?_
    have q18 : h 75 1 = 76 := by have z := jB (e := 1) 0 hJ rg_75_1_0_1 (by decide) (by decide); omega
    refine x_getR (np := 4) (x := 705) (f := 1) (q := 76) (by decide +kernel) (by decide) (by decide +kernel) q18 ?_
    refine x_const (np := 6) (x := 9223372124901605396) (a := 2147483668) (by decide +kernel) (by decide) (by decide) ?_
    refine x_const (np := 8) (x := 9223372069067030535) (a := 2147483655) (by decide +kernel) (by decide) (by decide) ?_
    refine x_iload (np := 9) (x := 1) (by decide +kernel) rfl l17 ?_
    obtain ⟨u19, q20⟩ : ∃ z, (h 84 u14) = 2147483648 + z := ⟨(h 84 u14) - 2147483648, by first | decide | omega⟩
    refine x_imul (np := 10) (x := 0) (i := 7) (j := u19) (v := (2147483648 + 7 * u19)) (by decide +kernel) (by first | decide | omega) (by first | decide | omega) (by first | decide | omega) (by first | decide | omega) (by decide) l17 ?_
    refine x_iadd (np := 11) (x := 0) (v := (2147483668 + 7 * u19)) (by decide +kernel) (by decide) (by first | decide | omega) (by first | decide | omega) (by first | decide | omega) ?_
    refine x_iload (np := 12) (x := 2) (by decide +kernel) rfl (by decide) ?_
    refine x_iadd (np := 13) (x := 0) (v := (2147483669 + 7 * u19)) (by decide +kernel) (by first | decide | omega) (by decide) (by first | decide | omega) (by first | decide | omega) ?_
    have b22 := jB (e := (21 + 7 * u19)) u19 hJ rg_76_21_7_20 (by first | decide | omega) (by first | decide | omega)
    refine x_aldC (np := 14) (x := 0) (n := 1952) (i := (21 + 7 * u19)) (q := ((h 76 (21 + 7 * u19)))) (by decide +kernel) (by decide +kernel) (by first | decide | omega) (by first | decide | omega) (by decide) rfl (fun l23 => ?_)
    refine x_retI (np := 15) (x := 0) (by decide +kernel) l23 (Or.inl (by decide +kernel)) ⟨_, rfl, l23, ?_⟩
    refine x_retI (np := 37) (x := 0) (by decide +kernel) l23 (Or.inl (by decide +kernel)) ⟨_, rfl, l23, ?_⟩
    exact ⟨rfl, (by first | decide | omega)⟩
  have q7 : ¬ ((h 83 u2) ≠ 2147483648) := q7
  refine x_iload (np := 10) (x := 1) (by decide +kernel) rfl la1 ?_
  refine x_goto (np := 13) (x := 36) (by decide +kernel) ?_
  refine x_retI (np := 37) (x := 0) (by decide +kernel) la1 (Or.inl (by decide +kernel)) ⟨_, rfl, la1, ?_⟩
  exact ⟨rfl, (by first | decide | omega)⟩
set_option maxHeartbeats 0 in
/-- LentNamesModel.alive(II)Z -/
theorem c200_75 {sc : Nat × Nat} {d a1 a2 : Nat} {h : xh} (hJ : J h) (ba1 : 2147483648 ≤ a1 ∧ a1 ≤ 2147483653) (ba2 : 2147483648 ≤ a2 ∧ a2 ≤ 2147483659) : X sc 200 d (xI fun r h' => h' = h ∧ (2147483648 ≤ r ∧ r ≤ 2147483649)) 0 0 0 [x_r 75, iv_c a1, iv_c a2] [] h := by
  have la1 : a1 < 4294967296 := by first | decide | omega
  have la2 : a2 < 4294967296 := by first | decide | omega
  refine x_aload (np := 1) (x := 0) (by decide +kernel) rfl (x_nc_le (by decide)) ?_
  have q1 : h 75 1 = 76 := by have z := jB (e := 1) 0 hJ rg_75_1_0_1 (by decide) (by decide); omega
  refine x_getR (np := 4) (x := 705) (f := 1) (q := 76) (by decide +kernel) (by decide) (by decide +kernel) q1 ?_
  refine x_const (np := 6) (x := 9223372073361997832) (a := 2147483656) (by decide +kernel) (by decide) (by decide) ?_
  refine x_iload (np := 7) (x := 1) (by decide +kernel) rfl la1 ?_
  refine x_iadd (np := 8) (x := 0) (v := (8 + a1)) (by decide +kernel) (by decide) la1 (by first | decide | omega) (by first | decide | omega) ?_
  obtain ⟨u2, q3⟩ : ∃ z, a1 = 2147483648 + z := ⟨a1 - 2147483648, by first | decide | omega⟩
  have b4 := jB (e := (8 + u2)) u2 hJ rg_76_8_1_6 (by first | decide | omega) (by first | decide | omega)
  refine x_aldC (np := 9) (x := 0) (n := 1952) (i := (8 + u2)) (q := (h 76 (8 + u2))) (by decide +kernel) (by decide +kernel) (by first | decide | omega) (by first | decide | omega) (by decide) rfl (fun l5 => ?_)
  refine x_iload (np := 10) (x := 2) (by decide +kernel) rfl la2 ?_
  refine x_icmp (k := 5) (tg := 17) (np := 13) (by decide +kernel) (by decide) l5 la2 (fun q6 => ?_) (fun q7 => ?_)
  · have q6 : (h 76 (8 + u2)) ≤ a2 := q6
    refine x_const (np := 18) (x := 9223372039002259456) (a := 2147483648) (by decide +kernel) (by decide) (by decide) ?_
    refine x_retI (np := 19) (x := 0) (by decide +kernel) (by decide) (Or.inr ⟨by decide +kernel, by first | decide | omega, by first | decide | omega⟩) ⟨_, rfl, (by decide), ?_⟩
    exact ⟨rfl, (by first | decide | omega)⟩
  have q7 : ¬ ((h 76 (8 + u2)) ≤ a2) := q7
  refine x_const (np := 14) (x := 9223372043297226753) (a := 2147483649) (by decide +kernel) (by decide) (by decide) ?_
  refine x_goto (np := 17) (x := 18) (by decide +kernel) ?_
  refine x_retI (np := 19) (x := 0) (by decide +kernel) (by decide) (Or.inr ⟨by decide +kernel, by first | decide | omega, by first | decide | omega⟩) ⟨_, rfl, (by decide), ?_⟩
  exact ⟨rfl, (by first | decide | omega)⟩
set_option maxHeartbeats 0 in
/-- LentNamesModel.judges(II)V -/
theorem c207_75 {sc : Nat × Nat} {d a1 a2 n0 : Nat} {h : xh} (hJ : J h) (ba1 : 2147483648 ≤ a1 ∧ a1 ≤ 2147483653) (ba2 : 2147483648 ≤ a2 ∧ a2 ≤ 2147483659) (hM : MB 6 n0 h) : X sc 207 (d + 3) (xV fun h' => J h' ∧ Fr 42949672961 h h' ∧ MB 6 n0 h') 0 0 0 [x_r 75, iv_c a1, iv_c a2] [] h := by
  have la1 : a1 < 4294967296 := by first | decide | omega
  have la2 : a2 < 4294967296 := by first | decide | omega
  have hF := Fr.refl 42949672961 h
  obtain ⟨u1, q2⟩ : ∃ z, a1 = 2147483648 + z := ⟨a1 - 2147483648, by first | decide | omega⟩
  have p105 : ∀ (n : Nat) (h102 : xh), h102 83 u1 < n → J h102 → Fr 42949672961 h h102 → MB 6 n0 h102 → X sc 207 (d + 3) (xV fun h' => J h' ∧ Fr 42949672961 h h' ∧ MB 6 n0 h') 0 0 0 [x_r 75, iv_c a1, iv_c a2] [] h102 := by
    intro n
    induction n with
    | zero => intro h102 q107; exact absurd q107 (Nat.not_lt_zero _)
    | succ n i108 =>
      intro h102 q107 j104 f103 m106
      have f109 := Fr.trans hF f103 (by decide)
      refine x_aload (np := 1) (x := 0) (by decide +kernel) rfl (x_nc_le (by decide)) ?_
      have q110 : h102 75 16 = 83 := by have z := jB (e := 16) 0 j104 rg_75_16_0_1 (by decide) (by decide); omega
      refine x_getR (np := 4) (x := 720) (f := 16) (q := 83) (by decide +kernel) (by decide) (by decide +kernel) q110 ?_
      refine x_iload (np := 5) (x := 1) (by decide +kernel) rfl la1 ?_
      have b111 := jB (e := u1) u1 j104 rg_83_0_1_6 (by first | decide | omega) (by first | decide | omega)
      refine x_aldC (np := 6) (x := 0) (n := 6) (i := u1) (q := (h102 83 u1)) (by decide +kernel) (by decide +kernel) (by first | decide | omega) (by first | decide | omega) (by decide) rfl (fun l112 => ?_)
      refine x_ifz (k := 5) (tg := 48) (np := 9) (by decide +kernel) (by decide) l112 (fun q113 => ?_) (fun q114 => ?_)
      · have q113 : (h102 83 u1) ≤ 2147483648 := q113
        refine x_retV (np := 49) (x := 0) (by decide +kernel) (by decide +kernel) ⟨rfl, ?_⟩
        exact ⟨j104, f109, m106⟩
      have q114 : ¬ ((h102 83 u1) ≤ 2147483648) := q114
      refine x_aload (np := 10) (x := 0) (by decide +kernel) rfl (x_nc_le (by decide)) ?_
      refine x_iload (np := 11) (x := 1) (by decide +kernel) rfl la1 ?_
      refine x_iload (np := 12) (x := 2) (by decide +kernel) rfl la2 ?_
      refine x_cP (t := 6) (mj := 204) (n := 3) (rc := 12) (ml := 5) (nr := 0) (np := 15) (as := [x_r 75, iv_c a1, iv_c a2]) (rest := []) (lo1 := [x_r 75, iv_c a1, iv_c a2, 147573952589676412928, 147573952589676412928]) (by decide +kernel) (by decide) (by decide +kernel) (x_rb_of (by decide +kernel)) rfl rfl (x_wr (by decide) (x_wi la1 (x_wi la2 x_wn))) x_wn (by decide) rfl (c204_75 j104  (by first | decide | omega) (by first | decide | omega)) (fun v115 l116 q117 => ?_)
      refine x_ifz (k := 0) (tg := 31) (np := 18) (by decide +kernel) (by decide) l116 (fun q118 => ?_) (fun q119 => ?_)
      · have q118 : v115 = 2147483648 := q118
        refine x_aload (np := 32) (x := 0) (by decide +kernel) rfl (x_nc_le (by decide)) ?_
        refine x_iload (np := 33) (x := 1) (by decide +kernel) rfl la1 ?_
        refine x_aload (np := 34) (x := 0) (by decide +kernel) rfl (x_nc_le (by decide)) ?_
        have q120 : h102 75 16 = 83 := by have z := jB (e := 16) 0 j104 rg_75_16_0_1 (by decide) (by decide); omega
        refine x_getR (np := 37) (x := 720) (f := 16) (q := 83) (by decide +kernel) (by decide) (by decide +kernel) q120 ?_
        refine x_iload (np := 38) (x := 1) (by decide +kernel) rfl la1 ?_
        refine x_aldC (np := 39) (x := 0) (n := 6) (i := u1) (q := (h102 83 u1)) (by decide +kernel) (by decide +kernel) (by first | decide | omega) (by first | decide | omega) (by decide) rfl (fun l121 => ?_)
        refine x_const (np := 40) (x := 9223372043297226753) (a := 2147483649) (by decide +kernel) (by decide) (by decide) ?_
        obtain ⟨v122, q123⟩ : ∃ z, z + 2147483649 = (h102 83 u1) + 2147483648 := ⟨(h102 83 u1) + 2147483648 - 2147483649, by first | decide | omega⟩
        refine x_isub (np := 41) (x := 0) (v := v122) (by decide +kernel) l112 (by decide) (by first | decide | omega) (by first | decide | omega) ?_
        refine x_iload (np := 42) (x := 2) (by decide +kernel) rfl la2 ?_
        refine x_cV (t := 6) (mj := 205) (n := 4) (rc := 12) (ml := 4) (nr := 0) (np := 45) (as := [x_r 75, iv_c a1, iv_c v122, iv_c a2]) (rest := []) (lo1 := [x_r 75, iv_c a1, iv_c v122, iv_c a2]) (by decide +kernel) (by decide) (by decide +kernel) (x_rb_of (by decide +kernel)) rfl rfl (x_wr (by decide) (x_wi la1 (x_wi (by first | decide | omega) (x_wi la2 x_wn)))) x_wn (by decide) rfl (c205_75 (n0 := n0) j104  (by first | decide | omega) (by first | decide | omega) (by first | decide | omega)  m106) (fun h127 q126 => ?_)
        obtain ⟨j128, f129, m131, p130⟩ := q126
        have b132 := p130 u1 (by first | decide | omega)
        have f133 := Fr.trans f109 f129 (by decide)
        have f134 := Fr.trans f103 f129 (by decide)
        refine x_goto (np := 48) (x := 0) (by decide +kernel) ?_
        exact i108  h127 (by first | decide | omega) j128 f134 m131
      have q119 : ¬ (v115 = 2147483648) := q119
      refine x_aload (np := 19) (x := 0) (by decide +kernel) rfl (x_nc_le (by decide)) ?_
      refine x_aload (np := 20) (x := 0) (by decide +kernel) rfl (x_nc_le (by decide)) ?_
      refine x_iload (np := 21) (x := 1) (by decide +kernel) rfl la1 ?_
      refine x_cP (t := 6) (mj := 203) (n := 2) (rc := 12) (ml := 2) (nr := 1) (np := 24) (as := [x_r 75, iv_c a1]) (rest := [x_r 75]) (lo1 := [x_r 75, iv_c a1]) (by decide +kernel) (by decide) (by decide +kernel) (x_rb_of (by decide +kernel)) rfl rfl (x_wr (by decide) (x_wi la1 x_wn)) (x_wr (by decide) x_wn) (by decide) rfl (c203_75 j104  (by first | decide | omega)) (fun v135 l136 q137 => ?_)
      refine x_iload (np := 25) (x := 2) (by decide +kernel) rfl la2 ?_
      refine x_cP (t := 6) (mj := 200) (n := 3) (rc := 12) (ml := 3) (nr := 0) (np := 28) (as := [x_r 75, iv_c v135, iv_c a2]) (rest := []) (lo1 := [x_r 75, iv_c v135, iv_c a2]) (by decide +kernel) (by decide) (by decide +kernel) (x_rb_of (by decide +kernel)) rfl rfl (x_wr (by decide) (x_wi l136 (x_wi la2 x_wn))) x_wn (by decide) rfl (c200_75 j104  (by first | decide | omega) (by first | decide | omega)) (fun v138 l139 q140 => ?_)
      refine x_ifz (k := 1) (tg := 48) (np := 31) (by decide +kernel) (by decide) l139 (fun q141 => ?_) (fun q142 => ?_)
      · have q141 : v138 ≠ 2147483648 := q141
        refine x_retV (np := 49) (x := 0) (by decide +kernel) (by decide +kernel) ⟨rfl, ?_⟩
        exact ⟨j104, f109, m106⟩
      have q142 : ¬ (v138 ≠ 2147483648) := q142
      refine x_aload (np := 32) (x := 0) (by decide +kernel) rfl (x_nc_le (by decide)) ?_
      refine x_iload (np := 33) (x := 1) (by decide +kernel) rfl la1 ?_
      refine x_aload (np := 34) (x := 0) (by decide +kernel) rfl (x_nc_le (by decide)) ?_
      have q143 : h102 75 16 = 83 := by have z := jB (e := 16) 0 j104 rg_75_16_0_1 (by decide) (by decide); omega
      refine x_getR (np := 37) (x := 720) (f := 16) (q := 83) (by decide +kernel) (by decide) (by decide +kernel) q143 ?_
      refine x_iload (np := 38) (x := 1) (by decide +kernel) rfl la1 ?_
      refine x_aldC (np := 39) (x := 0) (n := 6) (i := u1) (q := (h102 83 u1)) (by decide +kernel) (by decide +kernel) (by first | decide | omega) (by first | decide | omega) (by decide) rfl (fun l144 => ?_)
      refine x_const (np := 40) (x := 9223372043297226753) (a := 2147483649) (by decide +kernel) (by decide) (by decide) ?_
      obtain ⟨v145, q146⟩ : ∃ z, z + 2147483649 = (h102 83 u1) + 2147483648 := ⟨(h102 83 u1) + 2147483648 - 2147483649, by first | decide | omega⟩
      refine x_isub (np := 41) (x := 0) (v := v145) (by decide +kernel) l112 (by decide) (by first | decide | omega) (by first | decide | omega) ?_
      refine x_iload (np := 42) (x := 2) (by decide +kernel) rfl la2 ?_
      refine x_cV (t := 6) (mj := 205) (n := 4) (rc := 12) (ml := 4) (nr := 0) (np := 45) (as := [x_r 75, iv_c a1, iv_c v145, iv_c a2]) (rest := []) (lo1 := [x_r 75, iv_c a1, iv_c v145, iv_c a2]) (by decide +kernel) (by decide) (by decide +kernel) (x_rb_of (by decide +kernel)) rfl rfl (x_wr (by decide) (x_wi la1 (x_wi (by first | decide | omega) (x_wi la2 x_wn)))) x_wn (by decide) rfl (c205_75 (n0 := n0) j104  (by first | decide | omega) (by first | decide | omega) (by first | decide | omega)  m106) (fun h150 q149 => ?_)
      obtain ⟨j151, f152, m154, p153⟩ := q149
      have b155 := p153 u1 (by first | decide | omega)
      have f156 := Fr.trans f109 f152 (by decide)
      have f157 := Fr.trans f103 f152 (by decide)
      refine x_goto (np := 48) (x := 0) (by decide +kernel) ?_
      exact i108  h150 (by first | decide | omega) j151 f157 m154
  exact p105 _  h (Nat.lt_succ_self _) hJ (Fr.refl _ _) hM
set_option maxHeartbeats 0 in
/-- LentNamesModel.bornBy(II)I -/
theorem c208_75 {sc : Nat × Nat} {d a1 a2 : Nat} {h : xh} (hJ : J h) (ba1 : 2147483648 ≤ a1 ∧ a1 ≤ 2147483653) (ba2 : 2147483648 ≤ a2 ∧ a2 ≤ 2147483659) : X sc 208 (d + 2) (xI fun r h' => h' = h ∧ (0 ≤ r ∧ r ≤ 4294967295)) 0 0 0 [x_r 75, iv_c a1, iv_c a2, 147573952589676412928, 147573952589676412928] [] h := by
  have la1 : a1 < 4294967296 := by first | decide | omega
  have la2 : a2 < 4294967296 := by first | decide | omega
  refine x_const (np := 1) (x := 9223372039002259456) (a := 2147483648) (by decide +kernel) (by decide) (by decide) ?_
  refine x_istore (np := 2) (x := 3) (lo' := [x_r 75, iv_c a1, iv_c a2, iv_c 2147483648, 147573952589676412928]) (by decide +kernel) (by decide) (Nat.le_of_ble_eq_true rfl) rfl ?_
  refine x_const (np := 3) (x := 9223372039002259456) (a := 2147483648) (by decide +kernel) (by decide) (by decide) ?_
  refine x_istore (np := 5) (x := 4) (lo' := [x_r 75, iv_c a1, iv_c a2, iv_c 2147483648, iv_c 2147483648]) (by decide +kernel) (by decide) (Nat.le_of_ble_eq_true rfl) rfl ?_
  have p598 : ∀ (n : Nat) (v594 : Nat) (v596 : Nat), 4294967296 - v596 < n → (0 ≤ v594 ∧ v594 ≤ 4294967295) → (2147483648 ≤ v596 ∧ v596 ≤ 2147483654) → X sc 208 (d + 2) (xI fun r h' => h' = h ∧ (0 ≤ r ∧ r ≤ 4294967295)) 0 0 5 [x_r 75, iv_c a1, iv_c a2, iv_c v594, iv_c v596] [] h := by
    intro n
    induction n with
    | zero => intro v594 v596 q599; exact absurd q599 (Nat.not_lt_zero _)
    | succ n i600 =>
      intro v594 v596 q599 b595 b597
      refine x_iload (np := 7) (x := 4) (by decide +kernel) rfl (by first | decide | omega) ?_
      refine x_aload (np := 8) (x := 0) (by decide +kernel) rfl (x_nc_le (by decide)) ?_
      refine x_nI (t := 6) (mj := 157) (n := 1) (rc := 12) (ml := 1) (nr := 1) (np := 11) (as := [x_r 75]) (rest := [iv_c v596]) (lo1 := [x_r 75]) (by decide +kernel) (by decide) (by decide +kernel) (x_rb_of (by decide +kernel)) rfl rfl (x_wr (by decide) x_wn) (x_wi (by first | decide | omega) x_wn) (by decide) rfl ?_
      refine x_aload (np := 1) (x := 0) (by decide +kernel) rfl (x_nc_le (by decide)) ?_
      have q601 : h 75 1 = 76 := by have z := jB (e := 1) 0 hJ rg_75_1_0_1 (by decide) (by decide); omega
      refine x_getR (np := 4) (x := 705) (f := 1) (q := 76) (by decide +kernel) (by decide) (by decide +kernel) q601 ?_
      refine x_const (np := 5) (x := 9223372039002259456) (a := 2147483648) (by decide +kernel) (by decide) (by decide) ?_
      have b602 := jB (e := 0) 0 hJ rg_76_0_0_1 (by first | decide | omega) (by first | decide | omega)
      refine x_aldC (np := 6) (x := 0) (n := 1952) (i := 0) (q := (h 76 0)) (by decide +kernel) (by decide +kernel) (by first | decide | omega) (by first | decide | omega) (by decide) rfl (fun l603 => ?_)
      refine x_retI (np := 7) (x := 0) (by decide +kernel) l603 (Or.inl (by decide +kernel)) ⟨_, rfl, l603, ?_⟩
      refine x_icmp (k := 3) (tg := 47) (np := 14) (by decide +kernel) (by decide) (by first | decide | omega) l603 (fun q604 => ?_) (fun q605 => ?_)
      · have q604 : (h 76 0) ≤ v596 := q604
        refine x_iload (np := 48) (x := 3) (by decide +kernel) rfl (by first | decide | omega) ?_
        refine x_retI (np := 49) (x := 0) (by decide +kernel) (by first | decide | omega) (Or.inl (by decide +kernel)) ⟨_, rfl, (by first | decide | omega), ?_⟩
        exact ⟨rfl, (by first | decide | omega)⟩
      have q605 : ¬ ((h 76 0) ≤ v596) := q605
      refine x_iload (np := 15) (x := 3) (by decide +kernel) rfl (by first | decide | omega) ?_
      refine x_aload (np := 16) (x := 0) (by decide +kernel) rfl (x_nc_le (by decide)) ?_
      refine x_iload (np := 18) (x := 4) (by decide +kernel) rfl (by first | decide | omega) ?_
      refine x_cP (t := 6) (mj := 203) (n := 2) (rc := 12) (ml := 2) (nr := 1) (np := 21) (as := [x_r 75, iv_c v596]) (rest := [iv_c v594]) (lo1 := [x_r 75, iv_c v596]) (by decide +kernel) (by decide) (by decide +kernel) (x_rb_of (by decide +kernel)) rfl rfl (x_wr (by decide) (x_wi (by first | decide | omega) x_wn)) (x_wi (by first | decide | omega) x_wn) (by decide) rfl (c203_75 hJ  (by first | decide | omega)) (fun v606 l607 q608 => ?_)
      refine x_iload (np := 22) (x := 1) (by decide +kernel) rfl la1 ?_
      refine x_icmp (k := 1) (tg := 38) (np := 25) (by decide +kernel) (by decide) l607 la1 (fun q609 => ?_) (fun q610 => ?_)
      · have q609 : v606 ≠ a1 := q609
        refine x_const (np := 39) (x := 9223372039002259456) (a := 2147483648) (by decide +kernel) (by decide) (by decide) ?_
        refine x_iadd (np := 40) (x := 0) (v := v594) (by decide +kernel) (by first | decide | omega) (by decide) (by first | decide | omega) (by first | decide | omega) ?_
        refine x_istore (np := 41) (x := 3) (lo' := [x_r 75, iv_c a1, iv_c a2, iv_c v594, iv_c v596]) (by decide +kernel) (by first | decide | omega) (Nat.le_of_ble_eq_true rfl) rfl ?_
        refine x_iinc (np := 44) (i := 4) (j := 2147483649) (v := (1 + v596)) (lo' := [x_r 75, iv_c a1, iv_c a2, iv_c v594, iv_c (1 + v596)]) (by decide +kernel) (by decide) (by decide) rfl (by first | decide | omega) (by first | decide | omega) (by first | decide | omega) rfl ?_
        refine x_goto (np := 47) (x := 5) (by decide +kernel) ?_
        exact i600 v594 (1 + v596) (by first | decide | omega) (by first | decide | omega) (by first | decide | omega)
      have q610 : ¬ (v606 ≠ a1) := q610
      refine x_aload (np := 26) (x := 0) (by decide +kernel) rfl (x_nc_le (by decide)) ?_
      refine x_iload (np := 27) (x := 1) (by decide +kernel) rfl la1 ?_
      refine x_iload (np := 28) (x := 2) (by decide +kernel) rfl la2 ?_
      refine x_cP (t := 6) (mj := 200) (n := 3) (rc := 12) (ml := 3) (nr := 1) (np := 31) (as := [x_r 75, iv_c a1, iv_c a2]) (rest := [iv_c v594]) (lo1 := [x_r 75, iv_c a1, iv_c a2]) (by decide +kernel) (by decide) (by decide +kernel) (x_rb_of (by decide +kernel)) rfl rfl (x_wr (by decide) (x_wi la1 (x_wi la2 x_wn))) (x_wi (by first | decide | omega) x_wn) (by decide) rfl (c200_75 hJ  (by first | decide | omega) (by first | decide | omega)) (fun v611 l612 q613 => ?_)
      refine x_ifz (k := 0) (tg := 38) (np := 34) (by decide +kernel) (by decide) l612 (fun q614 => ?_) (fun q615 => ?_)
      · have q614 : v611 = 2147483648 := q614
        refine x_const (np := 39) (x := 9223372039002259456) (a := 2147483648) (by decide +kernel) (by decide) (by decide) ?_
        refine x_iadd (np := 40) (x := 0) (v := v594) (by decide +kernel) (by first | decide | omega) (by decide) (by first | decide | omega) (by first | decide | omega) ?_
        refine x_istore (np := 41) (x := 3) (lo' := [x_r 75, iv_c a1, iv_c a2, iv_c v594, iv_c v596]) (by decide +kernel) (by first | decide | omega) (Nat.le_of_ble_eq_true rfl) rfl ?_
        refine x_iinc (np := 44) (i := 4) (j := 2147483649) (v := (1 + v596)) (lo' := [x_r 75, iv_c a1, iv_c a2, iv_c v594, iv_c (1 + v596)]) (by decide +kernel) (by decide) (by decide) rfl (by first | decide | omega) (by first | decide | omega) (by first | decide | omega) rfl ?_
        refine x_goto (np := 47) (x := 5) (by decide +kernel) ?_
        exact i600 v594 (1 + v596) (by first | decide | omega) (by first | decide | omega) (by first | decide | omega)
      have q615 : ¬ (v611 = 2147483648) := q615
      refine x_const (np := 35) (x := 9223372043297226753) (a := 2147483649) (by decide +kernel) (by decide) (by decide) ?_
      refine x_goto (np := 38) (x := 39) (by decide +kernel) ?_
      refine x_addA (by rw [tb_b208]; decide +kernel) (by first | decide | omega) (by decide) (fun v616 l617 => ?_)
      refine x_istore (np := 41) (x := 3) (lo' := [x_r 75, iv_c a1, iv_c a2, iv_c v616, iv_c v596]) (by decide +kernel) l617 (Nat.le_of_ble_eq_true rfl) rfl ?_
      refine x_iinc (np := 44) (i := 4) (j := 2147483649) (v := (1 + v596)) (lo' := [x_r 75, iv_c a1, iv_c a2, iv_c v616, iv_c (1 + v596)]) (by decide +kernel) (by decide) (by decide) rfl (by first | decide | omega) (by first | decide | omega) (by first | decide | omega) rfl ?_
      refine x_goto (np := 47) (x := 5) (by decide +kernel) ?_
      exact i600 v616 (1 + v596) (by first | decide | omega) (by first | decide | omega) (by first | decide | omega)
  exact p598 _ 2147483648 2147483648 (Nat.lt_succ_self _) (by first | decide | omega) (by first | decide | omega)
set_option maxHeartbeats 0 in
/-- LentNamesModel.holdsLine(I)Z -/
theorem c198_75 {sc : Nat × Nat} {d a1 : Nat} {h : xh} (hJ : J h) (ba1 : 2147483648 ≤ a1 ∧ a1 ≤ 2147483657) (hr0 : a1 < (h 76 290)) (hW : WT 76 h) : X sc 198 d (xI fun r h' => J h' ∧ Fr 4294967296 h h' ∧ (2147483648 ≤ r ∧ r ≤ 2147483649)) 0 0 0 [x_r 75, iv_c a1, 147573952589676412928, 147573952589676412928, 147573952589676412928, 147573952589676412928, 147573952589676412928, 147573952589676412928, 147573952589676412928] [] h := by
  have la1 : a1 < 4294967296 := by first | decide | omega
  have hF := Fr.refl 4294967296 h
  have b1 := jB (e := 290) 0 hJ rg_76_290_0_1 (by first | decide | omega) (by first | decide | omega)
  refine x_const (np := 1) (x := 9223372039002259456) (a := 2147483648) (by decide +kernel) (by decide) (by decide) ?_
  refine x_istore (np := 2) (x := 2) (lo' := [x_r 75, iv_c a1, iv_c 2147483648, 147573952589676412928, 147573952589676412928, 147573952589676412928, 147573952589676412928, 147573952589676412928, 147573952589676412928]) (by decide +kernel) (by decide) (Nat.le_of_ble_eq_true rfl) rfl ?_
  refine x_const (np := 5) (x := 9223373288837742883) (a := 2147483939) (by decide +kernel) (by decide) (by decide) ?_
  refine x_const (np := 6) (x := 9223372051887161347) (a := 2147483651) (by decide +kernel) (by decide) (by decide) ?_
  refine x_iload (np := 7) (x := 1) (by decide +kernel) rfl la1 ?_
  obtain ⟨u2, q3⟩ : ∃ z, a1 = 2147483648 + z := ⟨a1 - 2147483648, by first | decide | omega⟩
  refine x_imul (np := 8) (x := 0) (i := 3) (j := u2) (v := (2147483648 + 3 * u2)) (by decide +kernel) (by first | decide | omega) (by first | decide | omega) (by first | decide | omega) (by first | decide | omega) (by decide) la1 ?_
  refine x_iadd (np := 9) (x := 0) (v := (2147483939 + 3 * u2)) (by decide +kernel) (by decide) (by first | decide | omega) (by first | decide | omega) (by first | decide | omega) ?_
  refine x_istore (np := 10) (x := 3) (lo' := [x_r 75, iv_c a1, iv_c 2147483648, iv_c (2147483939 + 3 * u2), 147573952589676412928, 147573952589676412928, 147573952589676412928, 147573952589676412928, 147573952589676412928]) (by decide +kernel) (by first | decide | omega) (Nat.le_of_ble_eq_true rfl) rfl ?_
  refine x_aload (np := 11) (x := 0) (by decide +kernel) rfl (x_nc_le (by decide)) ?_
  have q5 : h 75 1 = 76 := by have z := jB (e := 1) 0 hJ rg_75_1_0_1 (by decide) (by decide); omega
  refine x_getR (np := 14) (x := 705) (f := 1) (q := 76) (by decide +kernel) (by decide) (by decide +kernel) q5 ?_
  refine x_iload (np := 15) (x := 3) (by decide +kernel) rfl (by first | decide | omega) ?_
  refine x_const (np := 16) (x := 9223372043297226753) (a := 2147483649) (by decide +kernel) (by decide) (by decide) ?_
  refine x_iadd (np := 17) (x := 0) (v := (2147483940 + 3 * u2)) (by decide +kernel) (by first | decide | omega) (by decide) (by first | decide | omega) (by first | decide | omega) ?_
  have b6 := jB (e := (292 + 3 * u2)) u2 hJ rg_76_292_3_10 (by first | decide | omega) (by first | decide | omega)
  refine x_aldC (np := 18) (x := 0) (n := 1952) (i := (292 + 3 * u2)) (q := ((h 76 (292 + 3 * u2)))) (by decide +kernel) (by decide +kernel) (by first | decide | omega) (by first | decide | omega) (by decide) rfl (fun l7 => ?_)
  refine x_istore (np := 20) (x := 4) (lo' := [x_r 75, iv_c a1, iv_c 2147483648, iv_c (2147483939 + 3 * u2), iv_c ((h 76 (292 + 3 * u2))), 147573952589676412928, 147573952589676412928, 147573952589676412928, 147573952589676412928]) (by decide +kernel) l7 (Nat.le_of_ble_eq_true rfl) rfl ?_
  have p5149 : ∀ (n : Nat) (v5138 : Nat) (v5140 : Nat) (w5142 : Nat) (w5143 : Nat) (w5144 : Nat) (w5145 : Nat) (h5146 : xh), 4294967296 - v5140 < n → (2147483648 ≤ v5138 ∧ v5138 ≤ 2147484048) → (2147483648 ≤ v5140 ∧ v5140 ≤ 2147484048) → v5138 ≤ v5140 → J h5146 → Fr 4294967296 h h5146 → Hl h (h 76 (293 + 3 * u2)) v5140 v5138 → X sc 198 d (xI fun r h' => J h' ∧ Fr 4294967296 h h' ∧ (2147483648 ≤ r ∧ r ≤ 2147483649)) 0 0 20 [x_r 75, iv_c a1, iv_c v5138, iv_c (2147483939 + 3 * u2), iv_c v5140, w5142, w5143, w5144, w5145] [] h5146 := by
    intro n
    induction n with
    | zero => intro v5138 v5140 w5142 w5143 w5144 w5145 h5146 q5152; exact absurd q5152 (Nat.not_lt_zero _)
    | succ n i5153 =>
      intro v5138 v5140 w5142 w5143 w5144 w5145 h5146 q5152 b5139 b5141 b5150 j5148 f5147 m5151
      have f5154 := Fr.trans hF f5147 (by decide)
      refine x_iload (np := 22) (x := 4) (by decide +kernel) rfl (by first | decide | omega) ?_
      refine x_aload (np := 23) (x := 0) (by decide +kernel) rfl (x_nc_le (by decide)) ?_
      have q5155 : h5146 75 1 = 76 := by have z := jB (e := 1) 0 j5148 rg_75_1_0_1 (by decide) (by decide); omega
      refine x_getR (np := 26) (x := 705) (f := 1) (q := 76) (by decide +kernel) (by decide) (by decide +kernel) q5155 ?_
      refine x_iload (np := 27) (x := 3) (by decide +kernel) rfl (by first | decide | omega) ?_
      refine x_const (np := 28) (x := 9223372047592194050) (a := 2147483650) (by decide +kernel) (by decide) (by decide) ?_
      refine x_iadd (np := 29) (x := 0) (v := (2147483941 + 3 * u2)) (by decide +kernel) (by first | decide | omega) (by decide) (by first | decide | omega) (by first | decide | omega) ?_
      have q5156 : h5146 76 (293 + 3 * u2) = h 76 (293 + 3 * u2) := jK u2 f5147 rg_76_293_3_10 (by first | decide | omega) (by first | decide | omega) (by decide)
      have b5157 := jB (e := (293 + 3 * u2)) u2 hJ rg_76_293_3_10 (by first | decide | omega) (by first | decide | omega)
      refine x_aldC (np := 30) (x := 0) (n := 1952) (i := (293 + 3 * u2)) (q := ((h 76 (293 + 3 * u2)))) (by decide +kernel) (by decide +kernel) (by first | decide | omega) (by first | decide | omega) (by decide) q5156 (fun l5158 => ?_)
      refine x_icmp (k := 3) (tg := 270) (np := 33) (by decide +kernel) (by decide) (by first | decide | omega) l5158 (fun q5159 => ?_) (fun q5160 => ?_)
      · have q5159 : ((h 76 (293 + 3 * u2))) ≤ v5140 := q5159
        refine x_iload (np := 271) (x := 2) (by decide +kernel) rfl (by first | decide | omega) ?_
        refine x_ifz (k := 0) (tg := 284) (np := 274) (by decide +kernel) (by decide) (by first | decide | omega) (fun q5161 => ?_) (fun q5162 => ?_)
        · have q5161 : v5138 = 2147483648 := q5161
          refine x_const (np := 285) (x := 9223372043297226753) (a := 2147483649) (by decide +kernel) (by decide) (by decide) ?_
          refine x_goto (np := 288) (x := 289) (by decide +kernel) ?_
          refine x_retI (np := 290) (x := 0) (by decide +kernel) (by decide) (Or.inr ⟨by decide +kernel, by first | decide | omega, by first | decide | omega⟩) ⟨_, rfl, (by decide), ?_⟩
          exact ⟨j5148, f5154, (by first | decide | omega)⟩
        have q5162 : ¬ (v5138 = 2147483648) := q5162
        refine x_aload (np := 275) (x := 0) (by decide +kernel) rfl (x_nc_le (by decide)) ?_
        have q5163 : h5146 75 15 = 82 := by have z := jB (e := 15) 0 j5148 rg_75_15_0_1 (by decide) (by decide); omega
        refine x_getR (np := 278) (x := 719) (f := 15) (q := 82) (by decide +kernel) (by decide) (by decide +kernel) q5163 ?_
        refine x_const (np := 279) (x := 9223372039002259456) (a := 2147483648) (by decide +kernel) (by decide) (by decide) ?_
        refine x_aldC (np := 280) (x := 0) (n := 400) (i := 0) (q := (h5146 82 0)) (by decide +kernel) (by decide +kernel) (by first | decide | omega) (by first | decide | omega) (by decide) rfl (fun l5164 => ?_)
        refine x_const (np := 281) (x := 9223372043297226753) (a := 2147483649) (by decide +kernel) (by decide) (by decide) ?_
        refine x_icmp (k := 1) (tg := 288) (np := 284) (by decide +kernel) (by decide) l5164 (by decide) (fun q5165 => ?_) (fun q5166 => ?_)
        · have q5165 : (h5146 82 0) ≠ 2147483649 := q5165
          refine x_const (np := 289) (x := 9223372039002259456) (a := 2147483648) (by decide +kernel) (by decide) (by decide) ?_
          refine x_retI (np := 290) (x := 0) (by decide +kernel) (by decide) (Or.inr ⟨by decide +kernel, by first | decide | omega, by first | decide | omega⟩) ⟨_, rfl, (by decide), ?_⟩
          exact ⟨j5148, f5154, (by first | decide | omega)⟩
        have q5166 : ¬ ((h5146 82 0) ≠ 2147483649) := q5166
        refine x_const (np := 285) (x := 9223372043297226753) (a := 2147483649) (by decide +kernel) (by decide) (by decide) ?_
        refine x_goto (np := 288) (x := 289) (by decide +kernel) ?_
        refine x_retI (np := 290) (x := 0) (by decide +kernel) (by decide) (Or.inr ⟨by decide +kernel, by first | decide | omega, by first | decide | omega⟩) ⟨_, rfl, (by decide), ?_⟩
        exact ⟨j5148, f5154, (by first | decide | omega)⟩
      have q5160 : ¬ (((h 76 (293 + 3 * u2))) ≤ v5140) := q5160
      refine x_aload (np := 34) (x := 0) (by decide +kernel) rfl (x_nc_le (by decide)) ?_
      have q5167 : h5146 75 1 = 76 := by have z := jB (e := 1) 0 j5148 rg_75_1_0_1 (by decide) (by decide); omega
      refine x_getR (np := 37) (x := 705) (f := 1) (q := 76) (by decide +kernel) (by decide) (by decide +kernel) q5167 ?_
      refine x_const (np := 40) (x := 9223373417686761793) (a := 2147483969) (by decide +kernel) (by decide) (by decide) ?_
      refine x_const (np := 41) (x := 9223372047592194050) (a := 2147483650) (by decide +kernel) (by decide) (by decide) ?_
      refine x_iload (np := 43) (x := 4) (by decide +kernel) rfl (by first | decide | omega) ?_
      obtain ⟨u5168, q5169⟩ : ∃ z, v5140 = 2147483648 + z := ⟨v5140 - 2147483648, by first | decide | omega⟩
      refine x_imul (np := 44) (x := 0) (i := 2) (j := u5168) (v := (2147483648 + 2 * u5168)) (by decide +kernel) (by first | decide | omega) (by first | decide | omega) (by first | decide | omega) (by first | decide | omega) (by decide) (by first | decide | omega) ?_
      refine x_iadd (np := 45) (x := 0) (v := (2147483969 + 2 * u5168)) (by decide +kernel) (by decide) (by first | decide | omega) (by first | decide | omega) (by first | decide | omega) ?_
      have q5171 : h5146 76 (321 + 2 * u5168) = h 76 (321 + 2 * u5168) := jK u5168 f5147 rg_76_321_2_400 (by first | decide | omega) (by first | decide | omega) (by decide)
      have b5172 := jB (e := (321 + 2 * u5168)) u5168 hJ rg_76_321_2_400 (by first | decide | omega) (by first | decide | omega)
      refine x_aldC (np := 46) (x := 0) (n := 1952) (i := (321 + 2 * u5168)) (q := ((h 76 (321 + 2 * u5168)))) (by decide +kernel) (by decide +kernel) (by first | decide | omega) (by first | decide | omega) (by decide) q5171 (fun l5173 => ?_)
      refine x_istore (np := 48) (x := 5) (lo' := [x_r 75, iv_c a1, iv_c v5138, iv_c (2147483939 + 3 * u2), iv_c v5140, iv_c ((h 76 (321 + 2 * u5168))), w5143, w5144, w5145]) (by decide +kernel) l5173 (Nat.le_of_ble_eq_true rfl) rfl ?_
      refine x_iload (np := 50) (x := 5) (by decide +kernel) rfl l5173 ?_
      refine x_const (np := 52) (x := 9223372073361997832) (a := 2147483656) (by decide +kernel) (by decide) (by decide) ?_
      refine x_icmp (k := 4) (tg := 99) (np := 55) (by decide +kernel) (by decide) l5173 (by decide) (fun q5174 => ?_) (fun q5175 => ?_)
      · have q5174 : 2147483656 < ((h 76 (321 + 2 * u5168))) := q5174
        refine x_iload (np := 101) (x := 5) (by decide +kernel) rfl l5173 ?_
        refine x_const (np := 103) (x := 9223372090541867020) (a := 2147483660) (by decide +kernel) (by decide) (by decide) ?_
        refine x_icmp (k := 1) (tg := 127) (np := 106) (by decide +kernel) (by decide) l5173 (by decide) (fun q5176 => ?_) (fun q5177 => ?_)
        · have q5176 : ((h 76 (321 + 2 * u5168))) ≠ 2147483660 := q5176
          obtain ⟨b5178, m5179⟩ := Hl.bin (u := u5168) m5151 (by first | decide | omega) (by first | decide | omega) (by first | decide | omega) (by first | decide | omega) (by first | decide | omega)
          obtain ⟨v5180, q5181⟩ : ∃ z, z + 1 = v5138 := ⟨v5138 - 1, by first | decide | omega⟩
          refine x_iinc (np := 130) (i := 2) (j := 2147483647) (v := v5180) (lo' := [x_r 75, iv_c a1, iv_c v5180, iv_c (2147483939 + 3 * u2), iv_c v5140, iv_c ((h 76 (321 + 2 * u5168))), w5143, w5144, w5145]) (by decide +kernel) (by decide) (by decide) rfl (by first | decide | omega) (by first | decide | omega) (by first | decide | omega) rfl ?_
          refine x_aload (np := 131) (x := 0) (by decide +kernel) rfl (x_nc_le (by decide)) ?_
          have q5182 : h5146 75 15 = 82 := by have z := jB (e := 15) 0 j5148 rg_75_15_0_1 (by decide) (by decide); omega
          refine x_getR (np := 134) (x := 719) (f := 15) (q := 82) (by decide +kernel) (by decide) (by decide +kernel) q5182 ?_
          refine x_iload (np := 135) (x := 2) (by decide +kernel) rfl (by first | decide | omega) ?_
          refine x_const (np := 136) (x := 9223372043297226753) (a := 2147483649) (by decide +kernel) (by decide) (by decide) ?_
          obtain ⟨v5183, q5184⟩ : ∃ z, z + 2147483649 = v5180 + 2147483648 := ⟨v5180 + 2147483648 - 2147483649, by first | decide | omega⟩
          refine x_isub (np := 137) (x := 0) (v := v5183) (by decide +kernel) (by first | decide | omega) (by decide) (by first | decide | omega) (by first | decide | omega) ?_
          obtain ⟨u5185, q5186⟩ : ∃ z, v5183 = 2147483648 + z := ⟨v5183 - 2147483648, by first | decide | omega⟩
          refine x_aldC (np := 138) (x := 0) (n := 400) (i := u5185) (q := (h5146 82 u5185)) (by decide +kernel) (by decide +kernel) (by first | decide | omega) (by first | decide | omega) (by decide) rfl (fun l5187 => ?_)
          refine x_istore (np := 140) (x := 6) (lo' := [x_r 75, iv_c a1, iv_c v5180, iv_c (2147483939 + 3 * u2), iv_c v5140, iv_c ((h 76 (321 + 2 * u5168))), iv_c (h5146 82 u5185), w5144, w5145]) (by decide +kernel) l5187 (Nat.le_of_ble_eq_true rfl) rfl ?_
          refine x_aload (np := 141) (x := 0) (by decide +kernel) rfl (x_nc_le (by decide)) ?_
          have q5188 : h5146 75 15 = 82 := by have z := jB (e := 15) 0 j5148 rg_75_15_0_1 (by decide) (by decide); omega
          refine x_getR (np := 144) (x := 719) (f := 15) (q := 82) (by decide +kernel) (by decide) (by decide +kernel) q5188 ?_
          refine x_iload (np := 145) (x := 2) (by decide +kernel) rfl (by first | decide | omega) ?_
          obtain ⟨u5189, q5190⟩ : ∃ z, v5180 = 2147483648 + z := ⟨v5180 - 2147483648, by first | decide | omega⟩
          refine x_aldC (np := 146) (x := 0) (n := 400) (i := u5189) (q := (h5146 82 u5189)) (by decide +kernel) (by decide +kernel) (by first | decide | omega) (by first | decide | omega) (by decide) rfl (fun l5191 => ?_)
          refine x_istore (np := 148) (x := 7) (lo' := [x_r 75, iv_c a1, iv_c v5180, iv_c (2147483939 + 3 * u2), iv_c v5140, iv_c ((h 76 (321 + 2 * u5168))), iv_c (h5146 82 u5185), iv_c (h5146 82 u5189), w5145]) (by decide +kernel) l5191 (Nat.le_of_ble_eq_true rfl) rfl ?_
          refine x_iload (np := 150) (x := 5) (by decide +kernel) rfl l5173 ?_
          refine x_const (np := 152) (x := 9223372081951932426) (a := 2147483658) (by decide +kernel) (by decide) (by decide) ?_
          refine x_icmp (k := 1) (tg := 170) (np := 155) (by decide +kernel) (by decide) l5173 (by decide) (fun q5192 => ?_) (fun q5193 => ?_)
          · have q5192 : ((h 76 (321 + 2 * u5168))) ≠ 2147483658 := q5192
            refine x_iload (np := 172) (x := 5) (by decide +kernel) rfl l5173 ?_
            refine x_const (np := 174) (x := 9223372086246899723) (a := 2147483659) (by decide +kernel) (by decide) (by decide) ?_
            refine x_icmp (k := 1) (tg := 192) (np := 177) (by decide +kernel) (by decide) l5173 (by decide) (fun q5194 => ?_) (fun q5195 => ?_)
            · have q5194 : ((h 76 (321 + 2 * u5168))) ≠ 2147483659 := q5194
              refine x_iload (np := 194) (x := 5) (by decide +kernel) rfl l5173 ?_
              refine x_const (np := 196) (x := 9223372094836834317) (a := 2147483661) (by decide +kernel) (by decide) (by decide) ?_
              refine x_icmp (k := 1) (tg := 216) (np := 199) (by decide +kernel) (by decide) l5173 (by decide) (fun q5196 => ?_) (fun q5197 => ?_)
              · have q5196 : ((h 76 (321 + 2 * u5168))) ≠ 2147483661 := q5196
                refine x_iload (np := 218) (x := 6) (by decide +kernel) rfl l5187 ?_
                refine x_iload (np := 220) (x := 7) (by decide +kernel) rfl l5191 ?_
                refine x_addA (by rw [tb_b198]; decide +kernel) l5187 l5191 (fun v5198 l5199 => ?_)
                refine x_ifz (k := 5) (tg := 228) (np := 224) (by decide +kernel) (by decide) l5199 (fun q5200 => ?_) (fun q5201 => ?_)
                · have q5200 : v5198 ≤ 2147483648 := q5200
                  refine x_const (np := 229) (x := 9223372039002259456) (a := 2147483648) (by decide +kernel) (by decide) (by decide) ?_
                  refine x_istore (np := 231) (x := 8) (lo' := [x_r 75, iv_c a1, iv_c v5180, iv_c (2147483939 + 3 * u2), iv_c v5140, iv_c ((h 76 (321 + 2 * u5168))), iv_c (h5146 82 u5185), iv_c (h5146 82 u5189), iv_c 2147483648]) (by decide +kernel) (by decide) (Nat.le_of_ble_eq_true rfl) rfl ?_
                  refine x_aload (np := 232) (x := 0) (by decide +kernel) rfl (x_nc_le (by decide)) ?_
                  have q5202 : h5146 75 15 = 82 := by have z := jB (e := 15) 0 j5148 rg_75_15_0_1 (by decide) (by decide); omega
                  refine x_getR (np := 235) (x := 719) (f := 15) (q := 82) (by decide +kernel) (by decide) (by decide +kernel) q5202 ?_
                  refine x_iload (np := 236) (x := 2) (by decide +kernel) rfl (by first | decide | omega) ?_
                  refine x_const (np := 237) (x := 9223372043297226753) (a := 2147483649) (by decide +kernel) (by decide) (by decide) ?_
                  obtain ⟨v5203, q5204⟩ : ∃ z, z + 2147483649 = v5180 + 2147483648 := ⟨v5180 + 2147483648 - 2147483649, by first | decide | omega⟩
                  refine x_isub (np := 238) (x := 0) (v := v5203) (by decide +kernel) (by first | decide | omega) (by decide) (by first | decide | omega) (by first | decide | omega) ?_
                  refine x_iload (np := 240) (x := 5) (by decide +kernel) rfl l5173 ?_
                  refine x_const (np := 242) (x := 9223372077656965129) (a := 2147483657) (by decide +kernel) (by decide) (by decide) ?_
                  refine x_icmp (k := 1) (tg := 253) (np := 245) (by decide +kernel) (by decide) l5173 (by decide) (fun q5205 => ?_) (fun q5206 => ?_)
                  · have q5205 : ((h 76 (321 + 2 * u5168))) ≠ 2147483657 := q5205
                    refine x_iload (np := 255) (x := 8) (by decide +kernel) rfl (by decide) ?_
                    refine x_ifz (k := 0) (tg := 262) (np := 258) (by decide +kernel) (by decide) (by decide) (fun q5207 => ?_) (fun q5208 => ?_)
                    · have q5207 : 2147483648 = 2147483648 := q5207
                      refine x_const (np := 263) (x := 9223372039002259456) (a := 2147483648) (by decide +kernel) (by decide) (by decide) ?_
                      obtain ⟨u5209, q5210⟩ : ∃ z, v5203 = 2147483648 + z := ⟨v5203 - 2147483648, by first | decide | omega⟩
                      refine x_ast (np := 264) (x := 0) (kd := 1) (n := 400) (i := u5209) (by decide +kernel) (Or.inl rfl) (by decide +kernel) (by first | decide | omega) (by first | decide | omega) (by decide) (by decide) (fun z => absurd z (by decide)) ?_
                      have j5212 := jU (e := u5209) (v := 2147483648) u5209 j5148 rg_82_0_1_400 (by first | decide | omega) (by first | decide | omega) (by first | decide | omega)
                      have f5214 := jF (e := u5209) (v := 2147483648) u5209 f5154 rg_82_0_1_400 (by first | decide | omega) (by first | decide | omega) (by decide)
                      have f5215 := jF (e := u5209) (v := 2147483648) u5209 f5147 rg_82_0_1_400 (by first | decide | omega) (by first | decide | omega) (by decide)
                      generalize e5213 : x_up h5146 82 u5209 2147483648 = h5211 at j5212 f5214 f5215 ⊢
                      refine x_iinc (np := 267) (i := 4) (j := 2147483649) (v := (1 + v5140)) (lo' := [x_r 75, iv_c a1, iv_c v5180, iv_c (2147483939 + 3 * u2), iv_c (1 + v5140), iv_c ((h 76 (321 + 2 * u5168))), iv_c (h5146 82 u5185), iv_c (h5146 82 u5189), iv_c 2147483648]) (by decide +kernel) (by decide) (by decide) rfl (by first | decide | omega) (by first | decide | omega) (by first | decide | omega) rfl ?_
                      refine x_goto (np := 270) (x := 20) (by decide +kernel) ?_
                      exact i5153 v5180 (1 + v5140) (iv_c ((h 76 (321 + 2 * u5168)))) (iv_c (h5146 82 u5185)) (iv_c (h5146 82 u5189)) (iv_c 2147483648) h5211 (by first | decide | omega) (by first | decide | omega) (by first | decide | omega) (by first | decide | omega) j5212 f5215 (Hl.cast m5179 (by first | decide | omega) (by first | decide | omega))
                    have q5208 : ¬ (2147483648 = 2147483648) := q5208
                    exfalso; omega
                  have q5206 : ¬ (((h 76 (321 + 2 * u5168))) ≠ 2147483657) := q5206
                  refine x_iload (np := 247) (x := 6) (by decide +kernel) rfl l5187 ?_
                  refine x_iload (np := 249) (x := 7) (by decide +kernel) rfl l5191 ?_
                  refine x_addA (by rw [tb_b198]; decide +kernel) l5187 l5191 (fun v5216 l5217 => ?_)
                  refine x_goto (np := 253) (x := 263) (by decide +kernel) ?_
                  obtain ⟨u5218, q5219⟩ : ∃ z, v5203 = 2147483648 + z := ⟨v5203 - 2147483648, by first | decide | omega⟩
                  refine x_ast (np := 264) (x := 0) (kd := 1) (n := 400) (i := u5218) (by decide +kernel) (Or.inl rfl) (by decide +kernel) (by first | decide | omega) (by first | decide | omega) (by decide) l5217 (fun z => absurd z (by decide)) ?_
                  have j5221 := jU (e := u5218) (v := v5216) u5218 j5148 rg_82_0_1_400 (by first | decide | omega) (by first | decide | omega) (by first | decide | omega)
                  have f5223 := jF (e := u5218) (v := v5216) u5218 f5154 rg_82_0_1_400 (by first | decide | omega) (by first | decide | omega) (by decide)
                  have f5224 := jF (e := u5218) (v := v5216) u5218 f5147 rg_82_0_1_400 (by first | decide | omega) (by first | decide | omega) (by decide)
                  generalize e5222 : x_up h5146 82 u5218 v5216 = h5220 at j5221 f5223 f5224 ⊢
                  refine x_iinc (np := 267) (i := 4) (j := 2147483649) (v := (1 + v5140)) (lo' := [x_r 75, iv_c a1, iv_c v5180, iv_c (2147483939 + 3 * u2), iv_c (1 + v5140), iv_c ((h 76 (321 + 2 * u5168))), iv_c (h5146 82 u5185), iv_c (h5146 82 u5189), iv_c 2147483648]) (by decide +kernel) (by decide) (by decide) rfl (by first | decide | omega) (by first | decide | omega) (by first | decide | omega) rfl ?_
                  refine x_goto (np := 270) (x := 20) (by decide +kernel) ?_
                  exact i5153 v5180 (1 + v5140) (iv_c ((h 76 (321 + 2 * u5168)))) (iv_c (h5146 82 u5185)) (iv_c (h5146 82 u5189)) (iv_c 2147483648) h5220 (by first | decide | omega) (by first | decide | omega) (by first | decide | omega) (by first | decide | omega) j5221 f5224 (Hl.cast m5179 (by first | decide | omega) (by first | decide | omega))
                have q5201 : ¬ (v5198 ≤ 2147483648) := q5201
                refine x_const (np := 225) (x := 9223372043297226753) (a := 2147483649) (by decide +kernel) (by decide) (by decide) ?_
                refine x_goto (np := 228) (x := 229) (by decide +kernel) ?_
                refine x_istore (np := 231) (x := 8) (lo' := [x_r 75, iv_c a1, iv_c v5180, iv_c (2147483939 + 3 * u2), iv_c v5140, iv_c ((h 76 (321 + 2 * u5168))), iv_c (h5146 82 u5185), iv_c (h5146 82 u5189), iv_c 2147483649]) (by decide +kernel) (by decide) (Nat.le_of_ble_eq_true rfl) rfl ?_
                refine x_aload (np := 232) (x := 0) (by decide +kernel) rfl (x_nc_le (by decide)) ?_
                have q5225 : h5146 75 15 = 82 := by have z := jB (e := 15) 0 j5148 rg_75_15_0_1 (by decide) (by decide); omega
                refine x_getR (np := 235) (x := 719) (f := 15) (q := 82) (by decide +kernel) (by decide) (by decide +kernel) q5225 ?_
                refine x_iload (np := 236) (x := 2) (by decide +kernel) rfl (by first | decide | omega) ?_
                refine x_const (np := 237) (x := 9223372043297226753) (a := 2147483649) (by decide +kernel) (by decide) (by decide) ?_
                obtain ⟨v5226, q5227⟩ : ∃ z, z + 2147483649 = v5180 + 2147483648 := ⟨v5180 + 2147483648 - 2147483649, by first | decide | omega⟩
                refine x_isub (np := 238) (x := 0) (v := v5226) (by decide +kernel) (by first | decide | omega) (by decide) (by first | decide | omega) (by first | decide | omega) ?_
                refine x_iload (np := 240) (x := 5) (by decide +kernel) rfl l5173 ?_
                refine x_const (np := 242) (x := 9223372077656965129) (a := 2147483657) (by decide +kernel) (by decide) (by decide) ?_
                refine x_icmp (k := 1) (tg := 253) (np := 245) (by decide +kernel) (by decide) l5173 (by decide) (fun q5228 => ?_) (fun q5229 => ?_)
                · have q5228 : ((h 76 (321 + 2 * u5168))) ≠ 2147483657 := q5228
                  refine x_iload (np := 255) (x := 8) (by decide +kernel) rfl (by decide) ?_
                  refine x_ifz (k := 0) (tg := 262) (np := 258) (by decide +kernel) (by decide) (by decide) (fun q5230 => ?_) (fun q5231 => ?_)
                  · have q5230 : 2147483649 = 2147483648 := q5230
                    exfalso; omega
                  have q5231 : ¬ (2147483649 = 2147483648) := q5231
                  refine x_const (np := 259) (x := 9223372043297226753) (a := 2147483649) (by decide +kernel) (by decide) (by decide) ?_
                  refine x_goto (np := 262) (x := 263) (by decide +kernel) ?_
                  obtain ⟨u5232, q5233⟩ : ∃ z, v5226 = 2147483648 + z := ⟨v5226 - 2147483648, by first | decide | omega⟩
                  refine x_ast (np := 264) (x := 0) (kd := 1) (n := 400) (i := u5232) (by decide +kernel) (Or.inl rfl) (by decide +kernel) (by first | decide | omega) (by first | decide | omega) (by decide) (by decide) (fun z => absurd z (by decide)) ?_
                  have j5235 := jU (e := u5232) (v := 2147483649) u5232 j5148 rg_82_0_1_400 (by first | decide | omega) (by first | decide | omega) (by first | decide | omega)
                  have f5237 := jF (e := u5232) (v := 2147483649) u5232 f5154 rg_82_0_1_400 (by first | decide | omega) (by first | decide | omega) (by decide)
                  have f5238 := jF (e := u5232) (v := 2147483649) u5232 f5147 rg_82_0_1_400 (by first | decide | omega) (by first | decide | omega) (by decide)
                  generalize e5236 : x_up h5146 82 u5232 2147483649 = h5234 at j5235 f5237 f5238 ⊢
                  refine x_iinc (np := 267) (i := 4) (j := 2147483649) (v := (1 + v5140)) (lo' := [x_r 75, iv_c a1, iv_c v5180, iv_c (2147483939 + 3 * u2), iv_c (1 + v5140), iv_c ((h 76 (321 + 2 * u5168))), iv_c (h5146 82 u5185), iv_c (h5146 82 u5189), iv_c 2147483649]) (by decide +kernel) (by decide) (by decide) rfl (by first | decide | omega) (by first | decide | omega) (by first | decide | omega) rfl ?_
                  refine x_goto (np := 270) (x := 20) (by decide +kernel) ?_
                  exact i5153 v5180 (1 + v5140) (iv_c ((h 76 (321 + 2 * u5168)))) (iv_c (h5146 82 u5185)) (iv_c (h5146 82 u5189)) (iv_c 2147483649) h5234 (by first | decide | omega) (by first | decide | omega) (by first | decide | omega) (by first | decide | omega) j5235 f5238 (Hl.cast m5179 (by first | decide | omega) (by first | decide | omega))
                have q5229 : ¬ (((h 76 (321 + 2 * u5168))) ≠ 2147483657) := q5229
                refine x_iload (np := 247) (x := 6) (by decide +kernel) rfl l5187 ?_
                refine x_iload (np := 249) (x := 7) (by decide +kernel) rfl l5191 ?_
                refine x_addA (by rw [tb_b198]; decide +kernel) l5187 l5191 (fun v5239 l5240 => ?_)
                refine x_goto (np := 253) (x := 263) (by decide +kernel) ?_
                obtain ⟨u5241, q5242⟩ : ∃ z, v5226 = 2147483648 + z := ⟨v5226 - 2147483648, by first | decide | omega⟩
                refine x_ast (np := 264) (x := 0) (kd := 1) (n := 400) (i := u5241) (by decide +kernel) (Or.inl rfl) (by decide +kernel) (by first | decide | omega) (by first | decide | omega) (by decide) l5240 (fun z => absurd z (by decide)) ?_
                have j5244 := jU (e := u5241) (v := v5239) u5241 j5148 rg_82_0_1_400 (by first | decide | omega) (by first | decide | omega) (by first | decide | omega)
                have f5246 := jF (e := u5241) (v := v5239) u5241 f5154 rg_82_0_1_400 (by first | decide | omega) (by first | decide | omega) (by decide)
                have f5247 := jF (e := u5241) (v := v5239) u5241 f5147 rg_82_0_1_400 (by first | decide | omega) (by first | decide | omega) (by decide)
                generalize e5245 : x_up h5146 82 u5241 v5239 = h5243 at j5244 f5246 f5247 ⊢
                refine x_iinc (np := 267) (i := 4) (j := 2147483649) (v := (1 + v5140)) (lo' := [x_r 75, iv_c a1, iv_c v5180, iv_c (2147483939 + 3 * u2), iv_c (1 + v5140), iv_c ((h 76 (321 + 2 * u5168))), iv_c (h5146 82 u5185), iv_c (h5146 82 u5189), iv_c 2147483649]) (by decide +kernel) (by decide) (by decide) rfl (by first | decide | omega) (by first | decide | omega) (by first | decide | omega) rfl ?_
                refine x_goto (np := 270) (x := 20) (by decide +kernel) ?_
                exact i5153 v5180 (1 + v5140) (iv_c ((h 76 (321 + 2 * u5168)))) (iv_c (h5146 82 u5185)) (iv_c (h5146 82 u5189)) (iv_c 2147483649) h5243 (by first | decide | omega) (by first | decide | omega) (by first | decide | omega) (by first | decide | omega) j5244 f5247 (Hl.cast m5179 (by first | decide | omega) (by first | decide | omega))
              have q5197 : ¬ (((h 76 (321 + 2 * u5168))) ≠ 2147483661) := q5197
              refine x_iload (np := 201) (x := 6) (by decide +kernel) rfl l5187 ?_
              refine x_iload (np := 203) (x := 7) (by decide +kernel) rfl l5191 ?_
              refine x_addA (by rw [tb_b198]; decide +kernel) l5187 l5191 (fun v5248 l5249 => ?_)
              refine x_const (np := 205) (x := 9223372047592194050) (a := 2147483650) (by decide +kernel) (by decide) (by decide) ?_
              refine x_icmp (k := 1) (tg := 212) (np := 208) (by decide +kernel) (by decide) l5249 (by decide) (fun q5250 => ?_) (fun q5251 => ?_)
              · have q5250 : v5248 ≠ 2147483650 := q5250
                refine x_const (np := 213) (x := 9223372039002259456) (a := 2147483648) (by decide +kernel) (by decide) (by decide) ?_
                refine x_goto (np := 216) (x := 229) (by decide +kernel) ?_
                refine x_istore (np := 231) (x := 8) (lo' := [x_r 75, iv_c a1, iv_c v5180, iv_c (2147483939 + 3 * u2), iv_c v5140, iv_c ((h 76 (321 + 2 * u5168))), iv_c (h5146 82 u5185), iv_c (h5146 82 u5189), iv_c 2147483648]) (by decide +kernel) (by decide) (Nat.le_of_ble_eq_true rfl) rfl ?_
                refine x_aload (np := 232) (x := 0) (by decide +kernel) rfl (x_nc_le (by decide)) ?_
                have q5252 : h5146 75 15 = 82 := by have z := jB (e := 15) 0 j5148 rg_75_15_0_1 (by decide) (by decide); omega
                refine x_getR (np := 235) (x := 719) (f := 15) (q := 82) (by decide +kernel) (by decide) (by decide +kernel) q5252 ?_
                refine x_iload (np := 236) (x := 2) (by decide +kernel) rfl (by first | decide | omega) ?_
                refine x_const (np := 237) (x := 9223372043297226753) (a := 2147483649) (by decide +kernel) (by decide) (by decide) ?_
                obtain ⟨v5253, q5254⟩ : ∃ z, z + 2147483649 = v5180 + 2147483648 := ⟨v5180 + 2147483648 - 2147483649, by first | decide | omega⟩
                refine x_isub (np := 238) (x := 0) (v := v5253) (by decide +kernel) (by first | decide | omega) (by decide) (by first | decide | omega) (by first | decide | omega) ?_
                refine x_iload (np := 240) (x := 5) (by decide +kernel) rfl l5173 ?_
                refine x_const (np := 242) (x := 9223372077656965129) (a := 2147483657) (by decide +kernel) (by decide) (by decide) ?_
                refine x_icmp (k := 1) (tg := 253) (np := 245) (by decide +kernel) (by decide) l5173 (by decide) (fun q5255 => ?_) (fun q5256 => ?_)
                · have q5255 : ((h 76 (321 + 2 * u5168))) ≠ 2147483657 := q5255
                  refine x_iload (np := 255) (x := 8) (by decide +kernel) rfl (by decide) ?_
                  refine x_ifz (k := 0) (tg := 262) (np := 258) (by decide +kernel) (by decide) (by decide) (fun q5257 => ?_) (fun q5258 => ?_)
                  · have q5257 : 2147483648 = 2147483648 := q5257
                    refine x_const (np := 263) (x := 9223372039002259456) (a := 2147483648) (by decide +kernel) (by decide) (by decide) ?_
                    obtain ⟨u5259, q5260⟩ : ∃ z, v5253 = 2147483648 + z := ⟨v5253 - 2147483648, by first | decide | omega⟩
                    refine x_ast (np := 264) (x := 0) (kd := 1) (n := 400) (i := u5259) (by decide +kernel) (Or.inl rfl) (by decide +kernel) (by first | decide | omega) (by first | decide | omega) (by decide) (by decide) (fun z => absurd z (by decide)) ?_
                    have j5262 := jU (e := u5259) (v := 2147483648) u5259 j5148 rg_82_0_1_400 (by first | decide | omega) (by first | decide | omega) (by first | decide | omega)
                    have f5264 := jF (e := u5259) (v := 2147483648) u5259 f5154 rg_82_0_1_400 (by first | decide | omega) (by first | decide | omega) (by decide)
                    have f5265 := jF (e := u5259) (v := 2147483648) u5259 f5147 rg_82_0_1_400 (by first | decide | omega) (by first | decide | omega) (by decide)
                    generalize e5263 : x_up h5146 82 u5259 2147483648 = h5261 at j5262 f5264 f5265 ⊢
                    refine x_iinc (np := 267) (i := 4) (j := 2147483649) (v := (1 + v5140)) (lo' := [x_r 75, iv_c a1, iv_c v5180, iv_c (2147483939 + 3 * u2), iv_c (1 + v5140), iv_c ((h 76 (321 + 2 * u5168))), iv_c (h5146 82 u5185), iv_c (h5146 82 u5189), iv_c 2147483648]) (by decide +kernel) (by decide) (by decide) rfl (by first | decide | omega) (by first | decide | omega) (by first | decide | omega) rfl ?_
                    refine x_goto (np := 270) (x := 20) (by decide +kernel) ?_
                    exact i5153 v5180 (1 + v5140) (iv_c ((h 76 (321 + 2 * u5168)))) (iv_c (h5146 82 u5185)) (iv_c (h5146 82 u5189)) (iv_c 2147483648) h5261 (by first | decide | omega) (by first | decide | omega) (by first | decide | omega) (by first | decide | omega) j5262 f5265 (Hl.cast m5179 (by first | decide | omega) (by first | decide | omega))
                  have q5258 : ¬ (2147483648 = 2147483648) := q5258
                  exfalso; omega
                have q5256 : ¬ (((h 76 (321 + 2 * u5168))) ≠ 2147483657) := q5256
                exfalso; omega
              have q5251 : ¬ (v5248 ≠ 2147483650) := q5251
              refine x_const (np := 209) (x := 9223372043297226753) (a := 2147483649) (by decide +kernel) (by decide) (by decide) ?_
              refine x_goto (np := 212) (x := 229) (by decide +kernel) ?_
              refine x_istore (np := 231) (x := 8) (lo' := [x_r 75, iv_c a1, iv_c v5180, iv_c (2147483939 + 3 * u2), iv_c v5140, iv_c ((h 76 (321 + 2 * u5168))), iv_c (h5146 82 u5185), iv_c (h5146 82 u5189), iv_c 2147483649]) (by decide +kernel) (by decide) (Nat.le_of_ble_eq_true rfl) rfl ?_
              refine x_aload (np := 232) (x := 0) (by decide +kernel) rfl (x_nc_le (by decide)) ?_
              have q5266 : h5146 75 15 = 82 := by have z := jB (e := 15) 0 j5148 rg_75_15_0_1 (by decide) (by decide); omega
              refine x_getR (np := 235) (x := 719) (f := 15) (q := 82) (by decide +kernel) (by decide) (by decide +kernel) q5266 ?_
              refine x_iload (np := 236) (x := 2) (by decide +kernel) rfl (by first | decide | omega) ?_
              refine x_const (np := 237) (x := 9223372043297226753) (a := 2147483649) (by decide +kernel) (by decide) (by decide) ?_
              obtain ⟨v5267, q5268⟩ : ∃ z, z + 2147483649 = v5180 + 2147483648 := ⟨v5180 + 2147483648 - 2147483649, by first | decide | omega⟩
              refine x_isub (np := 238) (x := 0) (v := v5267) (by decide +kernel) (by first | decide | omega) (by decide) (by first | decide | omega) (by first | decide | omega) ?_
              refine x_iload (np := 240) (x := 5) (by decide +kernel) rfl l5173 ?_
              refine x_const (np := 242) (x := 9223372077656965129) (a := 2147483657) (by decide +kernel) (by decide) (by decide) ?_
              refine x_icmp (k := 1) (tg := 253) (np := 245) (by decide +kernel) (by decide) l5173 (by decide) (fun q5269 => ?_) (fun q5270 => ?_)
              · have q5269 : ((h 76 (321 + 2 * u5168))) ≠ 2147483657 := q5269
                refine x_iload (np := 255) (x := 8) (by decide +kernel) rfl (by decide) ?_
                refine x_ifz (k := 0) (tg := 262) (np := 258) (by decide +kernel) (by decide) (by decide) (fun q5271 => ?_) (fun q5272 => ?_)
                · have q5271 : 2147483649 = 2147483648 := q5271
                  exfalso; omega
                have q5272 : ¬ (2147483649 = 2147483648) := q5272
                refine x_const (np := 259) (x := 9223372043297226753) (a := 2147483649) (by decide +kernel) (by decide) (by decide) ?_
                refine x_goto (np := 262) (x := 263) (by decide +kernel) ?_
                obtain ⟨u5273, q5274⟩ : ∃ z, v5267 = 2147483648 + z := ⟨v5267 - 2147483648, by first | decide | omega⟩
                refine x_ast (np := 264) (x := 0) (kd := 1) (n := 400) (i := u5273) (by decide +kernel) (Or.inl rfl) (by decide +kernel) (by first | decide | omega) (by first | decide | omega) (by decide) (by decide) (fun z => absurd z (by decide)) ?_
                have j5276 := jU (e := u5273) (v := 2147483649) u5273 j5148 rg_82_0_1_400 (by first | decide | omega) (by first | decide | omega) (by first | decide | omega)
                have f5278 := jF (e := u5273) (v := 2147483649) u5273 f5154 rg_82_0_1_400 (by first | decide | omega) (by first | decide | omega) (by decide)
                have f5279 := jF (e := u5273) (v := 2147483649) u5273 f5147 rg_82_0_1_400 (by first | decide | omega) (by first | decide | omega) (by decide)
                generalize e5277 : x_up h5146 82 u5273 2147483649 = h5275 at j5276 f5278 f5279 ⊢
                refine x_iinc (np := 267) (i := 4) (j := 2147483649) (v := (1 + v5140)) (lo' := [x_r 75, iv_c a1, iv_c v5180, iv_c (2147483939 + 3 * u2), iv_c (1 + v5140), iv_c ((h 76 (321 + 2 * u5168))), iv_c (h5146 82 u5185), iv_c (h5146 82 u5189), iv_c 2147483649]) (by decide +kernel) (by decide) (by decide) rfl (by first | decide | omega) (by first | decide | omega) (by first | decide | omega) rfl ?_
                refine x_goto (np := 270) (x := 20) (by decide +kernel) ?_
                exact i5153 v5180 (1 + v5140) (iv_c ((h 76 (321 + 2 * u5168)))) (iv_c (h5146 82 u5185)) (iv_c (h5146 82 u5189)) (iv_c 2147483649) h5275 (by first | decide | omega) (by first | decide | omega) (by first | decide | omega) (by first | decide | omega) j5276 f5279 (Hl.cast m5179 (by first | decide | omega) (by first | decide | omega))
              have q5270 : ¬ (((h 76 (321 + 2 * u5168))) ≠ 2147483657) := q5270
              exfalso; omega
            have q5195 : ¬ (((h 76 (321 + 2 * u5168))) ≠ 2147483659) := q5195
            refine x_iload (np := 179) (x := 6) (by decide +kernel) rfl l5187 ?_
            refine x_iload (np := 181) (x := 7) (by decide +kernel) rfl l5191 ?_
            refine x_icmp (k := 5) (tg := 188) (np := 184) (by decide +kernel) (by decide) l5187 l5191 (fun q5280 => ?_) (fun q5281 => ?_)
            · have q5280 : (h5146 82 u5185) ≤ (h5146 82 u5189) := q5280
              refine x_const (np := 189) (x := 9223372039002259456) (a := 2147483648) (by decide +kernel) (by decide) (by decide) ?_
              refine x_goto (np := 192) (x := 229) (by decide +kernel) ?_
              refine x_istore (np := 231) (x := 8) (lo' := [x_r 75, iv_c a1, iv_c v5180, iv_c (2147483939 + 3 * u2), iv_c v5140, iv_c ((h 76 (321 + 2 * u5168))), iv_c (h5146 82 u5185), iv_c (h5146 82 u5189), iv_c 2147483648]) (by decide +kernel) (by decide) (Nat.le_of_ble_eq_true rfl) rfl ?_
              refine x_aload (np := 232) (x := 0) (by decide +kernel) rfl (x_nc_le (by decide)) ?_
              have q5282 : h5146 75 15 = 82 := by have z := jB (e := 15) 0 j5148 rg_75_15_0_1 (by decide) (by decide); omega
              refine x_getR (np := 235) (x := 719) (f := 15) (q := 82) (by decide +kernel) (by decide) (by decide +kernel) q5282 ?_
              refine x_iload (np := 236) (x := 2) (by decide +kernel) rfl (by first | decide | omega) ?_
              refine x_const (np := 237) (x := 9223372043297226753) (a := 2147483649) (by decide +kernel) (by decide) (by decide) ?_
              obtain ⟨v5283, q5284⟩ : ∃ z, z + 2147483649 = v5180 + 2147483648 := ⟨v5180 + 2147483648 - 2147483649, by first | decide | omega⟩
              refine x_isub (np := 238) (x := 0) (v := v5283) (by decide +kernel) (by first | decide | omega) (by decide) (by first | decide | omega) (by first | decide | omega) ?_
              refine x_iload (np := 240) (x := 5) (by decide +kernel) rfl l5173 ?_
              refine x_const (np := 242) (x := 9223372077656965129) (a := 2147483657) (by decide +kernel) (by decide) (by decide) ?_
              refine x_icmp (k := 1) (tg := 253) (np := 245) (by decide +kernel) (by decide) l5173 (by decide) (fun q5285 => ?_) (fun q5286 => ?_)
              · have q5285 : ((h 76 (321 + 2 * u5168))) ≠ 2147483657 := q5285
                refine x_iload (np := 255) (x := 8) (by decide +kernel) rfl (by decide) ?_
                refine x_ifz (k := 0) (tg := 262) (np := 258) (by decide +kernel) (by decide) (by decide) (fun q5287 => ?_) (fun q5288 => ?_)
                · have q5287 : 2147483648 = 2147483648 := q5287
                  refine x_const (np := 263) (x := 9223372039002259456) (a := 2147483648) (by decide +kernel) (by decide) (by decide) ?_
                  obtain ⟨u5289, q5290⟩ : ∃ z, v5283 = 2147483648 + z := ⟨v5283 - 2147483648, by first | decide | omega⟩
                  refine x_ast (np := 264) (x := 0) (kd := 1) (n := 400) (i := u5289) (by decide +kernel) (Or.inl rfl) (by decide +kernel) (by first | decide | omega) (by first | decide | omega) (by decide) (by decide) (fun z => absurd z (by decide)) ?_
                  have j5292 := jU (e := u5289) (v := 2147483648) u5289 j5148 rg_82_0_1_400 (by first | decide | omega) (by first | decide | omega) (by first | decide | omega)
                  have f5294 := jF (e := u5289) (v := 2147483648) u5289 f5154 rg_82_0_1_400 (by first | decide | omega) (by first | decide | omega) (by decide)
                  have f5295 := jF (e := u5289) (v := 2147483648) u5289 f5147 rg_82_0_1_400 (by first | decide | omega) (by first | decide | omega) (by decide)
                  generalize e5293 : x_up h5146 82 u5289 2147483648 = h5291 at j5292 f5294 f5295 ⊢
                  refine x_iinc (np := 267) (i := 4) (j := 2147483649) (v := (1 + v5140)) (lo' := [x_r 75, iv_c a1, iv_c v5180, iv_c (2147483939 + 3 * u2), iv_c (1 + v5140), iv_c ((h 76 (321 + 2 * u5168))), iv_c (h5146 82 u5185), iv_c (h5146 82 u5189), iv_c 2147483648]) (by decide +kernel) (by decide) (by decide) rfl (by first | decide | omega) (by first | decide | omega) (by first | decide | omega) rfl ?_
                  refine x_goto (np := 270) (x := 20) (by decide +kernel) ?_
                  exact i5153 v5180 (1 + v5140) (iv_c ((h 76 (321 + 2 * u5168)))) (iv_c (h5146 82 u5185)) (iv_c (h5146 82 u5189)) (iv_c 2147483648) h5291 (by first | decide | omega) (by first | decide | omega) (by first | decide | omega) (by first | decide | omega) j5292 f5295 (Hl.cast m5179 (by first | decide | omega) (by first | decide | omega))
                have q5288 : ¬ (2147483648 = 2147483648) := q5288
                exfalso; omega
              have q5286 : ¬ (((h 76 (321 + 2 * u5168))) ≠ 2147483657) := q5286
              exfalso; omega
            have q5281 : ¬ ((h5146 82 u5185) ≤ (h5146 82 u5189)) := q5281
            refine x_const (np := 185) (x := 9223372043297226753) (a := 2147483649) (by decide +kernel) (by decide) (by decide) ?_
            refine x_goto (np := 188) (x := 229) (by decide +kernel) ?_
            refine x_istore (np := 231) (x := 8) (lo' := [x_r 75, iv_c a1, iv_c v5180, iv_c (2147483939 + 3 * u2), iv_c v5140, iv_c ((h 76 (321 + 2 * u5168))), iv_c (h5146 82 u5185), iv_c (h5146 82 u5189), iv_c 2147483649]) (by decide +kernel) (by decide) (Nat.le_of_ble_eq_true rfl) rfl ?_
            refine x_aload (np := 232) (x := 0) (by decide +kernel) rfl (x_nc_le (by decide)) ?_
            have q5296 : h5146 75 15 = 82 := by have z := jB (e := 15) 0 j5148 rg_75_15_0_1 (by decide) (by decide); omega
            refine x_getR (np := 235) (x := 719) (f := 15) (q := 82) (by decide +kernel) (by decide) (by decide +kernel) q5296 ?_
            refine x_iload (np := 236) (x := 2) (by decide +kernel) rfl (by first | decide | omega) ?_
            refine x_const (np := 237) (x := 9223372043297226753) (a := 2147483649) (by decide +kernel) (by decide) (by decide) ?_
            obtain ⟨v5297, q5298⟩ : ∃ z, z + 2147483649 = v5180 + 2147483648 := ⟨v5180 + 2147483648 - 2147483649, by first | decide | omega⟩
            refine x_isub (np := 238) (x := 0) (v := v5297) (by decide +kernel) (by first | decide | omega) (by decide) (by first | decide | omega) (by first | decide | omega) ?_
            refine x_iload (np := 240) (x := 5) (by decide +kernel) rfl l5173 ?_
            refine x_const (np := 242) (x := 9223372077656965129) (a := 2147483657) (by decide +kernel) (by decide) (by decide) ?_
            refine x_icmp (k := 1) (tg := 253) (np := 245) (by decide +kernel) (by decide) l5173 (by decide) (fun q5299 => ?_) (fun q5300 => ?_)
            · have q5299 : ((h 76 (321 + 2 * u5168))) ≠ 2147483657 := q5299
              refine x_iload (np := 255) (x := 8) (by decide +kernel) rfl (by decide) ?_
              refine x_ifz (k := 0) (tg := 262) (np := 258) (by decide +kernel) (by decide) (by decide) (fun q5301 => ?_) (fun q5302 => ?_)
              · have q5301 : 2147483649 = 2147483648 := q5301
                exfalso; omega
              have q5302 : ¬ (2147483649 = 2147483648) := q5302
              refine x_const (np := 259) (x := 9223372043297226753) (a := 2147483649) (by decide +kernel) (by decide) (by decide) ?_
              refine x_goto (np := 262) (x := 263) (by decide +kernel) ?_
              obtain ⟨u5303, q5304⟩ : ∃ z, v5297 = 2147483648 + z := ⟨v5297 - 2147483648, by first | decide | omega⟩
              refine x_ast (np := 264) (x := 0) (kd := 1) (n := 400) (i := u5303) (by decide +kernel) (Or.inl rfl) (by decide +kernel) (by first | decide | omega) (by first | decide | omega) (by decide) (by decide) (fun z => absurd z (by decide)) ?_
              have j5306 := jU (e := u5303) (v := 2147483649) u5303 j5148 rg_82_0_1_400 (by first | decide | omega) (by first | decide | omega) (by first | decide | omega)
              have f5308 := jF (e := u5303) (v := 2147483649) u5303 f5154 rg_82_0_1_400 (by first | decide | omega) (by first | decide | omega) (by decide)
              have f5309 := jF (e := u5303) (v := 2147483649) u5303 f5147 rg_82_0_1_400 (by first | decide | omega) (by first | decide | omega) (by decide)
              generalize e5307 : x_up h5146 82 u5303 2147483649 = h5305 at j5306 f5308 f5309 ⊢
              refine x_iinc (np := 267) (i := 4) (j := 2147483649) (v := (1 + v5140)) (lo' := [x_r 75, iv_c a1, iv_c v5180, iv_c (2147483939 + 3 * u2), iv_c (1 + v5140), iv_c ((h 76 (321 + 2 * u5168))), iv_c (h5146 82 u5185), iv_c (h5146 82 u5189), iv_c 2147483649]) (by decide +kernel) (by decide) (by decide) rfl (by first | decide | omega) (by first | decide | omega) (by first | decide | omega) rfl ?_
              refine x_goto (np := 270) (x := 20) (by decide +kernel) ?_
              exact i5153 v5180 (1 + v5140) (iv_c ((h 76 (321 + 2 * u5168)))) (iv_c (h5146 82 u5185)) (iv_c (h5146 82 u5189)) (iv_c 2147483649) h5305 (by first | decide | omega) (by first | decide | omega) (by first | decide | omega) (by first | decide | omega) j5306 f5309 (Hl.cast m5179 (by first | decide | omega) (by first | decide | omega))
            have q5300 : ¬ (((h 76 (321 + 2 * u5168))) ≠ 2147483657) := q5300
            exfalso; omega
          have q5193 : ¬ (((h 76 (321 + 2 * u5168))) ≠ 2147483658) := q5193
          refine x_iload (np := 157) (x := 6) (by decide +kernel) rfl l5187 ?_
          refine x_iload (np := 159) (x := 7) (by decide +kernel) rfl l5191 ?_
          refine x_icmp (k := 3) (tg := 166) (np := 162) (by decide +kernel) (by decide) l5187 l5191 (fun q5310 => ?_) (fun q5311 => ?_)
          · have q5310 : (h5146 82 u5189) ≤ (h5146 82 u5185) := q5310
            refine x_const (np := 167) (x := 9223372039002259456) (a := 2147483648) (by decide +kernel) (by decide) (by decide) ?_
            refine x_goto (np := 170) (x := 229) (by decide +kernel) ?_
            refine x_istore (np := 231) (x := 8) (lo' := [x_r 75, iv_c a1, iv_c v5180, iv_c (2147483939 + 3 * u2), iv_c v5140, iv_c ((h 76 (321 + 2 * u5168))), iv_c (h5146 82 u5185), iv_c (h5146 82 u5189), iv_c 2147483648]) (by decide +kernel) (by decide) (Nat.le_of_ble_eq_true rfl) rfl ?_
            refine x_aload (np := 232) (x := 0) (by decide +kernel) rfl (x_nc_le (by decide)) ?_
            have q5312 : h5146 75 15 = 82 := by have z := jB (e := 15) 0 j5148 rg_75_15_0_1 (by decide) (by decide); omega
            refine x_getR (np := 235) (x := 719) (f := 15) (q := 82) (by decide +kernel) (by decide) (by decide +kernel) q5312 ?_
            refine x_iload (np := 236) (x := 2) (by decide +kernel) rfl (by first | decide | omega) ?_
            refine x_const (np := 237) (x := 9223372043297226753) (a := 2147483649) (by decide +kernel) (by decide) (by decide) ?_
            obtain ⟨v5313, q5314⟩ : ∃ z, z + 2147483649 = v5180 + 2147483648 := ⟨v5180 + 2147483648 - 2147483649, by first | decide | omega⟩
            refine x_isub (np := 238) (x := 0) (v := v5313) (by decide +kernel) (by first | decide | omega) (by decide) (by first | decide | omega) (by first | decide | omega) ?_
            refine x_iload (np := 240) (x := 5) (by decide +kernel) rfl l5173 ?_
            refine x_const (np := 242) (x := 9223372077656965129) (a := 2147483657) (by decide +kernel) (by decide) (by decide) ?_
            refine x_icmp (k := 1) (tg := 253) (np := 245) (by decide +kernel) (by decide) l5173 (by decide) (fun q5315 => ?_) (fun q5316 => ?_)
            · have q5315 : ((h 76 (321 + 2 * u5168))) ≠ 2147483657 := q5315
              refine x_iload (np := 255) (x := 8) (by decide +kernel) rfl (by decide) ?_
              refine x_ifz (k := 0) (tg := 262) (np := 258) (by decide +kernel) (by decide) (by decide) (fun q5317 => ?_) (fun q5318 => ?_)
              · have q5317 : 2147483648 = 2147483648 := q5317
                refine x_const (np := 263) (x := 9223372039002259456) (a := 2147483648) (by decide +kernel) (by decide) (by decide) ?_
                obtain ⟨u5319, q5320⟩ : ∃ z, v5313 = 2147483648 + z := ⟨v5313 - 2147483648, by first | decide | omega⟩
                refine x_ast (np := 264) (x := 0) (kd := 1) (n := 400) (i := u5319) (by decide +kernel) (Or.inl rfl) (by decide +kernel) (by first | decide | omega) (by first | decide | omega) (by decide) (by decide) (fun z => absurd z (by decide)) ?_
                have j5322 := jU (e := u5319) (v := 2147483648) u5319 j5148 rg_82_0_1_400 (by first | decide | omega) (by first | decide | omega) (by first | decide | omega)
                have f5324 := jF (e := u5319) (v := 2147483648) u5319 f5154 rg_82_0_1_400 (by first | decide | omega) (by first | decide | omega) (by decide)
                have f5325 := jF (e := u5319) (v := 2147483648) u5319 f5147 rg_82_0_1_400 (by first | decide | omega) (by first | decide | omega) (by decide)
                generalize e5323 : x_up h5146 82 u5319 2147483648 = h5321 at j5322 f5324 f5325 ⊢
                refine x_iinc (np := 267) (i := 4) (j := 2147483649) (v := (1 + v5140)) (lo' := [x_r 75, iv_c a1, iv_c v5180, iv_c (2147483939 + 3 * u2), iv_c (1 + v5140), iv_c ((h 76 (321 + 2 * u5168))), iv_c (h5146 82 u5185), iv_c (h5146 82 u5189), iv_c 2147483648]) (by decide +kernel) (by decide) (by decide) rfl (by first | decide | omega) (by first | decide | omega) (by first | decide | omega) rfl ?_
                refine x_goto (np := 270) (x := 20) (by decide +kernel) ?_
                exact i5153 v5180 (1 + v5140) (iv_c ((h 76 (321 + 2 * u5168)))) (iv_c (h5146 82 u5185)) (iv_c (h5146 82 u5189)) (iv_c 2147483648) h5321 (by first | decide | omega) (by first | decide | omega) (by first | decide | omega) (by first | decide | omega) j5322 f5325 (Hl.cast m5179 (by first | decide | omega) (by first | decide | omega))
              have q5318 : ¬ (2147483648 = 2147483648) := q5318
              exfalso; omega
            have q5316 : ¬ (((h 76 (321 + 2 * u5168))) ≠ 2147483657) := q5316
            exfalso; omega
          have q5311 : ¬ ((h5146 82 u5189) ≤ (h5146 82 u5185)) := q5311
          refine x_const (np := 163) (x := 9223372043297226753) (a := 2147483649) (by decide +kernel) (by decide) (by decide) ?_
          refine x_goto (np := 166) (x := 229) (by decide +kernel) ?_
          refine x_istore (np := 231) (x := 8) (lo' := [x_r 75, iv_c a1, iv_c v5180, iv_c (2147483939 + 3 * u2), iv_c v5140, iv_c ((h 76 (321 + 2 * u5168))), iv_c (h5146 82 u5185), iv_c (h5146 82 u5189), iv_c 2147483649]) (by decide +kernel) (by decide) (Nat.le_of_ble_eq_true rfl) rfl ?_
          refine x_aload (np := 232) (x := 0) (by decide +kernel) rfl (x_nc_le (by decide)) ?_
          have q5326 : h5146 75 15 = 82 := by have z := jB (e := 15) 0 j5148 rg_75_15_0_1 (by decide) (by decide); omega
          refine x_getR (np := 235) (x := 719) (f := 15) (q := 82) (by decide +kernel) (by decide) (by decide +kernel) q5326 ?_
          refine x_iload (np := 236) (x := 2) (by decide +kernel) rfl (by first | decide | omega) ?_
          refine x_const (np := 237) (x := 9223372043297226753) (a := 2147483649) (by decide +kernel) (by decide) (by decide) ?_
          obtain ⟨v5327, q5328⟩ : ∃ z, z + 2147483649 = v5180 + 2147483648 := ⟨v5180 + 2147483648 - 2147483649, by first | decide | omega⟩
          refine x_isub (np := 238) (x := 0) (v := v5327) (by decide +kernel) (by first | decide | omega) (by decide) (by first | decide | omega) (by first | decide | omega) ?_
          refine x_iload (np := 240) (x := 5) (by decide +kernel) rfl l5173 ?_
          refine x_const (np := 242) (x := 9223372077656965129) (a := 2147483657) (by decide +kernel) (by decide) (by decide) ?_
          refine x_icmp (k := 1) (tg := 253) (np := 245) (by decide +kernel) (by decide) l5173 (by decide) (fun q5329 => ?_) (fun q5330 => ?_)
          · have q5329 : ((h 76 (321 + 2 * u5168))) ≠ 2147483657 := q5329
            refine x_iload (np := 255) (x := 8) (by decide +kernel) rfl (by decide) ?_
            refine x_ifz (k := 0) (tg := 262) (np := 258) (by decide +kernel) (by decide) (by decide) (fun q5331 => ?_) (fun q5332 => ?_)
            · have q5331 : 2147483649 = 2147483648 := q5331
              exfalso; omega
            have q5332 : ¬ (2147483649 = 2147483648) := q5332
            refine x_const (np := 259) (x := 9223372043297226753) (a := 2147483649) (by decide +kernel) (by decide) (by decide) ?_
            refine x_goto (np := 262) (x := 263) (by decide +kernel) ?_
            obtain ⟨u5333, q5334⟩ : ∃ z, v5327 = 2147483648 + z := ⟨v5327 - 2147483648, by first | decide | omega⟩
            refine x_ast (np := 264) (x := 0) (kd := 1) (n := 400) (i := u5333) (by decide +kernel) (Or.inl rfl) (by decide +kernel) (by first | decide | omega) (by first | decide | omega) (by decide) (by decide) (fun z => absurd z (by decide)) ?_
            have j5336 := jU (e := u5333) (v := 2147483649) u5333 j5148 rg_82_0_1_400 (by first | decide | omega) (by first | decide | omega) (by first | decide | omega)
            have f5338 := jF (e := u5333) (v := 2147483649) u5333 f5154 rg_82_0_1_400 (by first | decide | omega) (by first | decide | omega) (by decide)
            have f5339 := jF (e := u5333) (v := 2147483649) u5333 f5147 rg_82_0_1_400 (by first | decide | omega) (by first | decide | omega) (by decide)
            generalize e5337 : x_up h5146 82 u5333 2147483649 = h5335 at j5336 f5338 f5339 ⊢
            refine x_iinc (np := 267) (i := 4) (j := 2147483649) (v := (1 + v5140)) (lo' := [x_r 75, iv_c a1, iv_c v5180, iv_c (2147483939 + 3 * u2), iv_c (1 + v5140), iv_c ((h 76 (321 + 2 * u5168))), iv_c (h5146 82 u5185), iv_c (h5146 82 u5189), iv_c 2147483649]) (by decide +kernel) (by decide) (by decide) rfl (by first | decide | omega) (by first | decide | omega) (by first | decide | omega) rfl ?_
            refine x_goto (np := 270) (x := 20) (by decide +kernel) ?_
            exact i5153 v5180 (1 + v5140) (iv_c ((h 76 (321 + 2 * u5168)))) (iv_c (h5146 82 u5185)) (iv_c (h5146 82 u5189)) (iv_c 2147483649) h5335 (by first | decide | omega) (by first | decide | omega) (by first | decide | omega) (by first | decide | omega) j5336 f5339 (Hl.cast m5179 (by first | decide | omega) (by first | decide | omega))
          have q5330 : ¬ (((h 76 (321 + 2 * u5168))) ≠ 2147483657) := q5330
          exfalso; omega
        have q5177 : ¬ (((h 76 (321 + 2 * u5168))) ≠ 2147483660) := q5177
        obtain ⟨b5340, m5341⟩ := Hl.not (u := u5168) m5151 (by first | decide | omega) (by first | decide | omega) (by first | decide | omega) (by first | decide | omega) (by first | decide | omega)
        refine x_aload (np := 107) (x := 0) (by decide +kernel) rfl (x_nc_le (by decide)) ?_
        have q5342 : h5146 75 15 = 82 := by have z := jB (e := 15) 0 j5148 rg_75_15_0_1 (by decide) (by decide); omega
        refine x_getR (np := 110) (x := 719) (f := 15) (q := 82) (by decide +kernel) (by decide) (by decide +kernel) q5342 ?_
        refine x_iload (np := 111) (x := 2) (by decide +kernel) rfl (by first | decide | omega) ?_
        refine x_const (np := 112) (x := 9223372043297226753) (a := 2147483649) (by decide +kernel) (by decide) (by decide) ?_
        obtain ⟨v5343, q5344⟩ : ∃ z, z + 2147483649 = v5138 + 2147483648 := ⟨v5138 + 2147483648 - 2147483649, by first | decide | omega⟩
        refine x_isub (np := 113) (x := 0) (v := v5343) (by decide +kernel) (by first | decide | omega) (by decide) (by first | decide | omega) (by first | decide | omega) ?_
        refine x_const (np := 114) (x := 9223372043297226753) (a := 2147483649) (by decide +kernel) (by decide) (by decide) ?_
        refine x_aload (np := 115) (x := 0) (by decide +kernel) rfl (x_nc_le (by decide)) ?_
        have q5345 : h5146 75 15 = 82 := by have z := jB (e := 15) 0 j5148 rg_75_15_0_1 (by decide) (by decide); omega
        refine x_getR (np := 118) (x := 719) (f := 15) (q := 82) (by decide +kernel) (by decide) (by decide +kernel) q5345 ?_
        refine x_iload (np := 119) (x := 2) (by decide +kernel) rfl (by first | decide | omega) ?_
        refine x_const (np := 120) (x := 9223372043297226753) (a := 2147483649) (by decide +kernel) (by decide) (by decide) ?_
        obtain ⟨v5346, q5347⟩ : ∃ z, z + 2147483649 = v5138 + 2147483648 := ⟨v5138 + 2147483648 - 2147483649, by first | decide | omega⟩
        refine x_isub (np := 121) (x := 0) (v := v5346) (by decide +kernel) (by first | decide | omega) (by decide) (by first | decide | omega) (by first | decide | omega) ?_
        obtain ⟨u5348, q5349⟩ : ∃ z, v5346 = 2147483648 + z := ⟨v5346 - 2147483648, by first | decide | omega⟩
        refine x_aldC (np := 122) (x := 0) (n := 400) (i := u5348) (q := (h5146 82 u5348)) (by decide +kernel) (by decide +kernel) (by first | decide | omega) (by first | decide | omega) (by decide) rfl (fun l5350 => ?_)
        refine x_subA (by rw [tb_b198]; decide +kernel) (by decide) l5350 (fun v5351 l5352 => ?_)
        obtain ⟨u5353, q5354⟩ : ∃ z, v5343 = 2147483648 + z := ⟨v5343 - 2147483648, by first | decide | omega⟩
        refine x_ast (np := 124) (x := 0) (kd := 1) (n := 400) (i := u5353) (by decide +kernel) (Or.inl rfl) (by decide +kernel) (by first | decide | omega) (by first | decide | omega) (by decide) l5352 (fun z => absurd z (by decide)) ?_
        have j5356 := jU (e := u5353) (v := v5351) u5353 j5148 rg_82_0_1_400 (by first | decide | omega) (by first | decide | omega) (by first | decide | omega)
        have f5358 := jF (e := u5353) (v := v5351) u5353 f5154 rg_82_0_1_400 (by first | decide | omega) (by first | decide | omega) (by decide)
        have f5359 := jF (e := u5353) (v := v5351) u5353 f5147 rg_82_0_1_400 (by first | decide | omega) (by first | decide | omega) (by decide)
        generalize e5357 : x_up h5146 82 u5353 v5351 = h5355 at j5356 f5358 f5359 ⊢
        refine x_goto (np := 127) (x := 264) (by decide +kernel) ?_
        refine x_iinc (np := 267) (i := 4) (j := 2147483649) (v := (1 + v5140)) (lo' := [x_r 75, iv_c a1, iv_c v5138, iv_c (2147483939 + 3 * u2), iv_c (1 + v5140), iv_c ((h 76 (321 + 2 * u5168))), w5143, w5144, w5145]) (by decide +kernel) (by decide) (by decide) rfl (by first | decide | omega) (by first | decide | omega) (by first | decide | omega) rfl ?_
        refine x_goto (np := 270) (x := 20) (by decide +kernel) ?_
        exact i5153 v5138 (1 + v5140) (iv_c ((h 76 (321 + 2 * u5168)))) w5143 w5144 w5145 h5355 (by first | decide | omega) (by first | decide | omega) (by first | decide | omega) (by first | decide | omega) j5356 f5359 (Hl.cast m5341 (by first | decide | omega) (by first | decide | omega))
      have q5175 : ¬ (2147483656 < ((h 76 (321 + 2 * u5168)))) := q5175
      obtain ⟨b5360, m5361⟩ := Hl.push (u := u5168) m5151 (by first | decide | omega) (by first | decide | omega) (by first | decide | omega) (by first | decide | omega)
      refine x_aload (np := 56) (x := 0) (by decide +kernel) rfl (x_nc_le (by decide)) ?_
      have q5362 : h5146 75 15 = 82 := by have z := jB (e := 15) 0 j5148 rg_75_15_0_1 (by decide) (by decide); omega
      refine x_getR (np := 59) (x := 719) (f := 15) (q := 82) (by decide +kernel) (by decide) (by decide +kernel) q5362 ?_
      refine x_iload (np := 60) (x := 2) (by decide +kernel) rfl (by first | decide | omega) ?_
      refine x_iload (np := 62) (x := 5) (by decide +kernel) rfl l5173 ?_
      refine x_const (np := 64) (x := 9223372073361997832) (a := 2147483656) (by decide +kernel) (by decide) (by decide) ?_
      refine x_icmp (k := 1) (tg := 85) (np := 67) (by decide +kernel) (by decide) l5173 (by decide) (fun q5363 => ?_) (fun q5364 => ?_)
      · have q5363 : ((h 76 (321 + 2 * u5168))) ≠ 2147483656 := q5363
        refine x_aload (np := 86) (x := 0) (by decide +kernel) rfl (x_nc_le (by decide)) ?_
        have q5365 : h5146 75 14 = 81 := by have z := jB (e := 14) 0 j5148 rg_75_14_0_1 (by decide) (by decide); omega
        refine x_getR (np := 89) (x := 718) (f := 14) (q := 81) (by decide +kernel) (by decide) (by decide +kernel) q5365 ?_
        refine x_iload (np := 91) (x := 5) (by decide +kernel) rfl l5173 ?_
        obtain ⟨u5366, q5367⟩ : ∃ z, ((h 76 (321 + 2 * u5168))) = 2147483648 + z := ⟨((h 76 (321 + 2 * u5168))) - 2147483648, by first | decide | omega⟩
        have q5368 : h5146 81 u5366 = h 81 u5366 := jK u5366 f5147 rg_81_0_1_8 (by first | decide | omega) (by first | decide | omega) (by decide)
        refine x_aldC (np := 92) (x := 0) (n := 8) (i := u5366) (q := (h 81 u5366)) (by decide +kernel) (by decide +kernel) (by first | decide | omega) (by first | decide | omega) (by decide) q5368 (fun l5369 => ?_)
        obtain ⟨u5370, q5371⟩ : ∃ z, v5138 = 2147483648 + z := ⟨v5138 - 2147483648, by first | decide | omega⟩
        refine x_ast (np := 93) (x := 0) (kd := 1) (n := 400) (i := u5370) (by decide +kernel) (Or.inl rfl) (by decide +kernel) (by first | decide | omega) (by first | decide | omega) (by decide) l5369 (fun z => absurd z (by decide)) ?_
        have j5373 := jU (e := u5370) (v := (h 81 u5366)) u5370 j5148 rg_82_0_1_400 (by first | decide | omega) (by first | decide | omega) (by first | decide | omega)
        have f5375 := jF (e := u5370) (v := (h 81 u5366)) u5370 f5154 rg_82_0_1_400 (by first | decide | omega) (by first | decide | omega) (by decide)
        have f5376 := jF (e := u5370) (v := (h 81 u5366)) u5370 f5147 rg_82_0_1_400 (by first | decide | omega) (by first | decide | omega) (by decide)
        generalize e5374 : x_up h5146 82 u5370 (h 81 u5366) = h5372 at j5373 f5375 f5376 ⊢
        refine x_iinc (np := 96) (i := 2) (j := 2147483649) (v := (1 + v5138)) (lo' := [x_r 75, iv_c a1, iv_c (1 + v5138), iv_c (2147483939 + 3 * u2), iv_c v5140, iv_c ((h 76 (321 + 2 * u5168))), w5143, w5144, w5145]) (by decide +kernel) (by decide) (by decide) rfl (by first | decide | omega) (by first | decide | omega) (by first | decide | omega) rfl ?_
        refine x_goto (np := 99) (x := 264) (by decide +kernel) ?_
        refine x_iinc (np := 267) (i := 4) (j := 2147483649) (v := (1 + v5140)) (lo' := [x_r 75, iv_c a1, iv_c (1 + v5138), iv_c (2147483939 + 3 * u2), iv_c (1 + v5140), iv_c ((h 76 (321 + 2 * u5168))), w5143, w5144, w5145]) (by decide +kernel) (by decide) (by decide) rfl (by first | decide | omega) (by first | decide | omega) (by first | decide | omega) rfl ?_
        refine x_goto (np := 270) (x := 20) (by decide +kernel) ?_
        exact i5153 (1 + v5138) (1 + v5140) (iv_c ((h 76 (321 + 2 * u5168)))) w5143 w5144 w5145 h5372 (by first | decide | omega) (by first | decide | omega) (by first | decide | omega) (by first | decide | omega) j5373 f5376 (Hl.cast m5361 (by first | decide | omega) (by first | decide | omega))
      have q5364 : ¬ (((h 76 (321 + 2 * u5168))) ≠ 2147483656) := q5364
      refine x_aload (np := 68) (x := 0) (by decide +kernel) rfl (x_nc_le (by decide)) ?_
      have q5377 : h5146 75 1 = 76 := by have z := jB (e := 1) 0 j5148 rg_75_1_0_1 (by decide) (by decide); omega
      refine x_getR (np := 71) (x := 705) (f := 1) (q := 76) (by decide +kernel) (by decide) (by decide +kernel) q5377 ?_
      refine x_const (np := 74) (x := 9223373417686761793) (a := 2147483969) (by decide +kernel) (by decide) (by decide) ?_
      refine x_const (np := 75) (x := 9223372047592194050) (a := 2147483650) (by decide +kernel) (by decide) (by decide) ?_
      refine x_iload (np := 77) (x := 4) (by decide +kernel) rfl (by first | decide | omega) ?_
      refine x_imul (np := 78) (x := 0) (i := 2) (j := u5168) (v := (2147483648 + 2 * u5168)) (by decide +kernel) (by first | decide | omega) (by first | decide | omega) (by first | decide | omega) (by first | decide | omega) (by decide) (by first | decide | omega) ?_
      refine x_iadd (np := 79) (x := 0) (v := (2147483969 + 2 * u5168)) (by decide +kernel) (by decide) (by first | decide | omega) (by first | decide | omega) (by first | decide | omega) ?_
      refine x_const (np := 80) (x := 9223372043297226753) (a := 2147483649) (by decide +kernel) (by decide) (by decide) ?_
      refine x_iadd (np := 81) (x := 0) (v := (2147483970 + 2 * u5168)) (by decide +kernel) (by first | decide | omega) (by decide) (by first | decide | omega) (by first | decide | omega) ?_
      have q5379 : h5146 76 (322 + 2 * u5168) = h 76 (322 + 2 * u5168) := jK u5168 f5147 rg_76_322_2_400 (by first | decide | omega) (by first | decide | omega) (by decide)
      refine x_aldC (np := 82) (x := 0) (n := 1952) (i := (322 + 2 * u5168)) (q := ((h 76 (322 + 2 * u5168)))) (by decide +kernel) (by decide +kernel) (by first | decide | omega) (by first | decide | omega) (by decide) q5379 (fun l5380 => ?_)
      refine x_goto (np := 85) (x := 92) (by decide +kernel) ?_
      obtain ⟨u5381, q5382⟩ : ∃ z, v5138 = 2147483648 + z := ⟨v5138 - 2147483648, by first | decide | omega⟩
      refine x_ast (np := 93) (x := 0) (kd := 1) (n := 400) (i := u5381) (by decide +kernel) (Or.inl rfl) (by decide +kernel) (by first | decide | omega) (by first | decide | omega) (by decide) l5380 (fun z => absurd z (by decide)) ?_
      have j5384 := jU (e := u5381) (v := ((h 76 (322 + 2 * u5168)))) u5381 j5148 rg_82_0_1_400 (by first | decide | omega) (by first | decide | omega) (by first | decide | omega)
      have f5386 := jF (e := u5381) (v := ((h 76 (322 + 2 * u5168)))) u5381 f5154 rg_82_0_1_400 (by first | decide | omega) (by first | decide | omega) (by decide)
      have f5387 := jF (e := u5381) (v := ((h 76 (322 + 2 * u5168)))) u5381 f5147 rg_82_0_1_400 (by first | decide | omega) (by first | decide | omega) (by decide)
      generalize e5385 : x_up h5146 82 u5381 ((h 76 (322 + 2 * u5168))) = h5383 at j5384 f5386 f5387 ⊢
      refine x_iinc (np := 96) (i := 2) (j := 2147483649) (v := (1 + v5138)) (lo' := [x_r 75, iv_c a1, iv_c (1 + v5138), iv_c (2147483939 + 3 * u2), iv_c v5140, iv_c ((h 76 (321 + 2 * u5168))), w5143, w5144, w5145]) (by decide +kernel) (by decide) (by decide) rfl (by first | decide | omega) (by first | decide | omega) (by first | decide | omega) rfl ?_
      refine x_goto (np := 99) (x := 264) (by decide +kernel) ?_
      refine x_iinc (np := 267) (i := 4) (j := 2147483649) (v := (1 + v5140)) (lo' := [x_r 75, iv_c a1, iv_c (1 + v5138), iv_c (2147483939 + 3 * u2), iv_c (1 + v5140), iv_c ((h 76 (321 + 2 * u5168))), w5143, w5144, w5145]) (by decide +kernel) (by decide) (by decide) rfl (by first | decide | omega) (by first | decide | omega) (by first | decide | omega) rfl ?_
      refine x_goto (np := 270) (x := 20) (by decide +kernel) ?_
      exact i5153 (1 + v5138) (1 + v5140) (iv_c ((h 76 (321 + 2 * u5168)))) w5143 w5144 w5145 h5383 (by first | decide | omega) (by first | decide | omega) (by first | decide | omega) (by first | decide | omega) j5384 f5387 (Hl.cast m5361 (by first | decide | omega) (by first | decide | omega))
  have b5388 := jB (e := (293 + 3 * u2)) u2 hJ rg_76_293_3_10 (by first | decide | omega) (by first | decide | omega)
  exact p5149 _ 2147483648 ((h 76 (292 + 3 * u2))) 147573952589676412928 147573952589676412928 147573952589676412928 147573952589676412928 h (Nat.lt_succ_self _) (by first | decide | omega) (by first | decide | omega) (by first | decide | omega) hJ (Fr.refl _ _) (WT.hl (u := u2) hW (by first | decide | omega) (by first | decide | omega) (by first | decide | omega))
set_option maxHeartbeats 0 in
/-- LentNamesModel.isGranted()Z -/
theorem c199_75 {sc : Nat × Nat} {d  : Nat} {h : xh} (hJ : J h) (hW : WT 76 h) : X sc 199 (d + 1) (xI fun r h' => J h' ∧ Fr 4294967296 h h' ∧ (2147483648 ≤ r ∧ r ≤ 2147483649)) 0 0 0 [x_r 75, 147573952589676412928] [] h := by
  have hF := Fr.refl 4294967296 h
  refine x_const (np := 1) (x := 9223372039002259456) (a := 2147483648) (by decide +kernel) (by decide) (by decide) ?_
  refine x_istore (np := 2) (x := 1) (lo' := [x_r 75, iv_c 2147483648]) (by decide +kernel) (by decide) (Nat.le_of_ble_eq_true rfl) rfl ?_
  have p340 : ∀ (n : Nat) (v335 : Nat) (h337 : xh), 4294967296 - v335 < n → (2147483648 ≤ v335 ∧ v335 ≤ 2147483658) → J h337 → Fr 4294967296 h h337 → X sc 199 (d + 1) (xI fun r h' => J h' ∧ Fr 4294967296 h h' ∧ (2147483648 ≤ r ∧ r ≤ 2147483649)) 0 0 2 [x_r 75, iv_c v335] [] h337 := by
    intro n
    induction n with
    | zero => intro v335 h337 q341; exact absurd q341 (Nat.not_lt_zero _)
    | succ n i342 =>
      intro v335 h337 q341 b336 j339 f338
      have f343 := Fr.trans hF f338 (by decide)
      refine x_aload (np := 3) (x := 0) (by decide +kernel) rfl (x_nc_le (by decide)) ?_
      have q344 : h337 75 1 = 76 := by have z := jB (e := 1) 0 j339 rg_75_1_0_1 (by decide) (by decide); omega
      refine x_getR (np := 6) (x := 705) (f := 1) (q := 76) (by decide +kernel) (by decide) (by decide +kernel) q344 ?_
      refine x_const (np := 8) (x := 9223372064772063238) (a := 2147483654) (by decide +kernel) (by decide) (by decide) ?_
      have q345 : h337 76 6 = h 76 6 := jK 0 f338 rg_76_6_0_1 (by first | decide | omega) (by first | decide | omega) (by decide)
      refine x_aldC (np := 9) (x := 0) (n := 1952) (i := 6) (q := (h 76 6)) (by decide +kernel) (by decide +kernel) (by first | decide | omega) (by first | decide | omega) (by decide) q345 (fun l346 => ?_)
      refine x_const (np := 10) (x := 9223372043297226753) (a := 2147483649) (by decide +kernel) (by decide) (by decide) ?_
      refine x_icmp (k := 1) (tg := 61) (np := 13) (by decide +kernel) (by decide) l346 (by decide) (fun q347 => ?_) (fun q348 => ?_)
      · have q347 : (h 76 6) ≠ 2147483649 := q347
        refine x_const (np := 62) (x := 9223372043297226753) (a := 2147483649) (by decide +kernel) (by decide) (by decide) ?_
        refine x_retI (np := 63) (x := 0) (by decide +kernel) (by decide) (Or.inr ⟨by decide +kernel, by first | decide | omega, by first | decide | omega⟩) ⟨_, rfl, (by decide), ?_⟩
        exact ⟨j339, f343, (by first | decide | omega)⟩
      have q348 : ¬ ((h 76 6) ≠ 2147483649) := q348
      refine x_iload (np := 14) (x := 1) (by decide +kernel) rfl (by first | decide | omega) ?_
      refine x_aload (np := 15) (x := 0) (by decide +kernel) rfl (x_nc_le (by decide)) ?_
      have q349 : h337 75 1 = 76 := by have z := jB (e := 1) 0 j339 rg_75_1_0_1 (by decide) (by decide); omega
      refine x_getR (np := 18) (x := 705) (f := 1) (q := 76) (by decide +kernel) (by decide) (by decide +kernel) q349 ?_
      refine x_const (np := 21) (x := 9223373284542775586) (a := 2147483938) (by decide +kernel) (by decide) (by decide) ?_
      have q350 : h337 76 290 = h 76 290 := jK 0 f338 rg_76_290_0_1 (by first | decide | omega) (by first | decide | omega) (by decide)
      have b351 := jB (e := 290) 0 hJ rg_76_290_0_1 (by first | decide | omega) (by first | decide | omega)
      refine x_aldC (np := 22) (x := 0) (n := 1952) (i := 290) (q := (h 76 290)) (by decide +kernel) (by decide +kernel) (by first | decide | omega) (by first | decide | omega) (by decide) q350 (fun l352 => ?_)
      refine x_icmp (k := 3) (tg := 61) (np := 25) (by decide +kernel) (by decide) (by first | decide | omega) l352 (fun q353 => ?_) (fun q354 => ?_)
      · have q353 : (h 76 290) ≤ v335 := q353
        refine x_const (np := 62) (x := 9223372043297226753) (a := 2147483649) (by decide +kernel) (by decide) (by decide) ?_
        refine x_retI (np := 63) (x := 0) (by decide +kernel) (by decide) (Or.inr ⟨by decide +kernel, by first | decide | omega, by first | decide | omega⟩) ⟨_, rfl, (by decide), ?_⟩
        exact ⟨j339, f343, (by first | decide | omega)⟩
      have q354 : ¬ ((h 76 290) ≤ v335) := q354
      refine x_aload (np := 26) (x := 0) (by decide +kernel) rfl (x_nc_le (by decide)) ?_
      refine x_iload (np := 27) (x := 1) (by decide +kernel) rfl (by first | decide | omega) ?_
      have q355 : h337 76 290 = h 76 290 := jK 0 f338 rg_76_290_0_1 (by first | decide | omega) (by first | decide | omega) (by decide)
      have m359 := WT.fr hW hJ f338 (by decide)
      refine x_cI (t := 6) (mj := 198) (n := 2) (rc := 12) (ml := 9) (nr := 0) (np := 30) (as := [x_r 75, iv_c v335]) (rest := []) (lo1 := [x_r 75, iv_c v335, 147573952589676412928, 147573952589676412928, 147573952589676412928, 147573952589676412928, 147573952589676412928, 147573952589676412928, 147573952589676412928]) (by decide +kernel) (by decide) (by decide +kernel) (x_rb_of (by decide +kernel)) rfl rfl (x_wr (by decide) (x_wi (by first | decide | omega) x_wn)) x_wn (by decide) rfl (c198_75 j339  (by first | decide | omega) (by first | decide | omega) m359) (fun v356 h360 l357 q358 => ?_)
      obtain ⟨j361, f362, b363⟩ := q358
      have f364 := Fr.trans f343 f362 (by decide)
      have f365 := Fr.trans f338 f362 (by decide)
      refine x_ifz (k := 0) (tg := 55) (np := 33) (by decide +kernel) (by decide) l357 (fun q366 => ?_) (fun q367 => ?_)
      · have q366 : v356 = 2147483648 := q366
        refine x_iinc (np := 58) (i := 1) (j := 2147483649) (v := (1 + v335)) (lo' := [x_r 75, iv_c (1 + v335)]) (by decide +kernel) (by decide) (by decide) rfl (by first | decide | omega) (by first | decide | omega) (by first | decide | omega) rfl ?_
        refine x_goto (np := 61) (x := 2) (by decide +kernel) ?_
        exact i342 (1 + v335) h360 (by first | decide | omega) (by first | decide | omega) j361 f365
      have q367 : ¬ (v356 = 2147483648) := q367
      refine x_aload (np := 34) (x := 0) (by decide +kernel) rfl (x_nc_le (by decide)) ?_
      have q368 : h360 75 1 = 76 := by have z := jB (e := 1) 0 j361 rg_75_1_0_1 (by decide) (by decide); omega
      refine x_getR (np := 37) (x := 705) (f := 1) (q := 76) (by decide +kernel) (by decide) (by decide +kernel) q368 ?_
      refine x_const (np := 40) (x := 9223373288837742883) (a := 2147483939) (by decide +kernel) (by decide) (by decide) ?_
      refine x_const (np := 41) (x := 9223372051887161347) (a := 2147483651) (by decide +kernel) (by decide) (by decide) ?_
      refine x_iload (np := 42) (x := 1) (by decide +kernel) rfl (by first | decide | omega) ?_
      obtain ⟨u369, q370⟩ : ∃ z, v335 = 2147483648 + z := ⟨v335 - 2147483648, by first | decide | omega⟩
      refine x_imul (np := 43) (x := 0) (i := 3) (j := u369) (v := (2147483648 + 3 * u369)) (by decide +kernel) (by first | decide | omega) (by first | decide | omega) (by first | decide | omega) (by first | decide | omega) (by decide) (by first | decide | omega) ?_
      refine x_iadd (np := 44) (x := 0) (v := (2147483939 + 3 * u369)) (by decide +kernel) (by decide) (by first | decide | omega) (by first | decide | omega) (by first | decide | omega) ?_
      have q372 : h360 76 (291 + 3 * u369) = h337 76 (291 + 3 * u369) := jK u369 f362 rg_76_291_3_10 (by first | decide | omega) (by first | decide | omega) (by decide)
      have q373 : h337 76 (291 + 3 * u369) = h 76 (291 + 3 * u369) := jK u369 f338 rg_76_291_3_10 (by first | decide | omega) (by first | decide | omega) (by decide)
      refine x_aldC (np := 45) (x := 0) (n := 1952) (i := (291 + 3 * u369)) (q := ((h 76 (291 + 3 * u369)))) (by decide +kernel) (by decide +kernel) (by first | decide | omega) (by first | decide | omega) (by decide) (q372.trans q373) (fun l374 => ?_)
      refine x_const (np := 46) (x := 9223372043297226753) (a := 2147483649) (by decide +kernel) (by decide) (by decide) ?_
      refine x_icmp (k := 1) (tg := 53) (np := 49) (by decide +kernel) (by decide) l374 (by decide) (fun q375 => ?_) (fun q376 => ?_)
      · have q375 : ((h 76 (291 + 3 * u369))) ≠ 2147483649 := q375
        refine x_const (np := 54) (x := 9223372039002259456) (a := 2147483648) (by decide +kernel) (by decide) (by decide) ?_
        refine x_retI (np := 55) (x := 0) (by decide +kernel) (by decide) (Or.inr ⟨by decide +kernel, by first | decide | omega, by first | decide | omega⟩) ⟨_, rfl, (by decide), ?_⟩
        exact ⟨j361, f364, (by first | decide | omega)⟩
      have q376 : ¬ (((h 76 (291 + 3 * u369))) ≠ 2147483649) := q376
      refine x_const (np := 50) (x := 9223372043297226753) (a := 2147483649) (by decide +kernel) (by decide) (by decide) ?_
      refine x_goto (np := 53) (x := 54) (by decide +kernel) ?_
      refine x_retI (np := 55) (x := 0) (by decide +kernel) (by decide) (Or.inr ⟨by decide +kernel, by first | decide | omega, by first | decide | omega⟩) ⟨_, rfl, (by decide), ?_⟩
      exact ⟨j361, f364, (by first | decide | omega)⟩
  exact p340 _ 2147483648 h (Nat.lt_succ_self _) (by first | decide | omega) hJ (Fr.refl _ _)
set_option maxHeartbeats 0 in
/-- LentNamesModel.begins(II)V -/
theorem c209_75 {sc : Nat × Nat} {d a1 a2 n0 : Nat} {h : xh} (hJ : J h) (ba1 : 2147483648 ≤ a1 ∧ a1 ≤ 2147483667) (ba2 : 2147483648 ≤ a2 ∧ a2 ≤ 2147483659) (hn0 : n0 ≤ 19) (hM : MB 6 n0 h) (hW : WT 76 h) : X sc 209 (d + 3) (xV fun h' => J h' ∧ Fr 66571993089 h h' ∧ MB 6 (n0 + 1) h') 0 0 0 [x_r 75, iv_c a1, iv_c a2, 147573952589676412928, 147573952589676412928, 147573952589676412928, 147573952589676412928] [] h := by
  have la1 : a1 < 4294967296 := by first | decide | omega
  have la2 : a2 < 4294967296 := by first | decide | omega
  have hF := Fr.refl 66571993089 h
  refine x_aload (np := 1) (x := 0) (by decide +kernel) rfl (x_nc_le (by decide)) ?_
  refine x_iload (np := 2) (x := 1) (by decide +kernel) rfl la1 ?_
  refine x_const (np := 3) (x := 9223372039002259456) (a := 2147483648) (by decide +kernel) (by decide) (by decide) ?_
  refine x_nI (t := 6) (mj := 161) (n := 3) (rc := 12) (ml := 3) (nr := 0) (np := 6) (as := [x_r 75, iv_c a1, iv_c 2147483648]) (rest := []) (lo1 := [x_r 75, iv_c a1, iv_c 2147483648]) (by decide +kernel) (by decide) (by decide +kernel) (x_rb_of (by decide +kernel)) rfl rfl (x_wr (by decide) (x_wi la1 (x_wi (by decide) x_wn))) x_wn (by decide) rfl ?_
  refine x_aload (np := 1) (x := 0) (by decide +kernel) rfl (x_nc_le (by decide)) ?_
  have q1 : h 75 1 = 76 := by have z := jB (e := 1) 0 hJ rg_75_1_0_1 (by decide) (by decide); omega
  refine x_getR (np := 4) (x := 705) (f := 1) (q := 76) (by decide +kernel) (by decide) (by decide +kernel) q1 ?_
  refine x_const (np := 6) (x := 9223372124901605396) (a := 2147483668) (by decide +kernel) (by decide) (by decide) ?_
  refine x_const (np := 8) (x := 9223372069067030535) (a := 2147483655) (by decide +kernel) (by decide) (by decide) ?_
  refine x_iload (np := 9) (x := 1) (by decide +kernel) rfl la1 ?_
  obtain ⟨u2, q3⟩ : ∃ z, a1 = 2147483648 + z := ⟨a1 - 2147483648, by first | decide | omega⟩
  refine x_imul (np := 10) (x := 0) (i := 7) (j := u2) (v := (2147483648 + 7 * u2)) (by decide +kernel) (by first | decide | omega) (by first | decide | omega) (by first | decide | omega) (by first | decide | omega) (by decide) la1 ?_
  refine x_iadd (np := 11) (x := 0) (v := (2147483668 + 7 * u2)) (by decide +kernel) (by decide) (by first | decide | omega) (by first | decide | omega) (by first | decide | omega) ?_
  refine x_iload (np := 12) (x := 2) (by decide +kernel) rfl (by decide) ?_
  refine x_iadd (np := 13) (x := 0) (v := (2147483668 + 7 * u2)) (by decide +kernel) (by first | decide | omega) (by decide) (by first | decide | omega) (by first | decide | omega) ?_
  have b5 := jB (e := (20 + 7 * u2)) u2 hJ rg_76_20_7_20 (by first | decide | omega) (by first | decide | omega)
  refine x_aldC (np := 14) (x := 0) (n := 1952) (i := (20 + 7 * u2)) (q := ((h 76 (20 + 7 * u2)))) (by decide +kernel) (by decide +kernel) (by first | decide | omega) (by first | decide | omega) (by decide) rfl (fun l6 => ?_)
  refine x_retI (np := 15) (x := 0) (by decide +kernel) l6 (Or.inl (by decide +kernel)) ⟨_, rfl, l6, ?_⟩
  refine x_istore (np := 7) (x := 3) (lo' := [x_r 75, iv_c a1, iv_c a2, iv_c ((h 76 (20 + 7 * u2))), 147573952589676412928, 147573952589676412928, 147573952589676412928]) (by decide +kernel) l6 (Nat.le_of_ble_eq_true rfl) rfl ?_
  refine x_aload (np := 8) (x := 0) (by decide +kernel) rfl (x_nc_le (by decide)) ?_
  refine x_iload (np := 9) (x := 1) (by decide +kernel) rfl la1 ?_
  refine x_const (np := 10) (x := 9223372043297226753) (a := 2147483649) (by decide +kernel) (by decide) (by decide) ?_
  refine x_nI (t := 6) (mj := 161) (n := 3) (rc := 12) (ml := 3) (nr := 0) (np := 13) (as := [x_r 75, iv_c a1, iv_c 2147483649]) (rest := []) (lo1 := [x_r 75, iv_c a1, iv_c 2147483649]) (by decide +kernel) (by decide) (by decide +kernel) (x_rb_of (by decide +kernel)) rfl rfl (x_wr (by decide) (x_wi la1 (x_wi (by decide) x_wn))) x_wn (by decide) rfl ?_
  refine x_aload (np := 1) (x := 0) (by decide +kernel) rfl (x_nc_le (by decide)) ?_
  have q7 : h 75 1 = 76 := by have z := jB (e := 1) 0 hJ rg_75_1_0_1 (by decide) (by decide); omega
  refine x_getR (np := 4) (x := 705) (f := 1) (q := 76) (by decide +kernel) (by decide) (by decide +kernel) q7 ?_
  refine x_const (np := 6) (x := 9223372124901605396) (a := 2147483668) (by decide +kernel) (by decide) (by decide) ?_
  refine x_const (np := 8) (x := 9223372069067030535) (a := 2147483655) (by decide +kernel) (by decide) (by decide) ?_
  refine x_iload (np := 9) (x := 1) (by decide +kernel) rfl la1 ?_
  refine x_imul (np := 10) (x := 0) (i := 7) (j := u2) (v := (2147483648 + 7 * u2)) (by decide +kernel) (by first | decide | omega) (by first | decide | omega) (by first | decide | omega) (by first | decide | omega) (by decide) la1 ?_
  refine x_iadd (np := 11) (x := 0) (v := (2147483668 + 7 * u2)) (by decide +kernel) (by decide) (by first | decide | omega) (by first | decide | omega) (by first | decide | omega) ?_
  refine x_iload (np := 12) (x := 2) (by decide +kernel) rfl (by decide) ?_
  refine x_iadd (np := 13) (x := 0) (v := (2147483669 + 7 * u2)) (by decide +kernel) (by first | decide | omega) (by decide) (by first | decide | omega) (by first | decide | omega) ?_
  have b9 := jB (e := (21 + 7 * u2)) u2 hJ rg_76_21_7_20 (by first | decide | omega) (by first | decide | omega)
  refine x_aldC (np := 14) (x := 0) (n := 1952) (i := (21 + 7 * u2)) (q := ((h 76 (21 + 7 * u2)))) (by decide +kernel) (by decide +kernel) (by first | decide | omega) (by first | decide | omega) (by decide) rfl (fun l10 => ?_)
  refine x_retI (np := 15) (x := 0) (by decide +kernel) l10 (Or.inl (by decide +kernel)) ⟨_, rfl, l10, ?_⟩
  refine x_istore (np := 15) (x := 4) (lo' := [x_r 75, iv_c a1, iv_c a2, iv_c ((h 76 (20 + 7 * u2))), iv_c ((h 76 (21 + 7 * u2))), 147573952589676412928, 147573952589676412928]) (by decide +kernel) l10 (Nat.le_of_ble_eq_true rfl) rfl ?_
  refine x_aload (np := 16) (x := 0) (by decide +kernel) rfl (x_nc_le (by decide)) ?_
  refine x_iload (np := 17) (x := 3) (by decide +kernel) rfl l6 ?_
  refine x_cP (t := 6) (mj := 203) (n := 2) (rc := 12) (ml := 2) (nr := 0) (np := 20) (as := [x_r 75, iv_c ((h 76 (20 + 7 * u2)))]) (rest := []) (lo1 := [x_r 75, iv_c ((h 76 (20 + 7 * u2)))]) (by decide +kernel) (by decide) (by decide +kernel) (x_rb_of (by decide +kernel)) rfl rfl (x_wr (by decide) (x_wi l6 x_wn)) x_wn (by decide) rfl (c203_75 hJ  (by first | decide | omega)) (fun v11 l12 q13 => ?_)
  refine x_istore (np := 22) (x := 5) (lo' := [x_r 75, iv_c a1, iv_c a2, iv_c ((h 76 (20 + 7 * u2))), iv_c ((h 76 (21 + 7 * u2))), iv_c v11, 147573952589676412928]) (by decide +kernel) l12 (Nat.le_of_ble_eq_true rfl) rfl ?_
  refine x_aload (np := 23) (x := 0) (by decide +kernel) rfl (x_nc_le (by decide)) ?_
  have q14 : h 75 16 = 83 := by have z := jB (e := 16) 0 hJ rg_75_16_0_1 (by decide) (by decide); omega
  refine x_getR (np := 26) (x := 720) (f := 16) (q := 83) (by decide +kernel) (by decide) (by decide +kernel) q14 ?_
  refine x_iload (np := 27) (x := 3) (by decide +kernel) rfl l6 ?_
  obtain ⟨u15, q16⟩ : ∃ z, ((h 76 (20 + 7 * u2))) = 2147483648 + z := ⟨((h 76 (20 + 7 * u2))) - 2147483648, by first | decide | omega⟩
  have b17 := jB (e := u15) u15 hJ rg_83_0_1_6 (by first | decide | omega) (by first | decide | omega)
  have z18 := hM u15 (by first | decide | omega)
  refine x_aldC (np := 28) (x := 0) (n := 6) (i := u15) (q := (h 83 u15)) (by decide +kernel) (by decide +kernel) (by first | decide | omega) (by first | decide | omega) (by decide) rfl (fun l19 => ?_)
  refine x_ifz (k := 0) (tg := 58) (np := 31) (by decide +kernel) (by decide) l19 (fun q20 => ?_) (fun q21 => ?_)
  · have q20 : (h 83 u15) = 2147483648 := q20
    refine x_const (np := 59) (x := 9223372043297226753) (a := 2147483649) (by decide +kernel) (by decide) (by decide) ?_
    refine x_goto (np := 62) (x := 63) (by decide +kernel) ?_
    refine x_istore (np := 65) (x := 6) (lo' := [x_r 75, iv_c a1, iv_c a2, iv_c ((h 76 (20 + 7 * u2))), iv_c ((h 76 (21 + 7 * u2))), iv_c v11, iv_c 2147483649]) (by decide +kernel) (by decide) (Nat.le_of_ble_eq_true rfl) rfl ?_
    refine x_aload (np := 66) (x := 0) (by decide +kernel) rfl (x_nc_le (by decide)) ?_
    refine x_iload (np := 68) (x := 5) (by decide +kernel) rfl l12 ?_
    refine x_iload (np := 69) (x := 2) (by decide +kernel) rfl la2 ?_
    refine x_cP (t := 6) (mj := 200) (n := 3) (rc := 12) (ml := 3) (nr := 0) (np := 72) (as := [x_r 75, iv_c v11, iv_c a2]) (rest := []) (lo1 := [x_r 75, iv_c v11, iv_c a2]) (by decide +kernel) (by decide) (by decide +kernel) (x_rb_of (by decide +kernel)) rfl rfl (x_wr (by decide) (x_wi l12 (x_wi la2 x_wn))) x_wn (by decide) rfl (c200_75 hJ  (by first | decide | omega) (by first | decide | omega)) (fun v22 l23 q24 => ?_)
    refine x_ifz (k := 0) (tg := 106) (np := 75) (by decide +kernel) (by decide) l23 (fun q25 => ?_) (fun q26 => ?_)
    · have q25 : v22 = 2147483648 := q25
      refine x_retV (np := 107) (x := 0) (by decide +kernel) (by decide +kernel) ⟨rfl, ?_⟩
      exact ⟨hJ, hF, (MB.mono hM (Nat.le_refl _) (Nat.le_succ _))⟩
    have q26 : ¬ (v22 = 2147483648) := q26
    refine x_aload (np := 76) (x := 0) (by decide +kernel) rfl (x_nc_le (by decide)) ?_
    refine x_iload (np := 77) (x := 3) (by decide +kernel) rfl l6 ?_
    refine x_iload (np := 78) (x := 2) (by decide +kernel) rfl la2 ?_
    refine x_cP (t := 6) (mj := 204) (n := 3) (rc := 12) (ml := 5) (nr := 0) (np := 81) (as := [x_r 75, iv_c ((h 76 (20 + 7 * u2))), iv_c a2]) (rest := []) (lo1 := [x_r 75, iv_c ((h 76 (20 + 7 * u2))), iv_c a2, 147573952589676412928, 147573952589676412928]) (by decide +kernel) (by decide) (by decide +kernel) (x_rb_of (by decide +kernel)) rfl rfl (x_wr (by decide) (x_wi l6 (x_wi la2 x_wn))) x_wn (by decide) rfl (c204_75 hJ  (by first | decide | omega) (by first | decide | omega)) (fun v27 l28 q29 => ?_)
    refine x_ifz (k := 0) (tg := 106) (np := 84) (by decide +kernel) (by decide) l28 (fun q30 => ?_) (fun q31 => ?_)
    · have q30 : v27 = 2147483648 := q30
      refine x_retV (np := 107) (x := 0) (by decide +kernel) (by decide +kernel) ⟨rfl, ?_⟩
      exact ⟨hJ, hF, (MB.mono hM (Nat.le_refl _) (Nat.le_succ _))⟩
    have q31 : ¬ (v27 = 2147483648) := q31
    refine x_iload (np := 86) (x := 6) (by decide +kernel) rfl (by decide) ?_
    refine x_ifz (k := 0) (tg := 106) (np := 89) (by decide +kernel) (by decide) (by decide) (fun q32 => ?_) (fun q33 => ?_)
    · have q32 : 2147483649 = 2147483648 := q32
      exfalso; omega
    have q33 : ¬ (2147483649 = 2147483648) := q33
    refine x_iload (np := 91) (x := 5) (by decide +kernel) rfl l12 ?_
    refine x_iload (np := 93) (x := 4) (by decide +kernel) rfl l10 ?_
    refine x_icmp (k := 0) (tg := 106) (np := 96) (by decide +kernel) (by decide) l12 l10 (fun q34 => ?_) (fun q35 => ?_)
    · have q34 : v11 = ((h 76 (21 + 7 * u2))) := q34
      refine x_retV (np := 107) (x := 0) (by decide +kernel) (by decide +kernel) ⟨rfl, ?_⟩
      exact ⟨hJ, hF, (MB.mono hM (Nat.le_refl _) (Nat.le_succ _))⟩
    have q35 : ¬ (v11 = ((h 76 (21 + 7 * u2)))) := q35
    refine x_aload (np := 97) (x := 0) (by decide +kernel) rfl (x_nc_le (by decide)) ?_
    refine x_iload (np := 99) (x := 4) (by decide +kernel) rfl l10 ?_
    refine x_iload (np := 100) (x := 2) (by decide +kernel) rfl la2 ?_
    refine x_cP (t := 6) (mj := 200) (n := 3) (rc := 12) (ml := 3) (nr := 0) (np := 103) (as := [x_r 75, iv_c ((h 76 (21 + 7 * u2))), iv_c a2]) (rest := []) (lo1 := [x_r 75, iv_c ((h 76 (21 + 7 * u2))), iv_c a2]) (by decide +kernel) (by decide) (by decide +kernel) (x_rb_of (by decide +kernel)) rfl rfl (x_wr (by decide) (x_wi l10 (x_wi la2 x_wn))) x_wn (by decide) rfl (c200_75 hJ  (by first | decide | omega) (by first | decide | omega)) (fun v36 l37 q38 => ?_)
    refine x_ifz (k := 1) (tg := 107) (np := 106) (by decide +kernel) (by decide) l37 (fun q39 => ?_) (fun q40 => ?_)
    · have q39 : v36 ≠ 2147483648 := q39
      refine x_aload (np := 108) (x := 0) (by decide +kernel) rfl (x_nc_le (by decide)) ?_
      have q41 : h 75 14 = 81 := by have z := jB (e := 14) 0 hJ rg_75_14_0_1 (by decide) (by decide); omega
      refine x_getR (np := 111) (x := 718) (f := 14) (q := 81) (by decide +kernel) (by decide) (by decide +kernel) q41 ?_
      refine x_const (np := 112) (x := 9223372039002259456) (a := 2147483648) (by decide +kernel) (by decide) (by decide) ?_
      refine x_iload (np := 113) (x := 2) (by decide +kernel) rfl la2 ?_
      refine x_ast (np := 114) (x := 0) (kd := 1) (n := 8) (i := 0) (by decide +kernel) (Or.inl rfl) (by decide +kernel) (by first | decide | omega) (by first | decide | omega) (by decide) la2 (fun z => absurd z (by decide)) ?_
      have j43 := jU (e := 0) (v := a2) 0 hJ rg_81_0_1_8 (by first | decide | omega) (by first | decide | omega) (by first | decide | omega)
      have f45 := jF (e := 0) (v := a2) 0 hF rg_81_0_1_8 (by first | decide | omega) (by first | decide | omega) (by decide)
      have m46 := MB.oth (q := 81) (e := 0) (v := a2) hM (by decide)
      generalize e44 : x_up h 81 0 a2 = h42 at j43 f45 m46 ⊢
      refine x_aload (np := 115) (x := 0) (by decide +kernel) rfl (x_nc_le (by decide)) ?_
      have q47 : h42 75 14 = 81 := by have z := jB (e := 14) 0 j43 rg_75_14_0_1 (by decide) (by decide); omega
      refine x_getR (np := 118) (x := 718) (f := 14) (q := 81) (by decide +kernel) (by decide) (by decide +kernel) q47 ?_
      refine x_const (np := 119) (x := 9223372043297226753) (a := 2147483649) (by decide +kernel) (by decide) (by decide) ?_
      refine x_aload (np := 120) (x := 0) (by decide +kernel) rfl (x_nc_le (by decide)) ?_
      refine x_iload (np := 121) (x := 1) (by decide +kernel) rfl la1 ?_
      refine x_const (np := 122) (x := 9223372051887161347) (a := 2147483651) (by decide +kernel) (by decide) (by decide) ?_
      refine x_nI (t := 6) (mj := 161) (n := 3) (rc := 12) (ml := 3) (nr := 2) (np := 125) (as := [x_r 75, iv_c a1, iv_c 2147483651]) (rest := [iv_c 2147483649, x_r 81]) (lo1 := [x_r 75, iv_c a1, iv_c 2147483651]) (by decide +kernel) (by decide) (by decide +kernel) (x_rb_of (by decide +kernel)) rfl rfl (x_wr (by decide) (x_wi la1 (x_wi (by decide) x_wn))) (x_wi (by decide) (x_wr (by decide) x_wn)) (by decide) rfl ?_
      refine x_aload (np := 1) (x := 0) (by decide +kernel) rfl (x_nc_le (by decide)) ?_
      have q48 : h42 75 1 = 76 := by have z := jB (e := 1) 0 j43 rg_75_1_0_1 (by decide) (by decide); omega
      refine x_getR (np := 4) (x := 705) (f := 1) (q := 76) (by decide +kernel) (by decide) (by decide +kernel) q48 ?_
      refine x_const (np := 6) (x := 9223372124901605396) (a := 2147483668) (by decide +kernel) (by decide) (by decide) ?_
      refine x_const (np := 8) (x := 9223372069067030535) (a := 2147483655) (by decide +kernel) (by decide) (by decide) ?_
      refine x_iload (np := 9) (x := 1) (by decide +kernel) rfl la1 ?_
      refine x_imul (np := 10) (x := 0) (i := 7) (j := u2) (v := (2147483648 + 7 * u2)) (by decide +kernel) (by first | decide | omega) (by first | decide | omega) (by first | decide | omega) (by first | decide | omega) (by decide) la1 ?_
      refine x_iadd (np := 11) (x := 0) (v := (2147483668 + 7 * u2)) (by decide +kernel) (by decide) (by first | decide | omega) (by first | decide | omega) (by first | decide | omega) ?_
      refine x_iload (np := 12) (x := 2) (by decide +kernel) rfl (by decide) ?_
      refine x_iadd (np := 13) (x := 0) (v := (2147483671 + 7 * u2)) (by decide +kernel) (by first | decide | omega) (by decide) (by first | decide | omega) (by first | decide | omega) ?_
      have q50 : h42 76 (23 + 7 * u2) = h 76 (23 + 7 * u2) := by rw [← e44]; exact x_up_k (by decide)
      refine x_aldC (np := 14) (x := 0) (n := 1952) (i := (23 + 7 * u2)) (q := ((h 76 (23 + 7 * u2)))) (by decide +kernel) (by decide +kernel) (by first | decide | omega) (by first | decide | omega) (by decide) q50 (fun l51 => ?_)
      refine x_retI (np := 15) (x := 0) (by decide +kernel) l51 (Or.inl (by decide +kernel)) ⟨_, rfl, l51, ?_⟩
      refine x_ast (np := 126) (x := 0) (kd := 1) (n := 8) (i := 1) (by decide +kernel) (Or.inl rfl) (by decide +kernel) (by first | decide | omega) (by first | decide | omega) (by decide) l51 (fun z => absurd z (by decide)) ?_
      have j53 := jU (e := 1) (v := ((h 76 (23 + 7 * u2)))) 1 j43 rg_81_0_1_8 (by first | decide | omega) (by first | decide | omega) (by first | decide | omega)
      have f55 := jF (e := 1) (v := ((h 76 (23 + 7 * u2)))) 1 f45 rg_81_0_1_8 (by first | decide | omega) (by first | decide | omega) (by decide)
      have m56 := MB.oth (q := 81) (e := 1) (v := ((h 76 (23 + 7 * u2)))) m46 (by decide)
      generalize e54 : x_up h42 81 1 ((h 76 (23 + 7 * u2))) = h52 at j53 f55 m56 ⊢
      refine x_aload (np := 127) (x := 0) (by decide +kernel) rfl (x_nc_le (by decide)) ?_
      have q57 : h52 75 14 = 81 := by have z := jB (e := 14) 0 j53 rg_75_14_0_1 (by decide) (by decide); omega
      refine x_getR (np := 130) (x := 718) (f := 14) (q := 81) (by decide +kernel) (by decide) (by decide +kernel) q57 ?_
      refine x_const (np := 131) (x := 9223372047592194050) (a := 2147483650) (by decide +kernel) (by decide) (by decide) ?_
      refine x_aload (np := 132) (x := 0) (by decide +kernel) rfl (x_nc_le (by decide)) ?_
      refine x_iload (np := 133) (x := 1) (by decide +kernel) rfl la1 ?_
      refine x_const (np := 134) (x := 9223372060477095941) (a := 2147483653) (by decide +kernel) (by decide) (by decide) ?_
      refine x_nI (t := 6) (mj := 161) (n := 3) (rc := 12) (ml := 3) (nr := 2) (np := 137) (as := [x_r 75, iv_c a1, iv_c 2147483653]) (rest := [iv_c 2147483650, x_r 81]) (lo1 := [x_r 75, iv_c a1, iv_c 2147483653]) (by decide +kernel) (by decide) (by decide +kernel) (x_rb_of (by decide +kernel)) rfl rfl (x_wr (by decide) (x_wi la1 (x_wi (by decide) x_wn))) (x_wi (by decide) (x_wr (by decide) x_wn)) (by decide) rfl ?_
      refine x_aload (np := 1) (x := 0) (by decide +kernel) rfl (x_nc_le (by decide)) ?_
      have q58 : h52 75 1 = 76 := by have z := jB (e := 1) 0 j53 rg_75_1_0_1 (by decide) (by decide); omega
      refine x_getR (np := 4) (x := 705) (f := 1) (q := 76) (by decide +kernel) (by decide) (by decide +kernel) q58 ?_
      refine x_const (np := 6) (x := 9223372124901605396) (a := 2147483668) (by decide +kernel) (by decide) (by decide) ?_
      refine x_const (np := 8) (x := 9223372069067030535) (a := 2147483655) (by decide +kernel) (by decide) (by decide) ?_
      refine x_iload (np := 9) (x := 1) (by decide +kernel) rfl la1 ?_
      refine x_imul (np := 10) (x := 0) (i := 7) (j := u2) (v := (2147483648 + 7 * u2)) (by decide +kernel) (by first | decide | omega) (by first | decide | omega) (by first | decide | omega) (by first | decide | omega) (by decide) la1 ?_
      refine x_iadd (np := 11) (x := 0) (v := (2147483668 + 7 * u2)) (by decide +kernel) (by decide) (by first | decide | omega) (by first | decide | omega) (by first | decide | omega) ?_
      refine x_iload (np := 12) (x := 2) (by decide +kernel) rfl (by decide) ?_
      refine x_iadd (np := 13) (x := 0) (v := (2147483673 + 7 * u2)) (by decide +kernel) (by first | decide | omega) (by decide) (by first | decide | omega) (by first | decide | omega) ?_
      have q60 : h52 76 (25 + 7 * u2) = h42 76 (25 + 7 * u2) := by rw [← e54]; exact x_up_k (by decide)
      have q61 : h42 76 (25 + 7 * u2) = h 76 (25 + 7 * u2) := by rw [← e44]; exact x_up_k (by decide)
      refine x_aldC (np := 14) (x := 0) (n := 1952) (i := (25 + 7 * u2)) (q := ((h 76 (25 + 7 * u2)))) (by decide +kernel) (by decide +kernel) (by first | decide | omega) (by first | decide | omega) (by decide) (q60.trans q61) (fun l62 => ?_)
      refine x_retI (np := 15) (x := 0) (by decide +kernel) l62 (Or.inl (by decide +kernel)) ⟨_, rfl, l62, ?_⟩
      refine x_ast (np := 138) (x := 0) (kd := 1) (n := 8) (i := 2) (by decide +kernel) (Or.inl rfl) (by decide +kernel) (by first | decide | omega) (by first | decide | omega) (by decide) l62 (fun z => absurd z (by decide)) ?_
      have j64 := jU (e := 2) (v := ((h 76 (25 + 7 * u2)))) 2 j53 rg_81_0_1_8 (by first | decide | omega) (by first | decide | omega) (by first | decide | omega)
      have f66 := jF (e := 2) (v := ((h 76 (25 + 7 * u2)))) 2 f55 rg_81_0_1_8 (by first | decide | omega) (by first | decide | omega) (by decide)
      have m67 := MB.oth (q := 81) (e := 2) (v := ((h 76 (25 + 7 * u2)))) m56 (by decide)
      generalize e65 : x_up h52 81 2 ((h 76 (25 + 7 * u2))) = h63 at j64 f66 m67 ⊢
      refine x_aload (np := 139) (x := 0) (by decide +kernel) rfl (x_nc_le (by decide)) ?_
      have q68 : h63 75 14 = 81 := by have z := jB (e := 14) 0 j64 rg_75_14_0_1 (by decide) (by decide); omega
      refine x_getR (np := 142) (x := 718) (f := 14) (q := 81) (by decide +kernel) (by decide) (by decide +kernel) q68 ?_
      refine x_const (np := 143) (x := 9223372051887161347) (a := 2147483651) (by decide +kernel) (by decide) (by decide) ?_
      refine x_aload (np := 144) (x := 0) (by decide +kernel) rfl (x_nc_le (by decide)) ?_
      have q69 : h63 75 16 = 83 := by have z := jB (e := 16) 0 j64 rg_75_16_0_1 (by decide) (by decide); omega
      refine x_getR (np := 147) (x := 720) (f := 16) (q := 83) (by decide +kernel) (by decide) (by decide +kernel) q69 ?_
      refine x_iload (np := 148) (x := 3) (by decide +kernel) rfl l6 ?_
      have q70 : h63 83 u15 = h52 83 u15 := by rw [← e65]; exact x_up_k (by decide)
      have q71 : h52 83 u15 = h42 83 u15 := by rw [← e54]; exact x_up_k (by decide)
      have q72 : h42 83 u15 = h 83 u15 := by rw [← e44]; exact x_up_k (by decide)
      have z73 := m67 u15 (by first | decide | omega)
      refine x_aldC (np := 149) (x := 0) (n := 6) (i := u15) (q := (h 83 u15)) (by decide +kernel) (by decide +kernel) (by first | decide | omega) (by first | decide | omega) (by decide) ((q70.trans q71).trans q72) (fun l74 => ?_)
      refine x_ast (np := 150) (x := 0) (kd := 1) (n := 8) (i := 3) (by decide +kernel) (Or.inl rfl) (by decide +kernel) (by first | decide | omega) (by first | decide | omega) (by decide) l19 (fun z => absurd z (by decide)) ?_
      have j76 := jU (e := 3) (v := (h 83 u15)) 3 j64 rg_81_0_1_8 (by first | decide | omega) (by first | decide | omega) (by first | decide | omega)
      have f78 := jF (e := 3) (v := (h 83 u15)) 3 f66 rg_81_0_1_8 (by first | decide | omega) (by first | decide | omega) (by decide)
      have m79 := MB.oth (q := 81) (e := 3) (v := (h 83 u15)) m67 (by decide)
      generalize e77 : x_up h63 81 3 (h 83 u15) = h75 at j76 f78 m79 ⊢
      refine x_aload (np := 151) (x := 0) (by decide +kernel) rfl (x_nc_le (by decide)) ?_
      have q80 : h75 75 14 = 81 := by have z := jB (e := 14) 0 j76 rg_75_14_0_1 (by decide) (by decide); omega
      refine x_getR (np := 154) (x := 718) (f := 14) (q := 81) (by decide +kernel) (by decide) (by decide +kernel) q80 ?_
      refine x_const (np := 155) (x := 9223372056182128644) (a := 2147483652) (by decide +kernel) (by decide) (by decide) ?_
      refine x_aload (np := 156) (x := 0) (by decide +kernel) rfl (x_nc_le (by decide)) ?_
      refine x_iload (np := 158) (x := 5) (by decide +kernel) rfl l12 ?_
      refine x_iload (np := 159) (x := 2) (by decide +kernel) rfl la2 ?_
      refine x_cP (t := 6) (mj := 208) (n := 3) (rc := 12) (ml := 5) (nr := 2) (np := 162) (as := [x_r 75, iv_c v11, iv_c a2]) (rest := [iv_c 2147483652, x_r 81]) (lo1 := [x_r 75, iv_c v11, iv_c a2, 147573952589676412928, 147573952589676412928]) (by decide +kernel) (by decide) (by decide +kernel) (x_rb_of (by decide +kernel)) rfl rfl (x_wr (by decide) (x_wi l12 (x_wi la2 x_wn))) (x_wi (by decide) (x_wr (by decide) x_wn)) (by decide) rfl (c208_75 j76  (by first | decide | omega) (by first | decide | omega)) (fun v81 l82 q83 => ?_)
      refine x_ast (np := 163) (x := 0) (kd := 1) (n := 8) (i := 4) (by decide +kernel) (Or.inl rfl) (by decide +kernel) (by first | decide | omega) (by first | decide | omega) (by decide) l82 (fun z => absurd z (by decide)) ?_
      have j85 := jU (e := 4) (v := v81) 4 j76 rg_81_0_1_8 (by first | decide | omega) (by first | decide | omega) (by first | decide | omega)
      have f87 := jF (e := 4) (v := v81) 4 f78 rg_81_0_1_8 (by first | decide | omega) (by first | decide | omega) (by decide)
      have m88 := MB.oth (q := 81) (e := 4) (v := v81) m79 (by decide)
      generalize e86 : x_up h75 81 4 v81 = h84 at j85 f87 m88 ⊢
      refine x_aload (np := 164) (x := 0) (by decide +kernel) rfl (x_nc_le (by decide)) ?_
      have q89 : h84 75 14 = 81 := by have z := jB (e := 14) 0 j85 rg_75_14_0_1 (by decide) (by decide); omega
      refine x_getR (np := 167) (x := 718) (f := 14) (q := 81) (by decide +kernel) (by decide) (by decide +kernel) q89 ?_
      refine x_const (np := 168) (x := 9223372060477095941) (a := 2147483653) (by decide +kernel) (by decide) (by decide) ?_
      refine x_aload (np := 169) (x := 0) (by decide +kernel) rfl (x_nc_le (by decide)) ?_
      refine x_iload (np := 171) (x := 4) (by decide +kernel) rfl l10 ?_
      refine x_iload (np := 172) (x := 2) (by decide +kernel) rfl la2 ?_
      refine x_cP (t := 6) (mj := 208) (n := 3) (rc := 12) (ml := 5) (nr := 2) (np := 175) (as := [x_r 75, iv_c ((h 76 (21 + 7 * u2))), iv_c a2]) (rest := [iv_c 2147483653, x_r 81]) (lo1 := [x_r 75, iv_c ((h 76 (21 + 7 * u2))), iv_c a2, 147573952589676412928, 147573952589676412928]) (by decide +kernel) (by decide) (by decide +kernel) (x_rb_of (by decide +kernel)) rfl rfl (x_wr (by decide) (x_wi l10 (x_wi la2 x_wn))) (x_wi (by decide) (x_wr (by decide) x_wn)) (by decide) rfl (c208_75 j85  (by first | decide | omega) (by first | decide | omega)) (fun v90 l91 q92 => ?_)
      refine x_ast (np := 176) (x := 0) (kd := 1) (n := 8) (i := 5) (by decide +kernel) (Or.inl rfl) (by decide +kernel) (by first | decide | omega) (by first | decide | omega) (by decide) l91 (fun z => absurd z (by decide)) ?_
      have j94 := jU (e := 5) (v := v90) 5 j85 rg_81_0_1_8 (by first | decide | omega) (by first | decide | omega) (by first | decide | omega)
      have f96 := jF (e := 5) (v := v90) 5 f87 rg_81_0_1_8 (by first | decide | omega) (by first | decide | omega) (by decide)
      have m97 := MB.oth (q := 81) (e := 5) (v := v90) m88 (by decide)
      generalize e95 : x_up h84 81 5 v90 = h93 at j94 f96 m97 ⊢
      refine x_aload (np := 177) (x := 0) (by decide +kernel) rfl (x_nc_le (by decide)) ?_
      have q98 : h93 75 14 = 81 := by have z := jB (e := 14) 0 j94 rg_75_14_0_1 (by decide) (by decide); omega
      refine x_getR (np := 180) (x := 718) (f := 14) (q := 81) (by decide +kernel) (by decide) (by decide +kernel) q98 ?_
      refine x_const (np := 182) (x := 9223372064772063238) (a := 2147483654) (by decide +kernel) (by decide) (by decide) ?_
      refine x_iload (np := 184) (x := 5) (by decide +kernel) rfl l12 ?_
      refine x_iload (np := 185) (x := 3) (by decide +kernel) rfl l6 ?_
      refine x_icmp (k := 1) (tg := 192) (np := 188) (by decide +kernel) (by decide) l12 l6 (fun q99 => ?_) (fun q100 => ?_)
      · have q99 : v11 ≠ ((h 76 (20 + 7 * u2))) := q99
        refine x_const (np := 193) (x := 9223372039002259456) (a := 2147483648) (by decide +kernel) (by decide) (by decide) ?_
        refine x_ast (np := 194) (x := 0) (kd := 1) (n := 8) (i := 6) (by decide +kernel) (Or.inl rfl) (by decide +kernel) (by first | decide | omega) (by first | decide | omega) (by decide) (by decide) (fun z => absurd z (by decide)) ?_
        have j102 := jU (e := 6) (v := 2147483648) 6 j94 rg_81_0_1_8 (by first | decide | omega) (by first | decide | omega) (by first | decide | omega)
        have f104 := jF (e := 6) (v := 2147483648) 6 f96 rg_81_0_1_8 (by first | decide | omega) (by first | decide | omega) (by decide)
        have m105 := MB.oth (q := 81) (e := 6) (v := 2147483648) m97 (by decide)
        generalize e103 : x_up h93 81 6 2147483648 = h101 at j102 f104 m105 ⊢
        refine x_aload (np := 195) (x := 0) (by decide +kernel) rfl (x_nc_le (by decide)) ?_
        have q106 : h101 75 14 = 81 := by have z := jB (e := 14) 0 j102 rg_75_14_0_1 (by decide) (by decide); omega
        refine x_getR (np := 198) (x := 718) (f := 14) (q := 81) (by decide +kernel) (by decide) (by decide +kernel) q106 ?_
        refine x_const (np := 200) (x := 9223372069067030535) (a := 2147483655) (by decide +kernel) (by decide) (by decide) ?_
        refine x_iload (np := 202) (x := 4) (by decide +kernel) rfl l10 ?_
        refine x_iload (np := 203) (x := 3) (by decide +kernel) rfl l6 ?_
        refine x_icmp (k := 1) (tg := 210) (np := 206) (by decide +kernel) (by decide) l10 l6 (fun q107 => ?_) (fun q108 => ?_)
        · have q107 : ((h 76 (21 + 7 * u2))) ≠ ((h 76 (20 + 7 * u2))) := q107
          refine x_const (np := 211) (x := 9223372039002259456) (a := 2147483648) (by decide +kernel) (by decide) (by decide) ?_
          refine x_ast (np := 212) (x := 0) (kd := 1) (n := 8) (i := 7) (by decide +kernel) (Or.inl rfl) (by decide +kernel) (by first | decide | omega) (by first | decide | omega) (by decide) (by decide) (fun z => absurd z (by decide)) ?_
          have j110 := jU (e := 7) (v := 2147483648) 7 j102 rg_81_0_1_8 (by first | decide | omega) (by first | decide | omega) (by first | decide | omega)
          have f112 := jF (e := 7) (v := 2147483648) 7 f104 rg_81_0_1_8 (by first | decide | omega) (by first | decide | omega) (by decide)
          have m113 := MB.oth (q := 81) (e := 7) (v := 2147483648) m105 (by decide)
          generalize e111 : x_up h101 81 7 2147483648 = h109 at j110 f112 m113 ⊢
          refine x_aload (np := 213) (x := 0) (by decide +kernel) rfl (x_nc_le (by decide)) ?_
          have m124 : WT 76 h42 := by rw [← e44]; exact WT.oth hW hJ (by decide)
          have m123 : WT 76 h52 := by rw [← e54]; exact WT.oth m124 j43 (by decide)
          have m122 : WT 76 h63 := by rw [← e65]; exact WT.oth m123 j53 (by decide)
          have m121 : WT 76 h75 := by rw [← e77]; exact WT.oth m122 j64 (by decide)
          have m120 : WT 76 h84 := by rw [← e86]; exact WT.oth m121 j76 (by decide)
          have m119 : WT 76 h93 := by rw [← e95]; exact WT.oth m120 j85 (by decide)
          have m118 : WT 76 h101 := by rw [← e103]; exact WT.oth m119 j94 (by decide)
          have m117 : WT 76 h109 := by rw [← e111]; exact WT.oth m118 j102 (by decide)
          refine x_cI (t := 6) (mj := 199) (n := 1) (rc := 12) (ml := 2) (nr := 0) (np := 216) (as := [x_r 75]) (rest := []) (lo1 := [x_r 75, 147573952589676412928]) (by decide +kernel) (by decide) (by decide +kernel) (x_rb_of (by decide +kernel)) rfl rfl (x_wr (by decide) x_wn) x_wn (by decide) rfl (c199_75 j110  m117) (fun v114 h125 l115 q116 => ?_)
          obtain ⟨j126, f127, b128⟩ := q116
          have m129 := MB.fr m113 f127 (by decide)
          have f130 := Fr.trans f112 f127 (by decide)
          refine x_ifz (k := 1) (tg := 220) (np := 219) (by decide +kernel) (by decide) l115 (fun q131 => ?_) (fun q132 => ?_)
          · have q131 : v114 ≠ 2147483648 := q131
            refine x_aload (np := 221) (x := 0) (by decide +kernel) rfl (x_nc_le (by decide)) ?_
            have q133 : h125 75 21 = 88 := by have z := jB (e := 21) 0 j126 rg_75_21_0_1 (by decide) (by decide); omega
            refine x_getR (np := 224) (x := 725) (f := 21) (q := 88) (by decide +kernel) (by decide) (by decide +kernel) q133 ?_
            refine x_iload (np := 225) (x := 1) (by decide +kernel) rfl la1 ?_
            refine x_iload (np := 227) (x := 5) (by decide +kernel) rfl l12 ?_
            refine x_ast (np := 228) (x := 0) (kd := 1) (n := 20) (i := u2) (by decide +kernel) (Or.inl rfl) (by decide +kernel) (by first | decide | omega) (by first | decide | omega) (by decide) l12 (fun z => absurd z (by decide)) ?_
            have j135 := jU (e := u2) (v := v11) u2 j126 rg_88_0_1_20 (by first | decide | omega) (by first | decide | omega) (by first | decide | omega)
            have f137 := jF (e := u2) (v := v11) u2 f130 rg_88_0_1_20 (by first | decide | omega) (by first | decide | omega) (by decide)
            have m138 := MB.oth (q := 88) (e := u2) (v := v11) m129 (by decide)
            generalize e136 : x_up h125 88 u2 v11 = h134 at j135 f137 m138 ⊢
            refine x_aload (np := 229) (x := 0) (by decide +kernel) rfl (x_nc_le (by decide)) ?_
            have q139 : h134 75 17 = 84 := by have z := jB (e := 17) 0 j135 rg_75_17_0_1 (by decide) (by decide); omega
            refine x_getR (np := 232) (x := 721) (f := 17) (q := 84) (by decide +kernel) (by decide) (by decide +kernel) q139 ?_
            refine x_const (np := 234) (x := 9223372124901605396) (a := 2147483668) (by decide +kernel) (by decide) (by decide) ?_
            refine x_iload (np := 235) (x := 3) (by decide +kernel) rfl l6 ?_
            refine x_imul (np := 236) (x := 0) (i := 20) (j := u15) (v := (2147483648 + 20 * u15)) (by decide +kernel) (by first | decide | omega) (by first | decide | omega) (by first | decide | omega) (by first | decide | omega) (by decide) l6 ?_
            refine x_aload (np := 237) (x := 0) (by decide +kernel) rfl (x_nc_le (by decide)) ?_
            have q141 : h134 75 16 = 83 := by have z := jB (e := 16) 0 j135 rg_75_16_0_1 (by decide) (by decide); omega
            refine x_getR (np := 240) (x := 720) (f := 16) (q := 83) (by decide +kernel) (by decide) (by decide +kernel) q141 ?_
            refine x_iload (np := 241) (x := 3) (by decide +kernel) rfl l6 ?_
            have q142 : h134 83 u15 = h125 83 u15 := by rw [← e136]; exact x_up_k (by decide)
            have q143 : h125 83 u15 = h109 83 u15 := jK u15 f127 rg_83_0_1_6 (by first | decide | omega) (by first | decide | omega) (by decide)
            have q144 : h109 83 u15 = h101 83 u15 := by rw [← e111]; exact x_up_k (by decide)
            have q145 : h101 83 u15 = h93 83 u15 := by rw [← e103]; exact x_up_k (by decide)
            have q146 : h93 83 u15 = h84 83 u15 := by rw [← e95]; exact x_up_k (by decide)
            have q147 : h84 83 u15 = h75 83 u15 := by rw [← e86]; exact x_up_k (by decide)
            have q148 : h75 83 u15 = h63 83 u15 := by rw [← e77]; exact x_up_k (by decide)
            have q149 : h63 83 u15 = h52 83 u15 := by rw [← e65]; exact x_up_k (by decide)
            have q150 : h52 83 u15 = h42 83 u15 := by rw [← e54]; exact x_up_k (by decide)
            have q151 : h42 83 u15 = h 83 u15 := by rw [← e44]; exact x_up_k (by decide)
            have z152 := m138 u15 (by first | decide | omega)
            refine x_aldC (np := 242) (x := 0) (n := 6) (i := u15) (q := (h 83 u15)) (by decide +kernel) (by decide +kernel) (by first | decide | omega) (by first | decide | omega) (by decide) (((((((((q142.trans q143).trans q144).trans q145).trans q146).trans q147).trans q148).trans q149).trans q150).trans q151) (fun l153 => ?_)
            refine x_iadd (np := 243) (x := 0) (v := (20 * u15 + (h 83 u15))) (by decide +kernel) (by first | decide | omega) l19 (by first | decide | omega) (by first | decide | omega) ?_
            refine x_iload (np := 244) (x := 1) (by decide +kernel) rfl la1 ?_
            obtain ⟨u154, q155⟩ : ∃ z, (h 83 u15) = 2147483648 + z := ⟨(h 83 u15) - 2147483648, by first | decide | omega⟩
            refine x_ast (np := 245) (x := 0) (kd := 1) (n := 120) (i := (20 * u15 + u154)) (by decide +kernel) (Or.inl rfl) (by decide +kernel) (by first | decide | omega) (by first | decide | omega) (by decide) la1 (fun z => absurd z (by decide)) ?_
            have j157 := jU (e := (20 * u15 + u154)) (v := a1) (20 * u15 + u154) j135 rg_84_0_1_120 (by first | decide | omega) (by first | decide | omega) (by first | decide | omega)
            have f159 := jF (e := (20 * u15 + u154)) (v := a1) (20 * u15 + u154) f137 rg_84_0_1_120 (by first | decide | omega) (by first | decide | omega) (by decide)
            have m160 := MB.oth (q := 84) (e := (20 * u15 + u154)) (v := a1) m138 (by decide)
            generalize e158 : x_up h134 84 (20 * u15 + u154) a1 = h156 at j157 f159 m160 ⊢
            refine x_aload (np := 246) (x := 0) (by decide +kernel) rfl (x_nc_le (by decide)) ?_
            have q161 : h156 75 16 = 83 := by have z := jB (e := 16) 0 j157 rg_75_16_0_1 (by decide) (by decide); omega
            refine x_getR (np := 249) (x := 720) (f := 16) (q := 83) (by decide +kernel) (by decide) (by decide +kernel) q161 ?_
            refine x_iload (np := 250) (x := 3) (by decide +kernel) rfl l6 ?_
            refine x_dup2 (np := 251) (x := 0) (by decide +kernel) (by have z := (iw_c_lt (a := ((h 76 (20 + 7 * u2)))) l6).1; omega) (by have z := x_nc_le (k := 83) (by decide); unfold x_r; omega) ?_
            have q162 : h156 83 u15 = h134 83 u15 := by rw [← e158]; exact x_up_k (by decide)
            have q163 : h134 83 u15 = h125 83 u15 := by rw [← e136]; exact x_up_k (by decide)
            have q164 : h125 83 u15 = h109 83 u15 := jK u15 f127 rg_83_0_1_6 (by first | decide | omega) (by first | decide | omega) (by decide)
            have q165 : h109 83 u15 = h101 83 u15 := by rw [← e111]; exact x_up_k (by decide)
            have q166 : h101 83 u15 = h93 83 u15 := by rw [← e103]; exact x_up_k (by decide)
            have q167 : h93 83 u15 = h84 83 u15 := by rw [← e95]; exact x_up_k (by decide)
            have q168 : h84 83 u15 = h75 83 u15 := by rw [← e86]; exact x_up_k (by decide)
            have q169 : h75 83 u15 = h63 83 u15 := by rw [← e77]; exact x_up_k (by decide)
            have q170 : h63 83 u15 = h52 83 u15 := by rw [← e65]; exact x_up_k (by decide)
            have q171 : h52 83 u15 = h42 83 u15 := by rw [← e54]; exact x_up_k (by decide)
            have q172 : h42 83 u15 = h 83 u15 := by rw [← e44]; exact x_up_k (by decide)
            have z173 := m160 u15 (by first | decide | omega)
            refine x_aldC (np := 252) (x := 0) (n := 6) (i := u15) (q := (h 83 u15)) (by decide +kernel) (by decide +kernel) (by first | decide | omega) (by first | decide | omega) (by decide) ((((((((((q162.trans q163).trans q164).trans q165).trans q166).trans q167).trans q168).trans q169).trans q170).trans q171).trans q172) (fun l174 => ?_)
            refine x_const (np := 253) (x := 9223372043297226753) (a := 2147483649) (by decide +kernel) (by decide) (by decide) ?_
            refine x_iadd (np := 254) (x := 0) (v := (1 + (h 83 u15))) (by decide +kernel) l19 (by decide) (by first | decide | omega) (by first | decide | omega) ?_
            refine x_ast (np := 255) (x := 0) (kd := 1) (n := 6) (i := u15) (by decide +kernel) (Or.inl rfl) (by decide +kernel) (by first | decide | omega) (by first | decide | omega) (by decide) (by first | decide | omega) (fun z => absurd z (by decide)) ?_
            have j176 := jU (e := u15) (v := (1 + (h 83 u15))) u15 j157 rg_83_0_1_6 (by first | decide | omega) (by first | decide | omega) (by first | decide | omega)
            have f178 := jF (e := u15) (v := (1 + (h 83 u15))) u15 f159 rg_83_0_1_6 (by first | decide | omega) (by first | decide | omega) (by decide)
            have m179 := MB.up (e := u15) (v := (1 + (h 83 u15))) (MB.mono m160 (Nat.le_refl _) (Nat.le_succ _)) (by have z := m160 u15 (by first | decide | omega); omega)
            generalize e177 : x_up h156 83 u15 (1 + (h 83 u15)) = h175 at j176 f178 m179 ⊢
            refine x_retV (np := 256) (x := 0) (by decide +kernel) (by decide +kernel) ⟨rfl, ?_⟩
            exact ⟨j176, f178, m179⟩
          have q132 : ¬ (v114 ≠ 2147483648) := q132
          refine x_retV (np := 220) (x := 0) (by decide +kernel) (by decide +kernel) ⟨rfl, ?_⟩
          exact ⟨j126, f130, (MB.mono m129 (Nat.le_refl _) (Nat.le_succ _))⟩
        have q108 : ¬ (((h 76 (21 + 7 * u2))) ≠ ((h 76 (20 + 7 * u2)))) := q108
        refine x_const (np := 207) (x := 9223372043297226753) (a := 2147483649) (by decide +kernel) (by decide) (by decide) ?_
        refine x_goto (np := 210) (x := 211) (by decide +kernel) ?_
        refine x_ast (np := 212) (x := 0) (kd := 1) (n := 8) (i := 7) (by decide +kernel) (Or.inl rfl) (by decide +kernel) (by first | decide | omega) (by first | decide | omega) (by decide) (by decide) (fun z => absurd z (by decide)) ?_
        have j181 := jU (e := 7) (v := 2147483649) 7 j102 rg_81_0_1_8 (by first | decide | omega) (by first | decide | omega) (by first | decide | omega)
        have f183 := jF (e := 7) (v := 2147483649) 7 f104 rg_81_0_1_8 (by first | decide | omega) (by first | decide | omega) (by decide)
        have m184 := MB.oth (q := 81) (e := 7) (v := 2147483649) m105 (by decide)
        generalize e182 : x_up h101 81 7 2147483649 = h180 at j181 f183 m184 ⊢
        refine x_aload (np := 213) (x := 0) (by decide +kernel) rfl (x_nc_le (by decide)) ?_
        have m195 : WT 76 h42 := by rw [← e44]; exact WT.oth hW hJ (by decide)
        have m194 : WT 76 h52 := by rw [← e54]; exact WT.oth m195 j43 (by decide)
        have m193 : WT 76 h63 := by rw [← e65]; exact WT.oth m194 j53 (by decide)
        have m192 : WT 76 h75 := by rw [← e77]; exact WT.oth m193 j64 (by decide)
        have m191 : WT 76 h84 := by rw [← e86]; exact WT.oth m192 j76 (by decide)
        have m190 : WT 76 h93 := by rw [← e95]; exact WT.oth m191 j85 (by decide)
        have m189 : WT 76 h101 := by rw [← e103]; exact WT.oth m190 j94 (by decide)
        have m188 : WT 76 h180 := by rw [← e182]; exact WT.oth m189 j102 (by decide)
        refine x_cI (t := 6) (mj := 199) (n := 1) (rc := 12) (ml := 2) (nr := 0) (np := 216) (as := [x_r 75]) (rest := []) (lo1 := [x_r 75, 147573952589676412928]) (by decide +kernel) (by decide) (by decide +kernel) (x_rb_of (by decide +kernel)) rfl rfl (x_wr (by decide) x_wn) x_wn (by decide) rfl (c199_75 j181  m188) (fun v185 h196 l186 q187 => ?_)
        obtain ⟨j197, f198, b199⟩ := q187
        have m200 := MB.fr m184 f198 (by decide)
        have f201 := Fr.trans f183 f198 (by decide)
        refine x_ifz (k := 1) (tg := 220) (np := 219) (by decide +kernel) (by decide) l186 (fun q202 => ?_) (fun q203 => ?_)
        · have q202 : v185 ≠ 2147483648 := q202
          refine x_aload (np := 221) (x := 0) (by decide +kernel) rfl (x_nc_le (by decide)) ?_
          have q204 : h196 75 21 = 88 := by have z := jB (e := 21) 0 j197 rg_75_21_0_1 (by decide) (by decide); omega
          refine x_getR (np := 224) (x := 725) (f := 21) (q := 88) (by decide +kernel) (by decide) (by decide +kernel) q204 ?_
          refine x_iload (np := 225) (x := 1) (by decide +kernel) rfl la1 ?_
          refine x_iload (np := 227) (x := 5) (by decide +kernel) rfl l12 ?_
          refine x_ast (np := 228) (x := 0) (kd := 1) (n := 20) (i := u2) (by decide +kernel) (Or.inl rfl) (by decide +kernel) (by first | decide | omega) (by first | decide | omega) (by decide) l12 (fun z => absurd z (by decide)) ?_
          have j206 := jU (e := u2) (v := v11) u2 j197 rg_88_0_1_20 (by first | decide | omega) (by first | decide | omega) (by first | decide | omega)
          have f208 := jF (e := u2) (v := v11) u2 f201 rg_88_0_1_20 (by first | decide | omega) (by first | decide | omega) (by decide)
          have m209 := MB.oth (q := 88) (e := u2) (v := v11) m200 (by decide)
          generalize e207 : x_up h196 88 u2 v11 = h205 at j206 f208 m209 ⊢
          refine x_aload (np := 229) (x := 0) (by decide +kernel) rfl (x_nc_le (by decide)) ?_
          have q210 : h205 75 17 = 84 := by have z := jB (e := 17) 0 j206 rg_75_17_0_1 (by decide) (by decide); omega
          refine x_getR (np := 232) (x := 721) (f := 17) (q := 84) (by decide +kernel) (by decide) (by decide +kernel) q210 ?_
          refine x_const (np := 234) (x := 9223372124901605396) (a := 2147483668) (by decide +kernel) (by decide) (by decide) ?_
          refine x_iload (np := 235) (x := 3) (by decide +kernel) rfl l6 ?_
          refine x_imul (np := 236) (x := 0) (i := 20) (j := u15) (v := (2147483648 + 20 * u15)) (by decide +kernel) (by first | decide | omega) (by first | decide | omega) (by first | decide | omega) (by first | decide | omega) (by decide) l6 ?_
          refine x_aload (np := 237) (x := 0) (by decide +kernel) rfl (x_nc_le (by decide)) ?_
          have q212 : h205 75 16 = 83 := by have z := jB (e := 16) 0 j206 rg_75_16_0_1 (by decide) (by decide); omega
          refine x_getR (np := 240) (x := 720) (f := 16) (q := 83) (by decide +kernel) (by decide) (by decide +kernel) q212 ?_
          refine x_iload (np := 241) (x := 3) (by decide +kernel) rfl l6 ?_
          have q213 : h205 83 u15 = h196 83 u15 := by rw [← e207]; exact x_up_k (by decide)
          have q214 : h196 83 u15 = h180 83 u15 := jK u15 f198 rg_83_0_1_6 (by first | decide | omega) (by first | decide | omega) (by decide)
          have q215 : h180 83 u15 = h101 83 u15 := by rw [← e182]; exact x_up_k (by decide)
          have q216 : h101 83 u15 = h93 83 u15 := by rw [← e103]; exact x_up_k (by decide)
          have q217 : h93 83 u15 = h84 83 u15 := by rw [← e95]; exact x_up_k (by decide)
          have q218 : h84 83 u15 = h75 83 u15 := by rw [← e86]; exact x_up_k (by decide)
          have q219 : h75 83 u15 = h63 83 u15 := by rw [← e77]; exact x_up_k (by decide)
          have q220 : h63 83 u15 = h52 83 u15 := by rw [← e65]; exact x_up_k (by decide)
          have q221 : h52 83 u15 = h42 83 u15 := by rw [← e54]; exact x_up_k (by decide)
          have q222 : h42 83 u15 = h 83 u15 := by rw [← e44]; exact x_up_k (by decide)
          have z223 := m209 u15 (by first | decide | omega)
          refine x_aldC (np := 242) (x := 0) (n := 6) (i := u15) (q := (h 83 u15)) (by decide +kernel) (by decide +kernel) (by first | decide | omega) (by first | decide | omega) (by decide) (((((((((q213.trans q214).trans q215).trans q216).trans q217).trans q218).trans q219).trans q220).trans q221).trans q222) (fun l224 => ?_)
          refine x_iadd (np := 243) (x := 0) (v := (20 * u15 + (h 83 u15))) (by decide +kernel) (by first | decide | omega) l19 (by first | decide | omega) (by first | decide | omega) ?_
          refine x_iload (np := 244) (x := 1) (by decide +kernel) rfl la1 ?_
          obtain ⟨u225, q226⟩ : ∃ z, (h 83 u15) = 2147483648 + z := ⟨(h 83 u15) - 2147483648, by first | decide | omega⟩
          refine x_ast (np := 245) (x := 0) (kd := 1) (n := 120) (i := (20 * u15 + u225)) (by decide +kernel) (Or.inl rfl) (by decide +kernel) (by first | decide | omega) (by first | decide | omega) (by decide) la1 (fun z => absurd z (by decide)) ?_
          have j228 := jU (e := (20 * u15 + u225)) (v := a1) (20 * u15 + u225) j206 rg_84_0_1_120 (by first | decide | omega) (by first | decide | omega) (by first | decide | omega)
          have f230 := jF (e := (20 * u15 + u225)) (v := a1) (20 * u15 + u225) f208 rg_84_0_1_120 (by first | decide | omega) (by first | decide | omega) (by decide)
          have m231 := MB.oth (q := 84) (e := (20 * u15 + u225)) (v := a1) m209 (by decide)
          generalize e229 : x_up h205 84 (20 * u15 + u225) a1 = h227 at j228 f230 m231 ⊢
          refine x_aload (np := 246) (x := 0) (by decide +kernel) rfl (x_nc_le (by decide)) ?_
          have q232 : h227 75 16 = 83 := by have z := jB (e := 16) 0 j228 rg_75_16_0_1 (by decide) (by decide); omega
          refine x_getR (np := 249) (x := 720) (f := 16) (q := 83) (by decide +kernel) (by decide) (by decide +kernel) q232 ?_
          refine x_iload (np := 250) (x := 3) (by decide +kernel) rfl l6 ?_
          refine x_dup2 (np := 251) (x := 0) (by decide +kernel) (by have z := (iw_c_lt (a := ((h 76 (20 + 7 * u2)))) l6).1; omega) (by have z := x_nc_le (k := 83) (by decide); unfold x_r; omega) ?_
          have q233 : h227 83 u15 = h205 83 u15 := by rw [← e229]; exact x_up_k (by decide)
          have q234 : h205 83 u15 = h196 83 u15 := by rw [← e207]; exact x_up_k (by decide)
          have q235 : h196 83 u15 = h180 83 u15 := jK u15 f198 rg_83_0_1_6 (by first | decide | omega) (by first | decide | omega) (by decide)
          have q236 : h180 83 u15 = h101 83 u15 := by rw [← e182]; exact x_up_k (by decide)
          have q237 : h101 83 u15 = h93 83 u15 := by rw [← e103]; exact x_up_k (by decide)
          have q238 : h93 83 u15 = h84 83 u15 := by rw [← e95]; exact x_up_k (by decide)
          have q239 : h84 83 u15 = h75 83 u15 := by rw [← e86]; exact x_up_k (by decide)
          have q240 : h75 83 u15 = h63 83 u15 := by rw [← e77]; exact x_up_k (by decide)
          have q241 : h63 83 u15 = h52 83 u15 := by rw [← e65]; exact x_up_k (by decide)
          have q242 : h52 83 u15 = h42 83 u15 := by rw [← e54]; exact x_up_k (by decide)
          have q243 : h42 83 u15 = h 83 u15 := by rw [← e44]; exact x_up_k (by decide)
          have z244 := m231 u15 (by first | decide | omega)
          refine x_aldC (np := 252) (x := 0) (n := 6) (i := u15) (q := (h 83 u15)) (by decide +kernel) (by decide +kernel) (by first | decide | omega) (by first | decide | omega) (by decide) ((((((((((q233.trans q234).trans q235).trans q236).trans q237).trans q238).trans q239).trans q240).trans q241).trans q242).trans q243) (fun l245 => ?_)
          refine x_const (np := 253) (x := 9223372043297226753) (a := 2147483649) (by decide +kernel) (by decide) (by decide) ?_
          refine x_iadd (np := 254) (x := 0) (v := (1 + (h 83 u15))) (by decide +kernel) l19 (by decide) (by first | decide | omega) (by first | decide | omega) ?_
          refine x_ast (np := 255) (x := 0) (kd := 1) (n := 6) (i := u15) (by decide +kernel) (Or.inl rfl) (by decide +kernel) (by first | decide | omega) (by first | decide | omega) (by decide) (by first | decide | omega) (fun z => absurd z (by decide)) ?_
          have j247 := jU (e := u15) (v := (1 + (h 83 u15))) u15 j228 rg_83_0_1_6 (by first | decide | omega) (by first | decide | omega) (by first | decide | omega)
          have f249 := jF (e := u15) (v := (1 + (h 83 u15))) u15 f230 rg_83_0_1_6 (by first | decide | omega) (by first | decide | omega) (by decide)
          have m250 := MB.up (e := u15) (v := (1 + (h 83 u15))) (MB.mono m231 (Nat.le_refl _) (Nat.le_succ _)) (by have z := m231 u15 (by first | decide | omega); omega)
          generalize e248 : x_up h227 83 u15 (1 + (h 83 u15)) = h246 at j247 f249 m250 ⊢
          refine x_retV (np := 256) (x := 0) (by decide +kernel) (by decide +kernel) ⟨rfl, ?_⟩
          exact ⟨j247, f249, m250⟩
        have q203 : ¬ (v185 ≠ 2147483648) := q203
        refine x_retV (np := 220) (x := 0) (by decide +kernel) (by decide +kernel) ⟨rfl, ?_⟩
        exact ⟨j197, f201, (MB.mono m200 (Nat.le_refl _) (Nat.le_succ _))⟩
      have q100 : ¬ (v11 ≠ ((h 76 (20 + 7 * u2)))) := q100
      refine x_const (np := 189) (x := 9223372043297226753) (a := 2147483649) (by decide +kernel) (by decide) (by decide) ?_
      refine x_goto (np := 192) (x := 193) (by decide +kernel) ?_
      refine x_ast (np := 194) (x := 0) (kd := 1) (n := 8) (i := 6) (by decide +kernel) (Or.inl rfl) (by decide +kernel) (by first | decide | omega) (by first | decide | omega) (by decide) (by decide) (fun z => absurd z (by decide)) ?_
      have j252 := jU (e := 6) (v := 2147483649) 6 j94 rg_81_0_1_8 (by first | decide | omega) (by first | decide | omega) (by first | decide | omega)
      have f254 := jF (e := 6) (v := 2147483649) 6 f96 rg_81_0_1_8 (by first | decide | omega) (by first | decide | omega) (by decide)
      have m255 := MB.oth (q := 81) (e := 6) (v := 2147483649) m97 (by decide)
      generalize e253 : x_up h93 81 6 2147483649 = h251 at j252 f254 m255 ⊢
      refine x_aload (np := 195) (x := 0) (by decide +kernel) rfl (x_nc_le (by decide)) ?_
      have q256 : h251 75 14 = 81 := by have z := jB (e := 14) 0 j252 rg_75_14_0_1 (by decide) (by decide); omega
      refine x_getR (np := 198) (x := 718) (f := 14) (q := 81) (by decide +kernel) (by decide) (by decide +kernel) q256 ?_
      refine x_const (np := 200) (x := 9223372069067030535) (a := 2147483655) (by decide +kernel) (by decide) (by decide) ?_
      refine x_iload (np := 202) (x := 4) (by decide +kernel) rfl l10 ?_
      refine x_iload (np := 203) (x := 3) (by decide +kernel) rfl l6 ?_
      refine x_icmp (k := 1) (tg := 210) (np := 206) (by decide +kernel) (by decide) l10 l6 (fun q257 => ?_) (fun q258 => ?_)
      · have q257 : ((h 76 (21 + 7 * u2))) ≠ ((h 76 (20 + 7 * u2))) := q257
        refine x_const (np := 211) (x := 9223372039002259456) (a := 2147483648) (by decide +kernel) (by decide) (by decide) ?_
        refine x_ast (np := 212) (x := 0) (kd := 1) (n := 8) (i := 7) (by decide +kernel) (Or.inl rfl) (by decide +kernel) (by first | decide | omega) (by first | decide | omega) (by decide) (by decide) (fun z => absurd z (by decide)) ?_
        have j260 := jU (e := 7) (v := 2147483648) 7 j252 rg_81_0_1_8 (by first | decide | omega) (by first | decide | omega) (by first | decide | omega)
        have f262 := jF (e := 7) (v := 2147483648) 7 f254 rg_81_0_1_8 (by first | decide | omega) (by first | decide | omega) (by decide)
        have m263 := MB.oth (q := 81) (e := 7) (v := 2147483648) m255 (by decide)
        generalize e261 : x_up h251 81 7 2147483648 = h259 at j260 f262 m263 ⊢
        refine x_aload (np := 213) (x := 0) (by decide +kernel) rfl (x_nc_le (by decide)) ?_
        have m274 : WT 76 h42 := by rw [← e44]; exact WT.oth hW hJ (by decide)
        have m273 : WT 76 h52 := by rw [← e54]; exact WT.oth m274 j43 (by decide)
        have m272 : WT 76 h63 := by rw [← e65]; exact WT.oth m273 j53 (by decide)
        have m271 : WT 76 h75 := by rw [← e77]; exact WT.oth m272 j64 (by decide)
        have m270 : WT 76 h84 := by rw [← e86]; exact WT.oth m271 j76 (by decide)
        have m269 : WT 76 h93 := by rw [← e95]; exact WT.oth m270 j85 (by decide)
        have m268 : WT 76 h251 := by rw [← e253]; exact WT.oth m269 j94 (by decide)
        have m267 : WT 76 h259 := by rw [← e261]; exact WT.oth m268 j252 (by decide)
        refine x_cI (t := 6) (mj := 199) (n := 1) (rc := 12) (ml := 2) (nr := 0) (np := 216) (as := [x_r 75]) (rest := []) (lo1 := [x_r 75, 147573952589676412928]) (by decide +kernel) (by decide) (by decide +kernel) (x_rb_of (by decide +kernel)) rfl rfl (x_wr (by decide) x_wn) x_wn (by decide) rfl (c199_75 j260  m267) (fun v264 h275 l265 q266 => ?_)
        obtain ⟨j276, f277, b278⟩ := q266
        have m279 := MB.fr m263 f277 (by decide)
        have f280 := Fr.trans f262 f277 (by decide)
        refine x_ifz (k := 1) (tg := 220) (np := 219) (by decide +kernel) (by decide) l265 (fun q281 => ?_) (fun q282 => ?_)
        · have q281 : v264 ≠ 2147483648 := q281
          refine x_aload (np := 221) (x := 0) (by decide +kernel) rfl (x_nc_le (by decide)) ?_
          have q283 : h275 75 21 = 88 := by have z := jB (e := 21) 0 j276 rg_75_21_0_1 (by decide) (by decide); omega
          refine x_getR (np := 224) (x := 725) (f := 21) (q := 88) (by decide +kernel) (by decide) (by decide +kernel) q283 ?_
          refine x_iload (np := 225) (x := 1) (by decide +kernel) rfl la1 ?_
          refine x_iload (np := 227) (x := 5) (by decide +kernel) rfl l12 ?_
          refine x_ast (np := 228) (x := 0) (kd := 1) (n := 20) (i := u2) (by decide +kernel) (Or.inl rfl) (by decide +kernel) (by first | decide | omega) (by first | decide | omega) (by decide) l12 (fun z => absurd z (by decide)) ?_
          have j285 := jU (e := u2) (v := v11) u2 j276 rg_88_0_1_20 (by first | decide | omega) (by first | decide | omega) (by first | decide | omega)
          have f287 := jF (e := u2) (v := v11) u2 f280 rg_88_0_1_20 (by first | decide | omega) (by first | decide | omega) (by decide)
          have m288 := MB.oth (q := 88) (e := u2) (v := v11) m279 (by decide)
          generalize e286 : x_up h275 88 u2 v11 = h284 at j285 f287 m288 ⊢
          refine x_aload (np := 229) (x := 0) (by decide +kernel) rfl (x_nc_le (by decide)) ?_
          have q289 : h284 75 17 = 84 := by have z := jB (e := 17) 0 j285 rg_75_17_0_1 (by decide) (by decide); omega
          refine x_getR (np := 232) (x := 721) (f := 17) (q := 84) (by decide +kernel) (by decide) (by decide +kernel) q289 ?_
          refine x_const (np := 234) (x := 9223372124901605396) (a := 2147483668) (by decide +kernel) (by decide) (by decide) ?_
          refine x_iload (np := 235) (x := 3) (by decide +kernel) rfl l6 ?_
          refine x_imul (np := 236) (x := 0) (i := 20) (j := u15) (v := (2147483648 + 20 * u15)) (by decide +kernel) (by first | decide | omega) (by first | decide | omega) (by first | decide | omega) (by first | decide | omega) (by decide) l6 ?_
          refine x_aload (np := 237) (x := 0) (by decide +kernel) rfl (x_nc_le (by decide)) ?_
          have q291 : h284 75 16 = 83 := by have z := jB (e := 16) 0 j285 rg_75_16_0_1 (by decide) (by decide); omega
          refine x_getR (np := 240) (x := 720) (f := 16) (q := 83) (by decide +kernel) (by decide) (by decide +kernel) q291 ?_
          refine x_iload (np := 241) (x := 3) (by decide +kernel) rfl l6 ?_
          have q292 : h284 83 u15 = h275 83 u15 := by rw [← e286]; exact x_up_k (by decide)
          have q293 : h275 83 u15 = h259 83 u15 := jK u15 f277 rg_83_0_1_6 (by first | decide | omega) (by first | decide | omega) (by decide)
          have q294 : h259 83 u15 = h251 83 u15 := by rw [← e261]; exact x_up_k (by decide)
          have q295 : h251 83 u15 = h93 83 u15 := by rw [← e253]; exact x_up_k (by decide)
          have q296 : h93 83 u15 = h84 83 u15 := by rw [← e95]; exact x_up_k (by decide)
          have q297 : h84 83 u15 = h75 83 u15 := by rw [← e86]; exact x_up_k (by decide)
          have q298 : h75 83 u15 = h63 83 u15 := by rw [← e77]; exact x_up_k (by decide)
          have q299 : h63 83 u15 = h52 83 u15 := by rw [← e65]; exact x_up_k (by decide)
          have q300 : h52 83 u15 = h42 83 u15 := by rw [← e54]; exact x_up_k (by decide)
          have q301 : h42 83 u15 = h 83 u15 := by rw [← e44]; exact x_up_k (by decide)
          have z302 := m288 u15 (by first | decide | omega)
          refine x_aldC (np := 242) (x := 0) (n := 6) (i := u15) (q := (h 83 u15)) (by decide +kernel) (by decide +kernel) (by first | decide | omega) (by first | decide | omega) (by decide) (((((((((q292.trans q293).trans q294).trans q295).trans q296).trans q297).trans q298).trans q299).trans q300).trans q301) (fun l303 => ?_)
          refine x_iadd (np := 243) (x := 0) (v := (20 * u15 + (h 83 u15))) (by decide +kernel) (by first | decide | omega) l19 (by first | decide | omega) (by first | decide | omega) ?_
          refine x_iload (np := 244) (x := 1) (by decide +kernel) rfl la1 ?_
          obtain ⟨u304, q305⟩ : ∃ z, (h 83 u15) = 2147483648 + z := ⟨(h 83 u15) - 2147483648, by first | decide | omega⟩
          refine x_ast (np := 245) (x := 0) (kd := 1) (n := 120) (i := (20 * u15 + u304)) (by decide +kernel) (Or.inl rfl) (by decide +kernel) (by first | decide | omega) (by first | decide | omega) (by decide) la1 (fun z => absurd z (by decide)) ?_
          have j307 := jU (e := (20 * u15 + u304)) (v := a1) (20 * u15 + u304) j285 rg_84_0_1_120 (by first | decide | omega) (by first | decide | omega) (by first | decide | omega)
          have f309 := jF (e := (20 * u15 + u304)) (v := a1) (20 * u15 + u304) f287 rg_84_0_1_120 (by first | decide | omega) (by first | decide | omega) (by decide)
          have m310 := MB.oth (q := 84) (e := (20 * u15 + u304)) (v := a1) m288 (by decide)
          generalize e308 : x_up h284 84 (20 * u15 + u304) a1 = h306 at j307 f309 m310 ⊢
          refine x_aload (np := 246) (x := 0) (by decide +kernel) rfl (x_nc_le (by decide)) ?_
          have q311 : h306 75 16 = 83 := by have z := jB (e := 16) 0 j307 rg_75_16_0_1 (by decide) (by decide); omega
          refine x_getR (np := 249) (x := 720) (f := 16) (q := 83) (by decide +kernel) (by decide) (by decide +kernel) q311 ?_
          refine x_iload (np := 250) (x := 3) (by decide +kernel) rfl l6 ?_
          refine x_dup2 (np := 251) (x := 0) (by decide +kernel) (by have z := (iw_c_lt (a := ((h 76 (20 + 7 * u2)))) l6).1; omega) (by have z := x_nc_le (k := 83) (by decide); unfold x_r; omega) ?_
          have q312 : h306 83 u15 = h284 83 u15 := by rw [← e308]; exact x_up_k (by decide)
          have q313 : h284 83 u15 = h275 83 u15 := by rw [← e286]; exact x_up_k (by decide)
          have q314 : h275 83 u15 = h259 83 u15 := jK u15 f277 rg_83_0_1_6 (by first | decide | omega) (by first | decide | omega) (by decide)
          have q315 : h259 83 u15 = h251 83 u15 := by rw [← e261]; exact x_up_k (by decide)
          have q316 : h251 83 u15 = h93 83 u15 := by rw [← e253]; exact x_up_k (by decide)
          have q317 : h93 83 u15 = h84 83 u15 := by rw [← e95]; exact x_up_k (by decide)
          have q318 : h84 83 u15 = h75 83 u15 := by rw [← e86]; exact x_up_k (by decide)
          have q319 : h75 83 u15 = h63 83 u15 := by rw [← e77]; exact x_up_k (by decide)
          have q320 : h63 83 u15 = h52 83 u15 := by rw [← e65]; exact x_up_k (by decide)
          have q321 : h52 83 u15 = h42 83 u15 := by rw [← e54]; exact x_up_k (by decide)
          have q322 : h42 83 u15 = h 83 u15 := by rw [← e44]; exact x_up_k (by decide)
          have z323 := m310 u15 (by first | decide | omega)
          refine x_aldC (np := 252) (x := 0) (n := 6) (i := u15) (q := (h 83 u15)) (by decide +kernel) (by decide +kernel) (by first | decide | omega) (by first | decide | omega) (by decide) ((((((((((q312.trans q313).trans q314).trans q315).trans q316).trans q317).trans q318).trans q319).trans q320).trans q321).trans q322) (fun l324 => ?_)
          refine x_const (np := 253) (x := 9223372043297226753) (a := 2147483649) (by decide +kernel) (by decide) (by decide) ?_
          refine x_iadd (np := 254) (x := 0) (v := (1 + (h 83 u15))) (by decide +kernel) l19 (by decide) (by first | decide | omega) (by first | decide | omega) ?_
          refine x_ast (np := 255) (x := 0) (kd := 1) (n := 6) (i := u15) (by decide +kernel) (Or.inl rfl) (by decide +kernel) (by first | decide | omega) (by first | decide | omega) (by decide) (by first | decide | omega) (fun z => absurd z (by decide)) ?_
          have j326 := jU (e := u15) (v := (1 + (h 83 u15))) u15 j307 rg_83_0_1_6 (by first | decide | omega) (by first | decide | omega) (by first | decide | omega)
          have f328 := jF (e := u15) (v := (1 + (h 83 u15))) u15 f309 rg_83_0_1_6 (by first | decide | omega) (by first | decide | omega) (by decide)
          have m329 := MB.up (e := u15) (v := (1 + (h 83 u15))) (MB.mono m310 (Nat.le_refl _) (Nat.le_succ _)) (by have z := m310 u15 (by first | decide | omega); omega)
          generalize e327 : x_up h306 83 u15 (1 + (h 83 u15)) = h325 at j326 f328 m329 ⊢
          refine x_retV (np := 256) (x := 0) (by decide +kernel) (by decide +kernel) ⟨rfl, ?_⟩
          exact ⟨j326, f328, m329⟩
        have q282 : ¬ (v264 ≠ 2147483648) := q282
        refine x_retV (np := 220) (x := 0) (by decide +kernel) (by decide +kernel) ⟨rfl, ?_⟩
        exact ⟨j276, f280, (MB.mono m279 (Nat.le_refl _) (Nat.le_succ _))⟩
      have q258 : ¬ (((h 76 (21 + 7 * u2))) ≠ ((h 76 (20 + 7 * u2)))) := q258
      refine x_const (np := 207) (x := 9223372043297226753) (a := 2147483649) (by decide +kernel) (by decide) (by decide) ?_
      refine x_goto (np := 210) (x := 211) (by decide +kernel) ?_
      refine x_ast (np := 212) (x := 0) (kd := 1) (n := 8) (i := 7) (by decide +kernel) (Or.inl rfl) (by decide +kernel) (by first | decide | omega) (by first | decide | omega) (by decide) (by decide) (fun z => absurd z (by decide)) ?_
      have j331 := jU (e := 7) (v := 2147483649) 7 j252 rg_81_0_1_8 (by first | decide | omega) (by first | decide | omega) (by first | decide | omega)
      have f333 := jF (e := 7) (v := 2147483649) 7 f254 rg_81_0_1_8 (by first | decide | omega) (by first | decide | omega) (by decide)
      have m334 := MB.oth (q := 81) (e := 7) (v := 2147483649) m255 (by decide)
      generalize e332 : x_up h251 81 7 2147483649 = h330 at j331 f333 m334 ⊢
      refine x_aload (np := 213) (x := 0) (by decide +kernel) rfl (x_nc_le (by decide)) ?_
      have m345 : WT 76 h42 := by rw [← e44]; exact WT.oth hW hJ (by decide)
      have m344 : WT 76 h52 := by rw [← e54]; exact WT.oth m345 j43 (by decide)
      have m343 : WT 76 h63 := by rw [← e65]; exact WT.oth m344 j53 (by decide)
      have m342 : WT 76 h75 := by rw [← e77]; exact WT.oth m343 j64 (by decide)
      have m341 : WT 76 h84 := by rw [← e86]; exact WT.oth m342 j76 (by decide)
      have m340 : WT 76 h93 := by rw [← e95]; exact WT.oth m341 j85 (by decide)
      have m339 : WT 76 h251 := by rw [← e253]; exact WT.oth m340 j94 (by decide)
      have m338 : WT 76 h330 := by rw [← e332]; exact WT.oth m339 j252 (by decide)
      refine x_cI (t := 6) (mj := 199) (n := 1) (rc := 12) (ml := 2) (nr := 0) (np := 216) (as := [x_r 75]) (rest := []) (lo1 := [x_r 75, 147573952589676412928]) (by decide +kernel) (by decide) (by decide +kernel) (x_rb_of (by decide +kernel)) rfl rfl (x_wr (by decide) x_wn) x_wn (by decide) rfl (c199_75 j331  m338) (fun v335 h346 l336 q337 => ?_)
      obtain ⟨j347, f348, b349⟩ := q337
      have m350 := MB.fr m334 f348 (by decide)
      have f351 := Fr.trans f333 f348 (by decide)
      refine x_ifz (k := 1) (tg := 220) (np := 219) (by decide +kernel) (by decide) l336 (fun q352 => ?_) (fun q353 => ?_)
      · have q352 : v335 ≠ 2147483648 := q352
        refine x_aload (np := 221) (x := 0) (by decide +kernel) rfl (x_nc_le (by decide)) ?_
        have q354 : h346 75 21 = 88 := by have z := jB (e := 21) 0 j347 rg_75_21_0_1 (by decide) (by decide); omega
        refine x_getR (np := 224) (x := 725) (f := 21) (q := 88) (by decide +kernel) (by decide) (by decide +kernel) q354 ?_
        refine x_iload (np := 225) (x := 1) (by decide +kernel) rfl la1 ?_
        refine x_iload (np := 227) (x := 5) (by decide +kernel) rfl l12 ?_
        refine x_ast (np := 228) (x := 0) (kd := 1) (n := 20) (i := u2) (by decide +kernel) (Or.inl rfl) (by decide +kernel) (by first | decide | omega) (by first | decide | omega) (by decide) l12 (fun z => absurd z (by decide)) ?_
        have j356 := jU (e := u2) (v := v11) u2 j347 rg_88_0_1_20 (by first | decide | omega) (by first | decide | omega) (by first | decide | omega)
        have f358 := jF (e := u2) (v := v11) u2 f351 rg_88_0_1_20 (by first | decide | omega) (by first | decide | omega) (by decide)
        have m359 := MB.oth (q := 88) (e := u2) (v := v11) m350 (by decide)
        generalize e357 : x_up h346 88 u2 v11 = h355 at j356 f358 m359 ⊢
        refine x_aload (np := 229) (x := 0) (by decide +kernel) rfl (x_nc_le (by decide)) ?_
        have q360 : h355 75 17 = 84 := by have z := jB (e := 17) 0 j356 rg_75_17_0_1 (by decide) (by decide); omega
        refine x_getR (np := 232) (x := 721) (f := 17) (q := 84) (by decide +kernel) (by decide) (by decide +kernel) q360 ?_
        refine x_const (np := 234) (x := 9223372124901605396) (a := 2147483668) (by decide +kernel) (by decide) (by decide) ?_
        refine x_iload (np := 235) (x := 3) (by decide +kernel) rfl l6 ?_
        refine x_imul (np := 236) (x := 0) (i := 20) (j := u15) (v := (2147483648 + 20 * u15)) (by decide +kernel) (by first | decide | omega) (by first | decide | omega) (by first | decide | omega) (by first | decide | omega) (by decide) l6 ?_
        refine x_aload (np := 237) (x := 0) (by decide +kernel) rfl (x_nc_le (by decide)) ?_
        have q362 : h355 75 16 = 83 := by have z := jB (e := 16) 0 j356 rg_75_16_0_1 (by decide) (by decide); omega
        refine x_getR (np := 240) (x := 720) (f := 16) (q := 83) (by decide +kernel) (by decide) (by decide +kernel) q362 ?_
        refine x_iload (np := 241) (x := 3) (by decide +kernel) rfl l6 ?_
        have q363 : h355 83 u15 = h346 83 u15 := by rw [← e357]; exact x_up_k (by decide)
        have q364 : h346 83 u15 = h330 83 u15 := jK u15 f348 rg_83_0_1_6 (by first | decide | omega) (by first | decide | omega) (by decide)
        have q365 : h330 83 u15 = h251 83 u15 := by rw [← e332]; exact x_up_k (by decide)
        have q366 : h251 83 u15 = h93 83 u15 := by rw [← e253]; exact x_up_k (by decide)
        have q367 : h93 83 u15 = h84 83 u15 := by rw [← e95]; exact x_up_k (by decide)
        have q368 : h84 83 u15 = h75 83 u15 := by rw [← e86]; exact x_up_k (by decide)
        have q369 : h75 83 u15 = h63 83 u15 := by rw [← e77]; exact x_up_k (by decide)
        have q370 : h63 83 u15 = h52 83 u15 := by rw [← e65]; exact x_up_k (by decide)
        have q371 : h52 83 u15 = h42 83 u15 := by rw [← e54]; exact x_up_k (by decide)
        have q372 : h42 83 u15 = h 83 u15 := by rw [← e44]; exact x_up_k (by decide)
        have z373 := m359 u15 (by first | decide | omega)
        refine x_aldC (np := 242) (x := 0) (n := 6) (i := u15) (q := (h 83 u15)) (by decide +kernel) (by decide +kernel) (by first | decide | omega) (by first | decide | omega) (by decide) (((((((((q363.trans q364).trans q365).trans q366).trans q367).trans q368).trans q369).trans q370).trans q371).trans q372) (fun l374 => ?_)
        refine x_iadd (np := 243) (x := 0) (v := (20 * u15 + (h 83 u15))) (by decide +kernel) (by first | decide | omega) l19 (by first | decide | omega) (by first | decide | omega) ?_
        refine x_iload (np := 244) (x := 1) (by decide +kernel) rfl la1 ?_
        obtain ⟨u375, q376⟩ : ∃ z, (h 83 u15) = 2147483648 + z := ⟨(h 83 u15) - 2147483648, by first | decide | omega⟩
        refine x_ast (np := 245) (x := 0) (kd := 1) (n := 120) (i := (20 * u15 + u375)) (by decide +kernel) (Or.inl rfl) (by decide +kernel) (by first | decide | omega) (by first | decide | omega) (by decide) la1 (fun z => absurd z (by decide)) ?_
        have j378 := jU (e := (20 * u15 + u375)) (v := a1) (20 * u15 + u375) j356 rg_84_0_1_120 (by first | decide | omega) (by first | decide | omega) (by first | decide | omega)
        have f380 := jF (e := (20 * u15 + u375)) (v := a1) (20 * u15 + u375) f358 rg_84_0_1_120 (by first | decide | omega) (by first | decide | omega) (by decide)
        have m381 := MB.oth (q := 84) (e := (20 * u15 + u375)) (v := a1) m359 (by decide)
        generalize e379 : x_up h355 84 (20 * u15 + u375) a1 = h377 at j378 f380 m381 ⊢
        refine x_aload (np := 246) (x := 0) (by decide +kernel) rfl (x_nc_le (by decide)) ?_
        have q382 : h377 75 16 = 83 := by have z := jB (e := 16) 0 j378 rg_75_16_0_1 (by decide) (by decide); omega
        refine x_getR (np := 249) (x := 720) (f := 16) (q := 83) (by decide +kernel) (by decide) (by decide +kernel) q382 ?_
        refine x_iload (np := 250) (x := 3) (by decide +kernel) rfl l6 ?_
        refine x_dup2 (np := 251) (x := 0) (by decide +kernel) (by have z := (iw_c_lt (a := ((h 76 (20 + 7 * u2)))) l6).1; omega) (by have z := x_nc_le (k := 83) (by decide); unfold x_r; omega) ?_
        have q383 : h377 83 u15 = h355 83 u15 := by rw [← e379]; exact x_up_k (by decide)
        have q384 : h355 83 u15 = h346 83 u15 := by rw [← e357]; exact x_up_k (by decide)
        have q385 : h346 83 u15 = h330 83 u15 := jK u15 f348 rg_83_0_1_6 (by first | decide | omega) (by first | decide | omega) (by decide)
        have q386 : h330 83 u15 = h251 83 u15 := by rw [← e332]; exact x_up_k (by decide)
        have q387 : h251 83 u15 = h93 83 u15 := by rw [← e253]; exact x_up_k (by decide)
        have q388 : h93 83 u15 = h84 83 u15 := by rw [← e95]; exact x_up_k (by decide)
        have q389 : h84 83 u15 = h75 83 u15 := by rw [← e86]; exact x_up_k (by decide)
        have q390 : h75 83 u15 = h63 83 u15 := by rw [← e77]; exact x_up_k (by decide)
        have q391 : h63 83 u15 = h52 83 u15 := by rw [← e65]; exact x_up_k (by decide)
        have q392 : h52 83 u15 = h42 83 u15 := by rw [← e54]; exact x_up_k (by decide)
        have q393 : h42 83 u15 = h 83 u15 := by rw [← e44]; exact x_up_k (by decide)
        have z394 := m381 u15 (by first | decide | omega)
        refine x_aldC (np := 252) (x := 0) (n := 6) (i := u15) (q := (h 83 u15)) (by decide +kernel) (by decide +kernel) (by first | decide | omega) (by first | decide | omega) (by decide) ((((((((((q383.trans q384).trans q385).trans q386).trans q387).trans q388).trans q389).trans q390).trans q391).trans q392).trans q393) (fun l395 => ?_)
        refine x_const (np := 253) (x := 9223372043297226753) (a := 2147483649) (by decide +kernel) (by decide) (by decide) ?_
        refine x_iadd (np := 254) (x := 0) (v := (1 + (h 83 u15))) (by decide +kernel) l19 (by decide) (by first | decide | omega) (by first | decide | omega) ?_
        refine x_ast (np := 255) (x := 0) (kd := 1) (n := 6) (i := u15) (by decide +kernel) (Or.inl rfl) (by decide +kernel) (by first | decide | omega) (by first | decide | omega) (by decide) (by first | decide | omega) (fun z => absurd z (by decide)) ?_
        have j397 := jU (e := u15) (v := (1 + (h 83 u15))) u15 j378 rg_83_0_1_6 (by first | decide | omega) (by first | decide | omega) (by first | decide | omega)
        have f399 := jF (e := u15) (v := (1 + (h 83 u15))) u15 f380 rg_83_0_1_6 (by first | decide | omega) (by first | decide | omega) (by decide)
        have m400 := MB.up (e := u15) (v := (1 + (h 83 u15))) (MB.mono m381 (Nat.le_refl _) (Nat.le_succ _)) (by have z := m381 u15 (by first | decide | omega); omega)
        generalize e398 : x_up h377 83 u15 (1 + (h 83 u15)) = h396 at j397 f399 m400 ⊢
        refine x_retV (np := 256) (x := 0) (by decide +kernel) (by decide +kernel) ⟨rfl, ?_⟩
        exact ⟨j397, f399, m400⟩
      have q353 : ¬ (v335 ≠ 2147483648) := q353
      refine x_retV (np := 220) (x := 0) (by decide +kernel) (by decide +kernel) ⟨rfl, ?_⟩
      exact ⟨j347, f351, (MB.mono m350 (Nat.le_refl _) (Nat.le_succ _))⟩
    have q40 : ¬ (v36 ≠ 2147483648) := q40
    refine x_retV (np := 107) (x := 0) (by decide +kernel) (by decide +kernel) ⟨rfl, ?_⟩
    exact ⟨hJ, hF, (MB.mono hM (Nat.le_refl _) (Nat.le_succ _))⟩
  have q21 : ¬ ((h 83 u15) = 2147483648) := q21
  refine x_aload (np := 32) (x := 0) (by decide +kernel) rfl (x_nc_le (by decide)) ?_
  refine x_aload (np := 33) (x := 0) (by decide +kernel) rfl (x_nc_le (by decide)) ?_
  have q401 : h 75 17 = 84 := by have z := jB (e := 17) 0 hJ rg_75_17_0_1 (by decide) (by decide); omega
  refine x_getR (np := 36) (x := 721) (f := 17) (q := 84) (by decide +kernel) (by decide) (by decide +kernel) q401 ?_
  refine x_const (np := 38) (x := 9223372124901605396) (a := 2147483668) (by decide +kernel) (by decide) (by decide) ?_
  refine x_iload (np := 39) (x := 3) (by decide +kernel) rfl l6 ?_
  refine x_imul (np := 40) (x := 0) (i := 20) (j := u15) (v := (2147483648 + 20 * u15)) (by decide +kernel) (by first | decide | omega) (by first | decide | omega) (by first | decide | omega) (by first | decide | omega) (by decide) l6 ?_
  refine x_aload (np := 41) (x := 0) (by decide +kernel) rfl (x_nc_le (by decide)) ?_
  have q403 : h 75 16 = 83 := by have z := jB (e := 16) 0 hJ rg_75_16_0_1 (by decide) (by decide); omega
  refine x_getR (np := 44) (x := 720) (f := 16) (q := 83) (by decide +kernel) (by decide) (by decide +kernel) q403 ?_
  refine x_iload (np := 45) (x := 3) (by decide +kernel) rfl l6 ?_
  refine x_aldC (np := 46) (x := 0) (n := 6) (i := u15) (q := (h 83 u15)) (by decide +kernel) (by decide +kernel) (by first | decide | omega) (by first | decide | omega) (by decide) rfl (fun l404 => ?_)
  refine x_iadd (np := 47) (x := 0) (v := (20 * u15 + (h 83 u15))) (by decide +kernel) (by first | decide | omega) l19 (by first | decide | omega) (by first | decide | omega) ?_
  refine x_const (np := 48) (x := 9223372043297226753) (a := 2147483649) (by decide +kernel) (by decide) (by decide) ?_
  obtain ⟨v405, q406⟩ : ∃ z, z + 2147483649 = (20 * u15 + (h 83 u15)) + 2147483648 := ⟨(20 * u15 + (h 83 u15)) + 2147483648 - 2147483649, by first | decide | omega⟩
  refine x_isub (np := 49) (x := 0) (v := v405) (by decide +kernel) (by first | decide | omega) (by decide) (by first | decide | omega) (by first | decide | omega) ?_
  obtain ⟨u407, q408⟩ : ∃ z, v405 = 2147483648 + z := ⟨v405 - 2147483648, by first | decide | omega⟩
  have b409 := jB (e := u407) u407 hJ rg_84_0_1_120 (by first | decide | omega) (by first | decide | omega)
  refine x_aldC (np := 50) (x := 0) (n := 120) (i := u407) (q := (h 84 u407)) (by decide +kernel) (by decide +kernel) (by first | decide | omega) (by first | decide | omega) (by decide) rfl (fun l410 => ?_)
  refine x_const (np := 51) (x := 9223372056182128644) (a := 2147483652) (by decide +kernel) (by decide) (by decide) ?_
  refine x_nI (t := 6) (mj := 161) (n := 3) (rc := 12) (ml := 3) (nr := 0) (np := 54) (as := [x_r 75, iv_c (h 84 u407), iv_c 2147483652]) (rest := []) (lo1 := [x_r 75, iv_c (h 84 u407), iv_c 2147483652]) (by decide +kernel) (by decide) (by decide +kernel) (x_rb_of (by decide +kernel)) rfl rfl (x_wr (by decide) (x_wi l410 (x_wi (by decide) x_wn))) x_wn (by decide) rfl ?_
  refine x_aload (np := 1) (x := 0) (by decide +kernel) rfl (x_nc_le (by decide)) ?_
  have q411 : h 75 1 = 76 := by have z := jB (e := 1) 0 hJ rg_75_1_0_1 (by decide) (by decide); omega
  refine x_getR (np := 4) (x := 705) (f := 1) (q := 76) (by decide +kernel) (by decide) (by decide +kernel) q411 ?_
  refine x_const (np := 6) (x := 9223372124901605396) (a := 2147483668) (by decide +kernel) (by decide) (by decide) ?_
  refine x_const (np := 8) (x := 9223372069067030535) (a := 2147483655) (by decide +kernel) (by decide) (by decide) ?_
  refine x_iload (np := 9) (x := 1) (by decide +kernel) rfl l410 ?_
  obtain ⟨u412, q413⟩ : ∃ z, (h 84 u407) = 2147483648 + z := ⟨(h 84 u407) - 2147483648, by first | decide | omega⟩
  refine x_imul (np := 10) (x := 0) (i := 7) (j := u412) (v := (2147483648 + 7 * u412)) (by decide +kernel) (by first | decide | omega) (by first | decide | omega) (by first | decide | omega) (by first | decide | omega) (by decide) l410 ?_
  refine x_iadd (np := 11) (x := 0) (v := (2147483668 + 7 * u412)) (by decide +kernel) (by decide) (by first | decide | omega) (by first | decide | omega) (by first | decide | omega) ?_
  refine x_iload (np := 12) (x := 2) (by decide +kernel) rfl (by decide) ?_
  refine x_iadd (np := 13) (x := 0) (v := (2147483672 + 7 * u412)) (by decide +kernel) (by first | decide | omega) (by decide) (by first | decide | omega) (by first | decide | omega) ?_
  refine x_aldC (np := 14) (x := 0) (n := 1952) (i := (24 + 7 * u412)) (q := ((h 76 (24 + 7 * u412)))) (by decide +kernel) (by decide +kernel) (by first | decide | omega) (by first | decide | omega) (by decide) rfl (fun l415 => ?_)
  refine x_retI (np := 15) (x := 0) (by decide +kernel) l415 (Or.inl (by decide +kernel)) ⟨_, rfl, l415, ?_⟩
  refine x_const (np := 55) (x := 9223372043297226753) (a := 2147483649) (by decide +kernel) (by decide) (by decide) ?_
  refine x_icmp (k := 1) (tg := 62) (np := 58) (by decide +kernel) (by decide) l415 (by decide) (fun q416 => ?_) (fun q417 => ?_)
  · have q416 : ((h 76 (24 + 7 * u412))) ≠ 2147483649 := q416
    refine x_const (np := 63) (x := 9223372039002259456) (a := 2147483648) (by decide +kernel) (by decide) (by decide) ?_
    refine x_istore (np := 65) (x := 6) (lo' := [x_r 75, iv_c a1, iv_c a2, iv_c ((h 76 (20 + 7 * u2))), iv_c ((h 76 (21 + 7 * u2))), iv_c v11, iv_c 2147483648]) (by decide +kernel) (by decide) (Nat.le_of_ble_eq_true rfl) rfl ?_
    refine x_aload (np := 66) (x := 0) (by decide +kernel) rfl (x_nc_le (by decide)) ?_
    refine x_iload (np := 68) (x := 5) (by decide +kernel) rfl l12 ?_
    refine x_iload (np := 69) (x := 2) (by decide +kernel) rfl la2 ?_
    refine x_cP (t := 6) (mj := 200) (n := 3) (rc := 12) (ml := 3) (nr := 0) (np := 72) (as := [x_r 75, iv_c v11, iv_c a2]) (rest := []) (lo1 := [x_r 75, iv_c v11, iv_c a2]) (by decide +kernel) (by decide) (by decide +kernel) (x_rb_of (by decide +kernel)) rfl rfl (x_wr (by decide) (x_wi l12 (x_wi la2 x_wn))) x_wn (by decide) rfl (c200_75 hJ  (by first | decide | omega) (by first | decide | omega)) (fun v418 l419 q420 => ?_)
    refine x_ifz (k := 0) (tg := 106) (np := 75) (by decide +kernel) (by decide) l419 (fun q421 => ?_) (fun q422 => ?_)
    · have q421 : v418 = 2147483648 := q421
      refine x_retV (np := 107) (x := 0) (by decide +kernel) (by decide +kernel) ⟨rfl, ?_⟩
      exact ⟨hJ, hF, (MB.mono hM (Nat.le_refl _) (Nat.le_succ _))⟩
    have q422 : ¬ (v418 = 2147483648) := q422
    refine x_aload (np := 76) (x := 0) (by decide +kernel) rfl (x_nc_le (by decide)) ?_
    refine x_iload (np := 77) (x := 3) (by decide +kernel) rfl l6 ?_
    refine x_iload (np := 78) (x := 2) (by decide +kernel) rfl la2 ?_
    refine x_cP (t := 6) (mj := 204) (n := 3) (rc := 12) (ml := 5) (nr := 0) (np := 81) (as := [x_r 75, iv_c ((h 76 (20 + 7 * u2))), iv_c a2]) (rest := []) (lo1 := [x_r 75, iv_c ((h 76 (20 + 7 * u2))), iv_c a2, 147573952589676412928, 147573952589676412928]) (by decide +kernel) (by decide) (by decide +kernel) (x_rb_of (by decide +kernel)) rfl rfl (x_wr (by decide) (x_wi l6 (x_wi la2 x_wn))) x_wn (by decide) rfl (c204_75 hJ  (by first | decide | omega) (by first | decide | omega)) (fun v423 l424 q425 => ?_)
    refine x_ifz (k := 0) (tg := 106) (np := 84) (by decide +kernel) (by decide) l424 (fun q426 => ?_) (fun q427 => ?_)
    · have q426 : v423 = 2147483648 := q426
      refine x_retV (np := 107) (x := 0) (by decide +kernel) (by decide +kernel) ⟨rfl, ?_⟩
      exact ⟨hJ, hF, (MB.mono hM (Nat.le_refl _) (Nat.le_succ _))⟩
    have q427 : ¬ (v423 = 2147483648) := q427
    refine x_iload (np := 86) (x := 6) (by decide +kernel) rfl (by decide) ?_
    refine x_ifz (k := 0) (tg := 106) (np := 89) (by decide +kernel) (by decide) (by decide) (fun q428 => ?_) (fun q429 => ?_)
    · have q428 : 2147483648 = 2147483648 := q428
      refine x_retV (np := 107) (x := 0) (by decide +kernel) (by decide +kernel) ⟨rfl, ?_⟩
      exact ⟨hJ, hF, (MB.mono hM (Nat.le_refl _) (Nat.le_succ _))⟩
    have q429 : ¬ (2147483648 = 2147483648) := q429
    exfalso; omega
  have q417 : ¬ (((h 76 (24 + 7 * u412))) ≠ 2147483649) := q417
  refine x_const (np := 59) (x := 9223372043297226753) (a := 2147483649) (by decide +kernel) (by decide) (by decide) ?_
  refine x_goto (np := 62) (x := 63) (by decide +kernel) ?_
  refine x_istore (np := 65) (x := 6) (lo' := [x_r 75, iv_c a1, iv_c a2, iv_c ((h 76 (20 + 7 * u2))), iv_c ((h 76 (21 + 7 * u2))), iv_c v11, iv_c 2147483649]) (by decide +kernel) (by decide) (Nat.le_of_ble_eq_true rfl) rfl ?_
  refine x_aload (np := 66) (x := 0) (by decide +kernel) rfl (x_nc_le (by decide)) ?_
  refine x_iload (np := 68) (x := 5) (by decide +kernel) rfl l12 ?_
  refine x_iload (np := 69) (x := 2) (by decide +kernel) rfl la2 ?_
  refine x_cP (t := 6) (mj := 200) (n := 3) (rc := 12) (ml := 3) (nr := 0) (np := 72) (as := [x_r 75, iv_c v11, iv_c a2]) (rest := []) (lo1 := [x_r 75, iv_c v11, iv_c a2]) (by decide +kernel) (by decide) (by decide +kernel) (x_rb_of (by decide +kernel)) rfl rfl (x_wr (by decide) (x_wi l12 (x_wi la2 x_wn))) x_wn (by decide) rfl (c200_75 hJ  (by first | decide | omega) (by first | decide | omega)) (fun v430 l431 q432 => ?_)
  refine x_ifz (k := 0) (tg := 106) (np := 75) (by decide +kernel) (by decide) l431 (fun q433 => ?_) (fun q434 => ?_)
  · have q433 : v430 = 2147483648 := q433
    refine x_retV (np := 107) (x := 0) (by decide +kernel) (by decide +kernel) ⟨rfl, ?_⟩
    exact ⟨hJ, hF, (MB.mono hM (Nat.le_refl _) (Nat.le_succ _))⟩
  have q434 : ¬ (v430 = 2147483648) := q434
  refine x_aload (np := 76) (x := 0) (by decide +kernel) rfl (x_nc_le (by decide)) ?_
  refine x_iload (np := 77) (x := 3) (by decide +kernel) rfl l6 ?_
  refine x_iload (np := 78) (x := 2) (by decide +kernel) rfl la2 ?_
  refine x_cP (t := 6) (mj := 204) (n := 3) (rc := 12) (ml := 5) (nr := 0) (np := 81) (as := [x_r 75, iv_c ((h 76 (20 + 7 * u2))), iv_c a2]) (rest := []) (lo1 := [x_r 75, iv_c ((h 76 (20 + 7 * u2))), iv_c a2, 147573952589676412928, 147573952589676412928]) (by decide +kernel) (by decide) (by decide +kernel) (x_rb_of (by decide +kernel)) rfl rfl (x_wr (by decide) (x_wi l6 (x_wi la2 x_wn))) x_wn (by decide) rfl (c204_75 hJ  (by first | decide | omega) (by first | decide | omega)) (fun v435 l436 q437 => ?_)
  refine x_ifz (k := 0) (tg := 106) (np := 84) (by decide +kernel) (by decide) l436 (fun q438 => ?_) (fun q439 => ?_)
  · have q438 : v435 = 2147483648 := q438
    refine x_retV (np := 107) (x := 0) (by decide +kernel) (by decide +kernel) ⟨rfl, ?_⟩
    exact ⟨hJ, hF, (MB.mono hM (Nat.le_refl _) (Nat.le_succ _))⟩
  have q439 : ¬ (v435 = 2147483648) := q439
  refine x_iload (np := 86) (x := 6) (by decide +kernel) rfl (by decide) ?_
  refine x_ifz (k := 0) (tg := 106) (np := 89) (by decide +kernel) (by decide) (by decide) (fun q440 => ?_) (fun q441 => ?_)
  · have q440 : 2147483649 = 2147483648 := q440
    exfalso; omega
  have q441 : ¬ (2147483649 = 2147483648) := q441
  refine x_iload (np := 91) (x := 5) (by decide +kernel) rfl l12 ?_
  refine x_iload (np := 93) (x := 4) (by decide +kernel) rfl l10 ?_
  refine x_icmp (k := 0) (tg := 106) (np := 96) (by decide +kernel) (by decide) l12 l10 (fun q442 => ?_) (fun q443 => ?_)
  · have q442 : v11 = ((h 76 (21 + 7 * u2))) := q442
    refine x_retV (np := 107) (x := 0) (by decide +kernel) (by decide +kernel) ⟨rfl, ?_⟩
    exact ⟨hJ, hF, (MB.mono hM (Nat.le_refl _) (Nat.le_succ _))⟩
  have q443 : ¬ (v11 = ((h 76 (21 + 7 * u2)))) := q443
  refine x_aload (np := 97) (x := 0) (by decide +kernel) rfl (x_nc_le (by decide)) ?_
  refine x_iload (np := 99) (x := 4) (by decide +kernel) rfl l10 ?_
  refine x_iload (np := 100) (x := 2) (by decide +kernel) rfl la2 ?_
  refine x_cP (t := 6) (mj := 200) (n := 3) (rc := 12) (ml := 3) (nr := 0) (np := 103) (as := [x_r 75, iv_c ((h 76 (21 + 7 * u2))), iv_c a2]) (rest := []) (lo1 := [x_r 75, iv_c ((h 76 (21 + 7 * u2))), iv_c a2]) (by decide +kernel) (by decide) (by decide +kernel) (x_rb_of (by decide +kernel)) rfl rfl (x_wr (by decide) (x_wi l10 (x_wi la2 x_wn))) x_wn (by decide) rfl (c200_75 hJ  (by first | decide | omega) (by first | decide | omega)) (fun v444 l445 q446 => ?_)
  refine x_ifz (k := 1) (tg := 107) (np := 106) (by decide +kernel) (by decide) l445 (fun q447 => ?_) (fun q448 => ?_)
  · have q447 : v444 ≠ 2147483648 := q447
    refine x_aload (np := 108) (x := 0) (by decide +kernel) rfl (x_nc_le (by decide)) ?_
    have q449 : h 75 14 = 81 := by have z := jB (e := 14) 0 hJ rg_75_14_0_1 (by decide) (by decide); omega
    refine x_getR (np := 111) (x := 718) (f := 14) (q := 81) (by decide +kernel) (by decide) (by decide +kernel) q449 ?_
    refine x_const (np := 112) (x := 9223372039002259456) (a := 2147483648) (by decide +kernel) (by decide) (by decide) ?_
    refine x_iload (np := 113) (x := 2) (by decide +kernel) rfl la2 ?_
    refine x_ast (np := 114) (x := 0) (kd := 1) (n := 8) (i := 0) (by decide +kernel) (Or.inl rfl) (by decide +kernel) (by first | decide | omega) (by first | decide | omega) (by decide) la2 (fun z => absurd z (by decide)) ?_
    have j451 := jU (e := 0) (v := a2) 0 hJ rg_81_0_1_8 (by first | decide | omega) (by first | decide | omega) (by first | decide | omega)
    have f453 := jF (e := 0) (v := a2) 0 hF rg_81_0_1_8 (by first | decide | omega) (by first | decide | omega) (by decide)
    have m454 := MB.oth (q := 81) (e := 0) (v := a2) hM (by decide)
    generalize e452 : x_up h 81 0 a2 = h450 at j451 f453 m454 ⊢
    refine x_aload (np := 115) (x := 0) (by decide +kernel) rfl (x_nc_le (by decide)) ?_
    have q455 : h450 75 14 = 81 := by have z := jB (e := 14) 0 j451 rg_75_14_0_1 (by decide) (by decide); omega
    refine x_getR (np := 118) (x := 718) (f := 14) (q := 81) (by decide +kernel) (by decide) (by decide +kernel) q455 ?_
    refine x_const (np := 119) (x := 9223372043297226753) (a := 2147483649) (by decide +kernel) (by decide) (by decide) ?_
    refine x_aload (np := 120) (x := 0) (by decide +kernel) rfl (x_nc_le (by decide)) ?_
    refine x_iload (np := 121) (x := 1) (by decide +kernel) rfl la1 ?_
    refine x_const (np := 122) (x := 9223372051887161347) (a := 2147483651) (by decide +kernel) (by decide) (by decide) ?_
    refine x_nI (t := 6) (mj := 161) (n := 3) (rc := 12) (ml := 3) (nr := 2) (np := 125) (as := [x_r 75, iv_c a1, iv_c 2147483651]) (rest := [iv_c 2147483649, x_r 81]) (lo1 := [x_r 75, iv_c a1, iv_c 2147483651]) (by decide +kernel) (by decide) (by decide +kernel) (x_rb_of (by decide +kernel)) rfl rfl (x_wr (by decide) (x_wi la1 (x_wi (by decide) x_wn))) (x_wi (by decide) (x_wr (by decide) x_wn)) (by decide) rfl ?_
    refine x_aload (np := 1) (x := 0) (by decide +kernel) rfl (x_nc_le (by decide)) ?_
    have q456 : h450 75 1 = 76 := by have z := jB (e := 1) 0 j451 rg_75_1_0_1 (by decide) (by decide); omega
    refine x_getR (np := 4) (x := 705) (f := 1) (q := 76) (by decide +kernel) (by decide) (by decide +kernel) q456 ?_
    refine x_const (np := 6) (x := 9223372124901605396) (a := 2147483668) (by decide +kernel) (by decide) (by decide) ?_
    refine x_const (np := 8) (x := 9223372069067030535) (a := 2147483655) (by decide +kernel) (by decide) (by decide) ?_
    refine x_iload (np := 9) (x := 1) (by decide +kernel) rfl la1 ?_
    refine x_imul (np := 10) (x := 0) (i := 7) (j := u2) (v := (2147483648 + 7 * u2)) (by decide +kernel) (by first | decide | omega) (by first | decide | omega) (by first | decide | omega) (by first | decide | omega) (by decide) la1 ?_
    refine x_iadd (np := 11) (x := 0) (v := (2147483668 + 7 * u2)) (by decide +kernel) (by decide) (by first | decide | omega) (by first | decide | omega) (by first | decide | omega) ?_
    refine x_iload (np := 12) (x := 2) (by decide +kernel) rfl (by decide) ?_
    refine x_iadd (np := 13) (x := 0) (v := (2147483671 + 7 * u2)) (by decide +kernel) (by first | decide | omega) (by decide) (by first | decide | omega) (by first | decide | omega) ?_
    have q458 : h450 76 (23 + 7 * u2) = h 76 (23 + 7 * u2) := by rw [← e452]; exact x_up_k (by decide)
    refine x_aldC (np := 14) (x := 0) (n := 1952) (i := (23 + 7 * u2)) (q := ((h 76 (23 + 7 * u2)))) (by decide +kernel) (by decide +kernel) (by first | decide | omega) (by first | decide | omega) (by decide) q458 (fun l459 => ?_)
    refine x_retI (np := 15) (x := 0) (by decide +kernel) l459 (Or.inl (by decide +kernel)) ⟨_, rfl, l459, ?_⟩
    refine x_ast (np := 126) (x := 0) (kd := 1) (n := 8) (i := 1) (by decide +kernel) (Or.inl rfl) (by decide +kernel) (by first | decide | omega) (by first | decide | omega) (by decide) l459 (fun z => absurd z (by decide)) ?_
    have j461 := jU (e := 1) (v := ((h 76 (23 + 7 * u2)))) 1 j451 rg_81_0_1_8 (by first | decide | omega) (by first | decide | omega) (by first | decide | omega)
    have f463 := jF (e := 1) (v := ((h 76 (23 + 7 * u2)))) 1 f453 rg_81_0_1_8 (by first | decide | omega) (by first | decide | omega) (by decide)
    have m464 := MB.oth (q := 81) (e := 1) (v := ((h 76 (23 + 7 * u2)))) m454 (by decide)
    generalize e462 : x_up h450 81 1 ((h 76 (23 + 7 * u2))) = h460 at j461 f463 m464 ⊢
    refine x_aload (np := 127) (x := 0) (by decide +kernel) rfl (x_nc_le (by decide)) ?_
    have q465 : h460 75 14 = 81 := by have z := jB (e := 14) 0 j461 rg_75_14_0_1 (by decide) (by decide); omega
    refine x_getR (np := 130) (x := 718) (f := 14) (q := 81) (by decide +kernel) (by decide) (by decide +kernel) q465 ?_
    refine x_const (np := 131) (x := 9223372047592194050) (a := 2147483650) (by decide +kernel) (by decide) (by decide) ?_
    refine x_aload (np := 132) (x := 0) (by decide +kernel) rfl (x_nc_le (by decide)) ?_
    refine x_iload (np := 133) (x := 1) (by decide +kernel) rfl la1 ?_
    refine x_const (np := 134) (x := 9223372060477095941) (a := 2147483653) (by decide +kernel) (by decide) (by decide) ?_
    refine x_nI (t := 6) (mj := 161) (n := 3) (rc := 12) (ml := 3) (nr := 2) (np := 137) (as := [x_r 75, iv_c a1, iv_c 2147483653]) (rest := [iv_c 2147483650, x_r 81]) (lo1 := [x_r 75, iv_c a1, iv_c 2147483653]) (by decide +kernel) (by decide) (by decide +kernel) (x_rb_of (by decide +kernel)) rfl rfl (x_wr (by decide) (x_wi la1 (x_wi (by decide) x_wn))) (x_wi (by decide) (x_wr (by decide) x_wn)) (by decide) rfl ?_
    refine x_aload (np := 1) (x := 0) (by decide +kernel) rfl (x_nc_le (by decide)) ?_
    have q466 : h460 75 1 = 76 := by have z := jB (e := 1) 0 j461 rg_75_1_0_1 (by decide) (by decide); omega
    refine x_getR (np := 4) (x := 705) (f := 1) (q := 76) (by decide +kernel) (by decide) (by decide +kernel) q466 ?_
    refine x_const (np := 6) (x := 9223372124901605396) (a := 2147483668) (by decide +kernel) (by decide) (by decide) ?_
    refine x_const (np := 8) (x := 9223372069067030535) (a := 2147483655) (by decide +kernel) (by decide) (by decide) ?_
    refine x_iload (np := 9) (x := 1) (by decide +kernel) rfl la1 ?_
    refine x_imul (np := 10) (x := 0) (i := 7) (j := u2) (v := (2147483648 + 7 * u2)) (by decide +kernel) (by first | decide | omega) (by first | decide | omega) (by first | decide | omega) (by first | decide | omega) (by decide) la1 ?_
    refine x_iadd (np := 11) (x := 0) (v := (2147483668 + 7 * u2)) (by decide +kernel) (by decide) (by first | decide | omega) (by first | decide | omega) (by first | decide | omega) ?_
    refine x_iload (np := 12) (x := 2) (by decide +kernel) rfl (by decide) ?_
    refine x_iadd (np := 13) (x := 0) (v := (2147483673 + 7 * u2)) (by decide +kernel) (by first | decide | omega) (by decide) (by first | decide | omega) (by first | decide | omega) ?_
    have q468 : h460 76 (25 + 7 * u2) = h450 76 (25 + 7 * u2) := by rw [← e462]; exact x_up_k (by decide)
    have q469 : h450 76 (25 + 7 * u2) = h 76 (25 + 7 * u2) := by rw [← e452]; exact x_up_k (by decide)
    refine x_aldC (np := 14) (x := 0) (n := 1952) (i := (25 + 7 * u2)) (q := ((h 76 (25 + 7 * u2)))) (by decide +kernel) (by decide +kernel) (by first | decide | omega) (by first | decide | omega) (by decide) (q468.trans q469) (fun l470 => ?_)
    refine x_retI (np := 15) (x := 0) (by decide +kernel) l470 (Or.inl (by decide +kernel)) ⟨_, rfl, l470, ?_⟩
    refine x_ast (np := 138) (x := 0) (kd := 1) (n := 8) (i := 2) (by decide +kernel) (Or.inl rfl) (by decide +kernel) (by first | decide | omega) (by first | decide | omega) (by decide) l470 (fun z => absurd z (by decide)) ?_
    have j472 := jU (e := 2) (v := ((h 76 (25 + 7 * u2)))) 2 j461 rg_81_0_1_8 (by first | decide | omega) (by first | decide | omega) (by first | decide | omega)
    have f474 := jF (e := 2) (v := ((h 76 (25 + 7 * u2)))) 2 f463 rg_81_0_1_8 (by first | decide | omega) (by first | decide | omega) (by decide)
    have m475 := MB.oth (q := 81) (e := 2) (v := ((h 76 (25 + 7 * u2)))) m464 (by decide)
    generalize e473 : x_up h460 81 2 ((h 76 (25 + 7 * u2))) = h471 at j472 f474 m475 ⊢
    refine x_aload (np := 139) (x := 0) (by decide +kernel) rfl (x_nc_le (by decide)) ?_
    have q476 : h471 75 14 = 81 := by have z := jB (e := 14) 0 j472 rg_75_14_0_1 (by decide) (by decide); omega
    refine x_getR (np := 142) (x := 718) (f := 14) (q := 81) (by decide +kernel) (by decide) (by decide +kernel) q476 ?_
    refine x_const (np := 143) (x := 9223372051887161347) (a := 2147483651) (by decide +kernel) (by decide) (by decide) ?_
    refine x_aload (np := 144) (x := 0) (by decide +kernel) rfl (x_nc_le (by decide)) ?_
    have q477 : h471 75 16 = 83 := by have z := jB (e := 16) 0 j472 rg_75_16_0_1 (by decide) (by decide); omega
    refine x_getR (np := 147) (x := 720) (f := 16) (q := 83) (by decide +kernel) (by decide) (by decide +kernel) q477 ?_
    refine x_iload (np := 148) (x := 3) (by decide +kernel) rfl l6 ?_
    have q478 : h471 83 u15 = h460 83 u15 := by rw [← e473]; exact x_up_k (by decide)
    have q479 : h460 83 u15 = h450 83 u15 := by rw [← e462]; exact x_up_k (by decide)
    have q480 : h450 83 u15 = h 83 u15 := by rw [← e452]; exact x_up_k (by decide)
    have z481 := m475 u15 (by first | decide | omega)
    refine x_aldC (np := 149) (x := 0) (n := 6) (i := u15) (q := (h 83 u15)) (by decide +kernel) (by decide +kernel) (by first | decide | omega) (by first | decide | omega) (by decide) ((q478.trans q479).trans q480) (fun l482 => ?_)
    refine x_ast (np := 150) (x := 0) (kd := 1) (n := 8) (i := 3) (by decide +kernel) (Or.inl rfl) (by decide +kernel) (by first | decide | omega) (by first | decide | omega) (by decide) l19 (fun z => absurd z (by decide)) ?_
    have j484 := jU (e := 3) (v := (h 83 u15)) 3 j472 rg_81_0_1_8 (by first | decide | omega) (by first | decide | omega) (by first | decide | omega)
    have f486 := jF (e := 3) (v := (h 83 u15)) 3 f474 rg_81_0_1_8 (by first | decide | omega) (by first | decide | omega) (by decide)
    have m487 := MB.oth (q := 81) (e := 3) (v := (h 83 u15)) m475 (by decide)
    generalize e485 : x_up h471 81 3 (h 83 u15) = h483 at j484 f486 m487 ⊢
    refine x_aload (np := 151) (x := 0) (by decide +kernel) rfl (x_nc_le (by decide)) ?_
    have q488 : h483 75 14 = 81 := by have z := jB (e := 14) 0 j484 rg_75_14_0_1 (by decide) (by decide); omega
    refine x_getR (np := 154) (x := 718) (f := 14) (q := 81) (by decide +kernel) (by decide) (by decide +kernel) q488 ?_
    refine x_const (np := 155) (x := 9223372056182128644) (a := 2147483652) (by decide +kernel) (by decide) (by decide) ?_
    refine x_aload (np := 156) (x := 0) (by decide +kernel) rfl (x_nc_le (by decide)) ?_
    refine x_iload (np := 158) (x := 5) (by decide +kernel) rfl l12 ?_
    refine x_iload (np := 159) (x := 2) (by decide +kernel) rfl la2 ?_
    refine x_cP (t := 6) (mj := 208) (n := 3) (rc := 12) (ml := 5) (nr := 2) (np := 162) (as := [x_r 75, iv_c v11, iv_c a2]) (rest := [iv_c 2147483652, x_r 81]) (lo1 := [x_r 75, iv_c v11, iv_c a2, 147573952589676412928, 147573952589676412928]) (by decide +kernel) (by decide) (by decide +kernel) (x_rb_of (by decide +kernel)) rfl rfl (x_wr (by decide) (x_wi l12 (x_wi la2 x_wn))) (x_wi (by decide) (x_wr (by decide) x_wn)) (by decide) rfl (c208_75 j484  (by first | decide | omega) (by first | decide | omega)) (fun v489 l490 q491 => ?_)
    refine x_ast (np := 163) (x := 0) (kd := 1) (n := 8) (i := 4) (by decide +kernel) (Or.inl rfl) (by decide +kernel) (by first | decide | omega) (by first | decide | omega) (by decide) l490 (fun z => absurd z (by decide)) ?_
    have j493 := jU (e := 4) (v := v489) 4 j484 rg_81_0_1_8 (by first | decide | omega) (by first | decide | omega) (by first | decide | omega)
    have f495 := jF (e := 4) (v := v489) 4 f486 rg_81_0_1_8 (by first | decide | omega) (by first | decide | omega) (by decide)
    have m496 := MB.oth (q := 81) (e := 4) (v := v489) m487 (by decide)
    generalize e494 : x_up h483 81 4 v489 = h492 at j493 f495 m496 ⊢
    refine x_aload (np := 164) (x := 0) (by decide +kernel) rfl (x_nc_le (by decide)) ?_
    have q497 : h492 75 14 = 81 := by have z := jB (e := 14) 0 j493 rg_75_14_0_1 (by decide) (by decide); omega
    refine x_getR (np := 167) (x := 718) (f := 14) (q := 81) (by decide +kernel) (by decide) (by decide +kernel) q497 ?_
    refine x_const (np := 168) (x := 9223372060477095941) (a := 2147483653) (by decide +kernel) (by decide) (by decide) ?_
    refine x_aload (np := 169) (x := 0) (by decide +kernel) rfl (x_nc_le (by decide)) ?_
    refine x_iload (np := 171) (x := 4) (by decide +kernel) rfl l10 ?_
    refine x_iload (np := 172) (x := 2) (by decide +kernel) rfl la2 ?_
    refine x_cP (t := 6) (mj := 208) (n := 3) (rc := 12) (ml := 5) (nr := 2) (np := 175) (as := [x_r 75, iv_c ((h 76 (21 + 7 * u2))), iv_c a2]) (rest := [iv_c 2147483653, x_r 81]) (lo1 := [x_r 75, iv_c ((h 76 (21 + 7 * u2))), iv_c a2, 147573952589676412928, 147573952589676412928]) (by decide +kernel) (by decide) (by decide +kernel) (x_rb_of (by decide +kernel)) rfl rfl (x_wr (by decide) (x_wi l10 (x_wi la2 x_wn))) (x_wi (by decide) (x_wr (by decide) x_wn)) (by decide) rfl (c208_75 j493  (by first | decide | omega) (by first | decide | omega)) (fun v498 l499 q500 => ?_)
    refine x_ast (np := 176) (x := 0) (kd := 1) (n := 8) (i := 5) (by decide +kernel) (Or.inl rfl) (by decide +kernel) (by first | decide | omega) (by first | decide | omega) (by decide) l499 (fun z => absurd z (by decide)) ?_
    have j502 := jU (e := 5) (v := v498) 5 j493 rg_81_0_1_8 (by first | decide | omega) (by first | decide | omega) (by first | decide | omega)
    have f504 := jF (e := 5) (v := v498) 5 f495 rg_81_0_1_8 (by first | decide | omega) (by first | decide | omega) (by decide)
    have m505 := MB.oth (q := 81) (e := 5) (v := v498) m496 (by decide)
    generalize e503 : x_up h492 81 5 v498 = h501 at j502 f504 m505 ⊢
    refine x_aload (np := 177) (x := 0) (by decide +kernel) rfl (x_nc_le (by decide)) ?_
    have q506 : h501 75 14 = 81 := by have z := jB (e := 14) 0 j502 rg_75_14_0_1 (by decide) (by decide); omega
    refine x_getR (np := 180) (x := 718) (f := 14) (q := 81) (by decide +kernel) (by decide) (by decide +kernel) q506 ?_
    refine x_const (np := 182) (x := 9223372064772063238) (a := 2147483654) (by decide +kernel) (by decide) (by decide) ?_
    refine x_iload (np := 184) (x := 5) (by decide +kernel) rfl l12 ?_
    refine x_iload (np := 185) (x := 3) (by decide +kernel) rfl l6 ?_
    refine x_icmp (k := 1) (tg := 192) (np := 188) (by decide +kernel) (by decide) l12 l6 (fun q507 => ?_) (fun q508 => ?_)
    · have q507 : v11 ≠ ((h 76 (20 + 7 * u2))) := q507
      refine x_const (np := 193) (x := 9223372039002259456) (a := 2147483648) (by decide +kernel) (by decide) (by decide) ?_
      refine x_ast (np := 194) (x := 0) (kd := 1) (n := 8) (i := 6) (by decide +kernel) (Or.inl rfl) (by decide +kernel) (by first | decide | omega) (by first | decide | omega) (by decide) (by decide) (fun z => absurd z (by decide)) ?_
      have j510 := jU (e := 6) (v := 2147483648) 6 j502 rg_81_0_1_8 (by first | decide | omega) (by first | decide | omega) (by first | decide | omega)
      have f512 := jF (e := 6) (v := 2147483648) 6 f504 rg_81_0_1_8 (by first | decide | omega) (by first | decide | omega) (by decide)
      have m513 := MB.oth (q := 81) (e := 6) (v := 2147483648) m505 (by decide)
      generalize e511 : x_up h501 81 6 2147483648 = h509 at j510 f512 m513 ⊢
      refine x_aload (np := 195) (x := 0) (by decide +kernel) rfl (x_nc_le (by decide)) ?_
      have q514 : h509 75 14 = 81 := by have z := jB (e := 14) 0 j510 rg_75_14_0_1 (by decide) (by decide); omega
      refine x_getR (np := 198) (x := 718) (f := 14) (q := 81) (by decide +kernel) (by decide) (by decide +kernel) q514 ?_
      refine x_const (np := 200) (x := 9223372069067030535) (a := 2147483655) (by decide +kernel) (by decide) (by decide) ?_
      refine x_iload (np := 202) (x := 4) (by decide +kernel) rfl l10 ?_
      refine x_iload (np := 203) (x := 3) (by decide +kernel) rfl l6 ?_
      refine x_icmp (k := 1) (tg := 210) (np := 206) (by decide +kernel) (by decide) l10 l6 (fun q515 => ?_) (fun q516 => ?_)
      · have q515 : ((h 76 (21 + 7 * u2))) ≠ ((h 76 (20 + 7 * u2))) := q515
        refine x_const (np := 211) (x := 9223372039002259456) (a := 2147483648) (by decide +kernel) (by decide) (by decide) ?_
        refine x_ast (np := 212) (x := 0) (kd := 1) (n := 8) (i := 7) (by decide +kernel) (Or.inl rfl) (by decide +kernel) (by first | decide | omega) (by first | decide | omega) (by decide) (by decide) (fun z => absurd z (by decide)) ?_
        have j518 := jU (e := 7) (v := 2147483648) 7 j510 rg_81_0_1_8 (by first | decide | omega) (by first | decide | omega) (by first | decide | omega)
        have f520 := jF (e := 7) (v := 2147483648) 7 f512 rg_81_0_1_8 (by first | decide | omega) (by first | decide | omega) (by decide)
        have m521 := MB.oth (q := 81) (e := 7) (v := 2147483648) m513 (by decide)
        generalize e519 : x_up h509 81 7 2147483648 = h517 at j518 f520 m521 ⊢
        refine x_aload (np := 213) (x := 0) (by decide +kernel) rfl (x_nc_le (by decide)) ?_
        have m532 : WT 76 h450 := by rw [← e452]; exact WT.oth hW hJ (by decide)
        have m531 : WT 76 h460 := by rw [← e462]; exact WT.oth m532 j451 (by decide)
        have m530 : WT 76 h471 := by rw [← e473]; exact WT.oth m531 j461 (by decide)
        have m529 : WT 76 h483 := by rw [← e485]; exact WT.oth m530 j472 (by decide)
        have m528 : WT 76 h492 := by rw [← e494]; exact WT.oth m529 j484 (by decide)
        have m527 : WT 76 h501 := by rw [← e503]; exact WT.oth m528 j493 (by decide)
        have m526 : WT 76 h509 := by rw [← e511]; exact WT.oth m527 j502 (by decide)
        have m525 : WT 76 h517 := by rw [← e519]; exact WT.oth m526 j510 (by decide)
        refine x_cI (t := 6) (mj := 199) (n := 1) (rc := 12) (ml := 2) (nr := 0) (np := 216) (as := [x_r 75]) (rest := []) (lo1 := [x_r 75, 147573952589676412928]) (by decide +kernel) (by decide) (by decide +kernel) (x_rb_of (by decide +kernel)) rfl rfl (x_wr (by decide) x_wn) x_wn (by decide) rfl (c199_75 j518  m525) (fun v522 h533 l523 q524 => ?_)
        obtain ⟨j534, f535, b536⟩ := q524
        have m537 := MB.fr m521 f535 (by decide)
        have f538 := Fr.trans f520 f535 (by decide)
        refine x_ifz (k := 1) (tg := 220) (np := 219) (by decide +kernel) (by decide) l523 (fun q539 => ?_) (fun q540 => ?_)
        · have q539 : v522 ≠ 2147483648 := q539
          refine x_aload (np := 221) (x := 0) (by decide +kernel) rfl (x_nc_le (by decide)) ?_
          have q541 : h533 75 21 = 88 := by have z := jB (e := 21) 0 j534 rg_75_21_0_1 (by decide) (by decide); omega
          refine x_getR (np := 224) (x := 725) (f := 21) (q := 88) (by decide +kernel) (by decide) (by decide +kernel) q541 ?_
          refine x_iload (np := 225) (x := 1) (by decide +kernel) rfl la1 ?_
          refine x_iload (np := 227) (x := 5) (by decide +kernel) rfl l12 ?_
          refine x_ast (np := 228) (x := 0) (kd := 1) (n := 20) (i := u2) (by decide +kernel) (Or.inl rfl) (by decide +kernel) (by first | decide | omega) (by first | decide | omega) (by decide) l12 (fun z => absurd z (by decide)) ?_
          have j543 := jU (e := u2) (v := v11) u2 j534 rg_88_0_1_20 (by first | decide | omega) (by first | decide | omega) (by first | decide | omega)
          have f545 := jF (e := u2) (v := v11) u2 f538 rg_88_0_1_20 (by first | decide | omega) (by first | decide | omega) (by decide)
          have m546 := MB.oth (q := 88) (e := u2) (v := v11) m537 (by decide)
          generalize e544 : x_up h533 88 u2 v11 = h542 at j543 f545 m546 ⊢
          refine x_aload (np := 229) (x := 0) (by decide +kernel) rfl (x_nc_le (by decide)) ?_
          have q547 : h542 75 17 = 84 := by have z := jB (e := 17) 0 j543 rg_75_17_0_1 (by decide) (by decide); omega
          refine x_getR (np := 232) (x := 721) (f := 17) (q := 84) (by decide +kernel) (by decide) (by decide +kernel) q547 ?_
          refine x_const (np := 234) (x := 9223372124901605396) (a := 2147483668) (by decide +kernel) (by decide) (by decide) ?_
          refine x_iload (np := 235) (x := 3) (by decide +kernel) rfl l6 ?_
          refine x_imul (np := 236) (x := 0) (i := 20) (j := u15) (v := (2147483648 + 20 * u15)) (by decide +kernel) (by first | decide | omega) (by first | decide | omega) (by first | decide | omega) (by first | decide | omega) (by decide) l6 ?_
          refine x_aload (np := 237) (x := 0) (by decide +kernel) rfl (x_nc_le (by decide)) ?_
          have q549 : h542 75 16 = 83 := by have z := jB (e := 16) 0 j543 rg_75_16_0_1 (by decide) (by decide); omega
          refine x_getR (np := 240) (x := 720) (f := 16) (q := 83) (by decide +kernel) (by decide) (by decide +kernel) q549 ?_
          refine x_iload (np := 241) (x := 3) (by decide +kernel) rfl l6 ?_
          have q550 : h542 83 u15 = h533 83 u15 := by rw [← e544]; exact x_up_k (by decide)
          have q551 : h533 83 u15 = h517 83 u15 := jK u15 f535 rg_83_0_1_6 (by first | decide | omega) (by first | decide | omega) (by decide)
          have q552 : h517 83 u15 = h509 83 u15 := by rw [← e519]; exact x_up_k (by decide)
          have q553 : h509 83 u15 = h501 83 u15 := by rw [← e511]; exact x_up_k (by decide)
          have q554 : h501 83 u15 = h492 83 u15 := by rw [← e503]; exact x_up_k (by decide)
          have q555 : h492 83 u15 = h483 83 u15 := by rw [← e494]; exact x_up_k (by decide)
          have q556 : h483 83 u15 = h471 83 u15 := by rw [← e485]; exact x_up_k (by decide)
          have q557 : h471 83 u15 = h460 83 u15 := by rw [← e473]; exact x_up_k (by decide)
          have q558 : h460 83 u15 = h450 83 u15 := by rw [← e462]; exact x_up_k (by decide)
          have q559 : h450 83 u15 = h 83 u15 := by rw [← e452]; exact x_up_k (by decide)
          have z560 := m546 u15 (by first | decide | omega)
          refine x_aldC (np := 242) (x := 0) (n := 6) (i := u15) (q := (h 83 u15)) (by decide +kernel) (by decide +kernel) (by first | decide | omega) (by first | decide | omega) (by decide) (((((((((q550.trans q551).trans q552).trans q553).trans q554).trans q555).trans q556).trans q557).trans q558).trans q559) (fun l561 => ?_)
          refine x_iadd (np := 243) (x := 0) (v := (20 * u15 + (h 83 u15))) (by decide +kernel) (by first | decide | omega) l19 (by first | decide | omega) (by first | decide | omega) ?_
          refine x_iload (np := 244) (x := 1) (by decide +kernel) rfl la1 ?_
          obtain ⟨u562, q563⟩ : ∃ z, (h 83 u15) = 2147483648 + z := ⟨(h 83 u15) - 2147483648, by first | decide | omega⟩
          refine x_ast (np := 245) (x := 0) (kd := 1) (n := 120) (i := (20 * u15 + u562)) (by decide +kernel) (Or.inl rfl) (by decide +kernel) (by first | decide | omega) (by first | decide | omega) (by decide) la1 (fun z => absurd z (by decide)) ?_
          have j565 := jU (e := (20 * u15 + u562)) (v := a1) (20 * u15 + u562) j543 rg_84_0_1_120 (by first | decide | omega) (by first | decide | omega) (by first | decide | omega)
          have f567 := jF (e := (20 * u15 + u562)) (v := a1) (20 * u15 + u562) f545 rg_84_0_1_120 (by first | decide | omega) (by first | decide | omega) (by decide)
          have m568 := MB.oth (q := 84) (e := (20 * u15 + u562)) (v := a1) m546 (by decide)
          generalize e566 : x_up h542 84 (20 * u15 + u562) a1 = h564 at j565 f567 m568 ⊢
          refine x_aload (np := 246) (x := 0) (by decide +kernel) rfl (x_nc_le (by decide)) ?_
          have q569 : h564 75 16 = 83 := by have z := jB (e := 16) 0 j565 rg_75_16_0_1 (by decide) (by decide); omega
          refine x_getR (np := 249) (x := 720) (f := 16) (q := 83) (by decide +kernel) (by decide) (by decide +kernel) q569 ?_
          refine x_iload (np := 250) (x := 3) (by decide +kernel) rfl l6 ?_
          refine x_dup2 (np := 251) (x := 0) (by decide +kernel) (by have z := (iw_c_lt (a := ((h 76 (20 + 7 * u2)))) l6).1; omega) (by have z := x_nc_le (k := 83) (by decide); unfold x_r; omega) ?_
          have q570 : h564 83 u15 = h542 83 u15 := by rw [← e566]; exact x_up_k (by decide)
          have q571 : h542 83 u15 = h533 83 u15 := by rw [← e544]; exact x_up_k (by decide)
          have q572 : h533 83 u15 = h517 83 u15 := jK u15 f535 rg_83_0_1_6 (by first | decide | omega) (by first | decide | omega) (by decide)
          have q573 : h517 83 u15 = h509 83 u15 := by rw [← e519]; exact x_up_k (by decide)
          have q574 : h509 83 u15 = h501 83 u15 := by rw [← e511]; exact x_up_k (by decide)
          have q575 : h501 83 u15 = h492 83 u15 := by rw [← e503]; exact x_up_k (by decide)
          have q576 : h492 83 u15 = h483 83 u15 := by rw [← e494]; exact x_up_k (by decide)
          have q577 : h483 83 u15 = h471 83 u15 := by rw [← e485]; exact x_up_k (by decide)
          have q578 : h471 83 u15 = h460 83 u15 := by rw [← e473]; exact x_up_k (by decide)
          have q579 : h460 83 u15 = h450 83 u15 := by rw [← e462]; exact x_up_k (by decide)
          have q580 : h450 83 u15 = h 83 u15 := by rw [← e452]; exact x_up_k (by decide)
          have z581 := m568 u15 (by first | decide | omega)
          refine x_aldC (np := 252) (x := 0) (n := 6) (i := u15) (q := (h 83 u15)) (by decide +kernel) (by decide +kernel) (by first | decide | omega) (by first | decide | omega) (by decide) ((((((((((q570.trans q571).trans q572).trans q573).trans q574).trans q575).trans q576).trans q577).trans q578).trans q579).trans q580) (fun l582 => ?_)
          refine x_const (np := 253) (x := 9223372043297226753) (a := 2147483649) (by decide +kernel) (by decide) (by decide) ?_
          refine x_iadd (np := 254) (x := 0) (v := (1 + (h 83 u15))) (by decide +kernel) l19 (by decide) (by first | decide | omega) (by first | decide | omega) ?_
          refine x_ast (np := 255) (x := 0) (kd := 1) (n := 6) (i := u15) (by decide +kernel) (Or.inl rfl) (by decide +kernel) (by first | decide | omega) (by first | decide | omega) (by decide) (by first | decide | omega) (fun z => absurd z (by decide)) ?_
          have j584 := jU (e := u15) (v := (1 + (h 83 u15))) u15 j565 rg_83_0_1_6 (by first | decide | omega) (by first | decide | omega) (by first | decide | omega)
          have f586 := jF (e := u15) (v := (1 + (h 83 u15))) u15 f567 rg_83_0_1_6 (by first | decide | omega) (by first | decide | omega) (by decide)
          have m587 := MB.up (e := u15) (v := (1 + (h 83 u15))) (MB.mono m568 (Nat.le_refl _) (Nat.le_succ _)) (by have z := m568 u15 (by first | decide | omega); omega)
          generalize e585 : x_up h564 83 u15 (1 + (h 83 u15)) = h583 at j584 f586 m587 ⊢
          refine x_retV (np := 256) (x := 0) (by decide +kernel) (by decide +kernel) ⟨rfl, ?_⟩
          exact ⟨j584, f586, m587⟩
        have q540 : ¬ (v522 ≠ 2147483648) := q540
        refine x_retV (np := 220) (x := 0) (by decide +kernel) (by decide +kernel) ⟨rfl, ?_⟩
        exact ⟨j534, f538, (MB.mono m537 (Nat.le_refl _) (Nat.le_succ _))⟩
      have q516 : ¬ (((h 76 (21 + 7 * u2))) ≠ ((h 76 (20 + 7 * u2)))) := q516
      refine x_const (np := 207) (x := 9223372043297226753) (a := 2147483649) (by decide +kernel) (by decide) (by decide) ?_
      refine x_goto (np := 210) (x := 211) (by decide +kernel) ?_
      refine x_ast (np := 212) (x := 0) (kd := 1) (n := 8) (i := 7) (by decide +kernel) (Or.inl rfl) (by decide +kernel) (by first | decide | omega) (by first | decide | omega) (by decide) (by decide) (fun z => absurd z (by decide)) ?_
      have j589 := jU (e := 7) (v := 2147483649) 7 j510 rg_81_0_1_8 (by first | decide | omega) (by first | decide | omega) (by first | decide | omega)
      have f591 := jF (e := 7) (v := 2147483649) 7 f512 rg_81_0_1_8 (by first | decide | omega) (by first | decide | omega) (by decide)
      have m592 := MB.oth (q := 81) (e := 7) (v := 2147483649) m513 (by decide)
      generalize e590 : x_up h509 81 7 2147483649 = h588 at j589 f591 m592 ⊢
      refine x_aload (np := 213) (x := 0) (by decide +kernel) rfl (x_nc_le (by decide)) ?_
      have m603 : WT 76 h450 := by rw [← e452]; exact WT.oth hW hJ (by decide)
      have m602 : WT 76 h460 := by rw [← e462]; exact WT.oth m603 j451 (by decide)
      have m601 : WT 76 h471 := by rw [← e473]; exact WT.oth m602 j461 (by decide)
      have m600 : WT 76 h483 := by rw [← e485]; exact WT.oth m601 j472 (by decide)
      have m599 : WT 76 h492 := by rw [← e494]; exact WT.oth m600 j484 (by decide)
      have m598 : WT 76 h501 := by rw [← e503]; exact WT.oth m599 j493 (by decide)
      have m597 : WT 76 h509 := by rw [← e511]; exact WT.oth m598 j502 (by decide)
      have m596 : WT 76 h588 := by rw [← e590]; exact WT.oth m597 j510 (by decide)
      refine x_cI (t := 6) (mj := 199) (n := 1) (rc := 12) (ml := 2) (nr := 0) (np := 216) (as := [x_r 75]) (rest := []) (lo1 := [x_r 75, 147573952589676412928]) (by decide +kernel) (by decide) (by decide +kernel) (x_rb_of (by decide +kernel)) rfl rfl (x_wr (by decide) x_wn) x_wn (by decide) rfl (c199_75 j589  m596) (fun v593 h604 l594 q595 => ?_)
      obtain ⟨j605, f606, b607⟩ := q595
      have m608 := MB.fr m592 f606 (by decide)
      have f609 := Fr.trans f591 f606 (by decide)
      refine x_ifz (k := 1) (tg := 220) (np := 219) (by decide +kernel) (by decide) l594 (fun q610 => ?_) (fun q611 => ?_)
      · have q610 : v593 ≠ 2147483648 := q610
        refine x_aload (np := 221) (x := 0) (by decide +kernel) rfl (x_nc_le (by decide)) ?_
        have q612 : h604 75 21 = 88 := by have z := jB (e := 21) 0 j605 rg_75_21_0_1 (by decide) (by decide); omega
        refine x_getR (np := 224) (x := 725) (f := 21) (q := 88) (by decide +kernel) (by decide) (by decide +kernel) q612 ?_
        refine x_iload (np := 225) (x := 1) (by decide +kernel) rfl la1 ?_
        refine x_iload (np := 227) (x := 5) (by decide +kernel) rfl l12 ?_
        refine x_ast (np := 228) (x := 0) (kd := 1) (n := 20) (i := u2) (by decide +kernel) (Or.inl rfl) (by decide +kernel) (by first | decide | omega) (by first | decide | omega) (by decide) l12 (fun z => absurd z (by decide)) ?_
        have j614 := jU (e := u2) (v := v11) u2 j605 rg_88_0_1_20 (by first | decide | omega) (by first | decide | omega) (by first | decide | omega)
        have f616 := jF (e := u2) (v := v11) u2 f609 rg_88_0_1_20 (by first | decide | omega) (by first | decide | omega) (by decide)
        have m617 := MB.oth (q := 88) (e := u2) (v := v11) m608 (by decide)
        generalize e615 : x_up h604 88 u2 v11 = h613 at j614 f616 m617 ⊢
        refine x_aload (np := 229) (x := 0) (by decide +kernel) rfl (x_nc_le (by decide)) ?_
        have q618 : h613 75 17 = 84 := by have z := jB (e := 17) 0 j614 rg_75_17_0_1 (by decide) (by decide); omega
        refine x_getR (np := 232) (x := 721) (f := 17) (q := 84) (by decide +kernel) (by decide) (by decide +kernel) q618 ?_
        refine x_const (np := 234) (x := 9223372124901605396) (a := 2147483668) (by decide +kernel) (by decide) (by decide) ?_
        refine x_iload (np := 235) (x := 3) (by decide +kernel) rfl l6 ?_
        refine x_imul (np := 236) (x := 0) (i := 20) (j := u15) (v := (2147483648 + 20 * u15)) (by decide +kernel) (by first | decide | omega) (by first | decide | omega) (by first | decide | omega) (by first | decide | omega) (by decide) l6 ?_
        refine x_aload (np := 237) (x := 0) (by decide +kernel) rfl (x_nc_le (by decide)) ?_
        have q620 : h613 75 16 = 83 := by have z := jB (e := 16) 0 j614 rg_75_16_0_1 (by decide) (by decide); omega
        refine x_getR (np := 240) (x := 720) (f := 16) (q := 83) (by decide +kernel) (by decide) (by decide +kernel) q620 ?_
        refine x_iload (np := 241) (x := 3) (by decide +kernel) rfl l6 ?_
        have q621 : h613 83 u15 = h604 83 u15 := by rw [← e615]; exact x_up_k (by decide)
        have q622 : h604 83 u15 = h588 83 u15 := jK u15 f606 rg_83_0_1_6 (by first | decide | omega) (by first | decide | omega) (by decide)
        have q623 : h588 83 u15 = h509 83 u15 := by rw [← e590]; exact x_up_k (by decide)
        have q624 : h509 83 u15 = h501 83 u15 := by rw [← e511]; exact x_up_k (by decide)
        have q625 : h501 83 u15 = h492 83 u15 := by rw [← e503]; exact x_up_k (by decide)
        have q626 : h492 83 u15 = h483 83 u15 := by rw [← e494]; exact x_up_k (by decide)
        have q627 : h483 83 u15 = h471 83 u15 := by rw [← e485]; exact x_up_k (by decide)
        have q628 : h471 83 u15 = h460 83 u15 := by rw [← e473]; exact x_up_k (by decide)
        have q629 : h460 83 u15 = h450 83 u15 := by rw [← e462]; exact x_up_k (by decide)
        have q630 : h450 83 u15 = h 83 u15 := by rw [← e452]; exact x_up_k (by decide)
        have z631 := m617 u15 (by first | decide | omega)
        refine x_aldC (np := 242) (x := 0) (n := 6) (i := u15) (q := (h 83 u15)) (by decide +kernel) (by decide +kernel) (by first | decide | omega) (by first | decide | omega) (by decide) (((((((((q621.trans q622).trans q623).trans q624).trans q625).trans q626).trans q627).trans q628).trans q629).trans q630) (fun l632 => ?_)
        refine x_iadd (np := 243) (x := 0) (v := (20 * u15 + (h 83 u15))) (by decide +kernel) (by first | decide | omega) l19 (by first | decide | omega) (by first | decide | omega) ?_
        refine x_iload (np := 244) (x := 1) (by decide +kernel) rfl la1 ?_
        obtain ⟨u633, q634⟩ : ∃ z, (h 83 u15) = 2147483648 + z := ⟨(h 83 u15) - 2147483648, by first | decide | omega⟩
        refine x_ast (np := 245) (x := 0) (kd := 1) (n := 120) (i := (20 * u15 + u633)) (by decide +kernel) (Or.inl rfl) (by decide +kernel) (by first | decide | omega) (by first | decide | omega) (by decide) la1 (fun z => absurd z (by decide)) ?_
        have j636 := jU (e := (20 * u15 + u633)) (v := a1) (20 * u15 + u633) j614 rg_84_0_1_120 (by first | decide | omega) (by first | decide | omega) (by first | decide | omega)
        have f638 := jF (e := (20 * u15 + u633)) (v := a1) (20 * u15 + u633) f616 rg_84_0_1_120 (by first | decide | omega) (by first | decide | omega) (by decide)
        have m639 := MB.oth (q := 84) (e := (20 * u15 + u633)) (v := a1) m617 (by decide)
        generalize e637 : x_up h613 84 (20 * u15 + u633) a1 = h635 at j636 f638 m639 ⊢
        refine x_aload (np := 246) (x := 0) (by decide +kernel) rfl (x_nc_le (by decide)) ?_
        have q640 : h635 75 16 = 83 := by have z := jB (e := 16) 0 j636 rg_75_16_0_1 (by decide) (by decide); omega
        refine x_getR (np := 249) (x := 720) (f := 16) (q := 83) (by decide +kernel) (by decide) (by decide +kernel) q640 ?_
        refine x_iload (np := 250) (x := 3) (by decide +kernel) rfl l6 ?_
        refine x_dup2 (np := 251) (x := 0) (by decide +kernel) (by have z := (iw_c_lt (a := ((h 76 (20 + 7 * u2)))) l6).1; omega) (by have z := x_nc_le (k := 83) (by decide); unfold x_r; omega) ?_
        have q641 : h635 83 u15 = h613 83 u15 := by rw [← e637]; exact x_up_k (by decide)
        have q642 : h613 83 u15 = h604 83 u15 := by rw [← e615]; exact x_up_k (by decide)
        have q643 : h604 83 u15 = h588 83 u15 := jK u15 f606 rg_83_0_1_6 (by first | decide | omega) (by first | decide | omega) (by decide)
        have q644 : h588 83 u15 = h509 83 u15 := by rw [← e590]; exact x_up_k (by decide)
        have q645 : h509 83 u15 = h501 83 u15 := by rw [← e511]; exact x_up_k (by decide)
        have q646 : h501 83 u15 = h492 83 u15 := by rw [← e503]; exact x_up_k (by decide)
        have q647 : h492 83 u15 = h483 83 u15 := by rw [← e494]; exact x_up_k (by decide)
        have q648 : h483 83 u15 = h471 83 u15 := by rw [← e485]; exact x_up_k (by decide)
        have q649 : h471 83 u15 = h460 83 u15 := by rw [← e473]; exact x_up_k (by decide)
        have q650 : h460 83 u15 = h450 83 u15 := by rw [← e462]; exact x_up_k (by decide)
        have q651 : h450 83 u15 = h 83 u15 := by rw [← e452]; exact x_up_k (by decide)
        have z652 := m639 u15 (by first | decide | omega)
        refine x_aldC (np := 252) (x := 0) (n := 6) (i := u15) (q := (h 83 u15)) (by decide +kernel) (by decide +kernel) (by first | decide | omega) (by first | decide | omega) (by decide) ((((((((((q641.trans q642).trans q643).trans q644).trans q645).trans q646).trans q647).trans q648).trans q649).trans q650).trans q651) (fun l653 => ?_)
        refine x_const (np := 253) (x := 9223372043297226753) (a := 2147483649) (by decide +kernel) (by decide) (by decide) ?_
        refine x_iadd (np := 254) (x := 0) (v := (1 + (h 83 u15))) (by decide +kernel) l19 (by decide) (by first | decide | omega) (by first | decide | omega) ?_
        refine x_ast (np := 255) (x := 0) (kd := 1) (n := 6) (i := u15) (by decide +kernel) (Or.inl rfl) (by decide +kernel) (by first | decide | omega) (by first | decide | omega) (by decide) (by first | decide | omega) (fun z => absurd z (by decide)) ?_
        have j655 := jU (e := u15) (v := (1 + (h 83 u15))) u15 j636 rg_83_0_1_6 (by first | decide | omega) (by first | decide | omega) (by first | decide | omega)
        have f657 := jF (e := u15) (v := (1 + (h 83 u15))) u15 f638 rg_83_0_1_6 (by first | decide | omega) (by first | decide | omega) (by decide)
        have m658 := MB.up (e := u15) (v := (1 + (h 83 u15))) (MB.mono m639 (Nat.le_refl _) (Nat.le_succ _)) (by have z := m639 u15 (by first | decide | omega); omega)
        generalize e656 : x_up h635 83 u15 (1 + (h 83 u15)) = h654 at j655 f657 m658 ⊢
        refine x_retV (np := 256) (x := 0) (by decide +kernel) (by decide +kernel) ⟨rfl, ?_⟩
        exact ⟨j655, f657, m658⟩
      have q611 : ¬ (v593 ≠ 2147483648) := q611
      refine x_retV (np := 220) (x := 0) (by decide +kernel) (by decide +kernel) ⟨rfl, ?_⟩
      exact ⟨j605, f609, (MB.mono m608 (Nat.le_refl _) (Nat.le_succ _))⟩
    have q508 : ¬ (v11 ≠ ((h 76 (20 + 7 * u2)))) := q508
    refine x_const (np := 189) (x := 9223372043297226753) (a := 2147483649) (by decide +kernel) (by decide) (by decide) ?_
    refine x_goto (np := 192) (x := 193) (by decide +kernel) ?_
    refine x_ast (np := 194) (x := 0) (kd := 1) (n := 8) (i := 6) (by decide +kernel) (Or.inl rfl) (by decide +kernel) (by first | decide | omega) (by first | decide | omega) (by decide) (by decide) (fun z => absurd z (by decide)) ?_
    have j660 := jU (e := 6) (v := 2147483649) 6 j502 rg_81_0_1_8 (by first | decide | omega) (by first | decide | omega) (by first | decide | omega)
    have f662 := jF (e := 6) (v := 2147483649) 6 f504 rg_81_0_1_8 (by first | decide | omega) (by first | decide | omega) (by decide)
    have m663 := MB.oth (q := 81) (e := 6) (v := 2147483649) m505 (by decide)
    generalize e661 : x_up h501 81 6 2147483649 = h659 at j660 f662 m663 ⊢
    refine x_aload (np := 195) (x := 0) (by decide +kernel) rfl (x_nc_le (by decide)) ?_
    have q664 : h659 75 14 = 81 := by have z := jB (e := 14) 0 j660 rg_75_14_0_1 (by decide) (by decide); omega
    refine x_getR (np := 198) (x := 718) (f := 14) (q := 81) (by decide +kernel) (by decide) (by decide +kernel) q664 ?_
    refine x_const (np := 200) (x := 9223372069067030535) (a := 2147483655) (by decide +kernel) (by decide) (by decide) ?_
    refine x_iload (np := 202) (x := 4) (by decide +kernel) rfl l10 ?_
    refine x_iload (np := 203) (x := 3) (by decide +kernel) rfl l6 ?_
    refine x_icmp (k := 1) (tg := 210) (np := 206) (by decide +kernel) (by decide) l10 l6 (fun q665 => ?_) (fun q666 => ?_)
    · have q665 : ((h 76 (21 + 7 * u2))) ≠ ((h 76 (20 + 7 * u2))) := q665
      refine x_const (np := 211) (x := 9223372039002259456) (a := 2147483648) (by decide +kernel) (by decide) (by decide) ?_
      refine x_ast (np := 212) (x := 0) (kd := 1) (n := 8) (i := 7) (by decide +kernel) (Or.inl rfl) (by decide +kernel) (by first | decide | omega) (by first | decide | omega) (by decide) (by decide) (fun z => absurd z (by decide)) ?_
      have j668 := jU (e := 7) (v := 2147483648) 7 j660 rg_81_0_1_8 (by first | decide | omega) (by first | decide | omega) (by first | decide | omega)
      have f670 := jF (e := 7) (v := 2147483648) 7 f662 rg_81_0_1_8 (by first | decide | omega) (by first | decide | omega) (by decide)
      have m671 := MB.oth (q := 81) (e := 7) (v := 2147483648) m663 (by decide)
      generalize e669 : x_up h659 81 7 2147483648 = h667 at j668 f670 m671 ⊢
      refine x_aload (np := 213) (x := 0) (by decide +kernel) rfl (x_nc_le (by decide)) ?_
      have m682 : WT 76 h450 := by rw [← e452]; exact WT.oth hW hJ (by decide)
      have m681 : WT 76 h460 := by rw [← e462]; exact WT.oth m682 j451 (by decide)
      have m680 : WT 76 h471 := by rw [← e473]; exact WT.oth m681 j461 (by decide)
      have m679 : WT 76 h483 := by rw [← e485]; exact WT.oth m680 j472 (by decide)
      have m678 : WT 76 h492 := by rw [← e494]; exact WT.oth m679 j484 (by decide)
      have m677 : WT 76 h501 := by rw [← e503]; exact WT.oth m678 j493 (by decide)
      have m676 : WT 76 h659 := by rw [← e661]; exact WT.oth m677 j502 (by decide)
      have m675 : WT 76 h667 := by rw [← e669]; exact WT.oth m676 j660 (by decide)
      refine x_cI (t := 6) (mj := 199) (n := 1) (rc := 12) (ml := 2) (nr := 0) (np := 216) (as := [x_r 75]) (rest := []) (lo1 := [x_r 75, 147573952589676412928]) (by decide +kernel) (by decide) (by decide +kernel) (x_rb_of (by decide +kernel)) rfl rfl (x_wr (by decide) x_wn) x_wn (by decide) rfl (c199_75 j668  m675) (fun v672 h683 l673 q674 => ?_)
      obtain ⟨j684, f685, b686⟩ := q674
      have m687 := MB.fr m671 f685 (by decide)
      have f688 := Fr.trans f670 f685 (by decide)
      refine x_ifz (k := 1) (tg := 220) (np := 219) (by decide +kernel) (by decide) l673 (fun q689 => ?_) (fun q690 => ?_)
      · have q689 : v672 ≠ 2147483648 := q689
        refine x_aload (np := 221) (x := 0) (by decide +kernel) rfl (x_nc_le (by decide)) ?_
        have q691 : h683 75 21 = 88 := by have z := jB (e := 21) 0 j684 rg_75_21_0_1 (by decide) (by decide); omega
        refine x_getR (np := 224) (x := 725) (f := 21) (q := 88) (by decide +kernel) (by decide) (by decide +kernel) q691 ?_
        refine x_iload (np := 225) (x := 1) (by decide +kernel) rfl la1 ?_
        refine x_iload (np := 227) (x := 5) (by decide +kernel) rfl l12 ?_
        refine x_ast (np := 228) (x := 0) (kd := 1) (n := 20) (i := u2) (by decide +kernel) (Or.inl rfl) (by decide +kernel) (by first | decide | omega) (by first | decide | omega) (by decide) l12 (fun z => absurd z (by decide)) ?_
        have j693 := jU (e := u2) (v := v11) u2 j684 rg_88_0_1_20 (by first | decide | omega) (by first | decide | omega) (by first | decide | omega)
        have f695 := jF (e := u2) (v := v11) u2 f688 rg_88_0_1_20 (by first | decide | omega) (by first | decide | omega) (by decide)
        have m696 := MB.oth (q := 88) (e := u2) (v := v11) m687 (by decide)
        generalize e694 : x_up h683 88 u2 v11 = h692 at j693 f695 m696 ⊢
        refine x_aload (np := 229) (x := 0) (by decide +kernel) rfl (x_nc_le (by decide)) ?_
        have q697 : h692 75 17 = 84 := by have z := jB (e := 17) 0 j693 rg_75_17_0_1 (by decide) (by decide); omega
        refine x_getR (np := 232) (x := 721) (f := 17) (q := 84) (by decide +kernel) (by decide) (by decide +kernel) q697 ?_
        refine x_const (np := 234) (x := 9223372124901605396) (a := 2147483668) (by decide +kernel) (by decide) (by decide) ?_
        refine x_iload (np := 235) (x := 3) (by decide +kernel) rfl l6 ?_
        refine x_imul (np := 236) (x := 0) (i := 20) (j := u15) (v := (2147483648 + 20 * u15)) (by decide +kernel) (by first | decide | omega) (by first | decide | omega) (by first | decide | omega) (by first | decide | omega) (by decide) l6 ?_
        refine x_aload (np := 237) (x := 0) (by decide +kernel) rfl (x_nc_le (by decide)) ?_
        have q699 : h692 75 16 = 83 := by have z := jB (e := 16) 0 j693 rg_75_16_0_1 (by decide) (by decide); omega
        refine x_getR (np := 240) (x := 720) (f := 16) (q := 83) (by decide +kernel) (by decide) (by decide +kernel) q699 ?_
        refine x_iload (np := 241) (x := 3) (by decide +kernel) rfl l6 ?_
        have q700 : h692 83 u15 = h683 83 u15 := by rw [← e694]; exact x_up_k (by decide)
        have q701 : h683 83 u15 = h667 83 u15 := jK u15 f685 rg_83_0_1_6 (by first | decide | omega) (by first | decide | omega) (by decide)
        have q702 : h667 83 u15 = h659 83 u15 := by rw [← e669]; exact x_up_k (by decide)
        have q703 : h659 83 u15 = h501 83 u15 := by rw [← e661]; exact x_up_k (by decide)
        have q704 : h501 83 u15 = h492 83 u15 := by rw [← e503]; exact x_up_k (by decide)
        have q705 : h492 83 u15 = h483 83 u15 := by rw [← e494]; exact x_up_k (by decide)
        have q706 : h483 83 u15 = h471 83 u15 := by rw [← e485]; exact x_up_k (by decide)
        have q707 : h471 83 u15 = h460 83 u15 := by rw [← e473]; exact x_up_k (by decide)
        have q708 : h460 83 u15 = h450 83 u15 := by rw [← e462]; exact x_up_k (by decide)
        have q709 : h450 83 u15 = h 83 u15 := by rw [← e452]; exact x_up_k (by decide)
        have z710 := m696 u15 (by first | decide | omega)
        refine x_aldC (np := 242) (x := 0) (n := 6) (i := u15) (q := (h 83 u15)) (by decide +kernel) (by decide +kernel) (by first | decide | omega) (by first | decide | omega) (by decide) (((((((((q700.trans q701).trans q702).trans q703).trans q704).trans q705).trans q706).trans q707).trans q708).trans q709) (fun l711 => ?_)
        refine x_iadd (np := 243) (x := 0) (v := (20 * u15 + (h 83 u15))) (by decide +kernel) (by first | decide | omega) l19 (by first | decide | omega) (by first | decide | omega) ?_
        refine x_iload (np := 244) (x := 1) (by decide +kernel) rfl la1 ?_
        obtain ⟨u712, q713⟩ : ∃ z, (h 83 u15) = 2147483648 + z := ⟨(h 83 u15) - 2147483648, by first | decide | omega⟩
        refine x_ast (np := 245) (x := 0) (kd := 1) (n := 120) (i := (20 * u15 + u712)) (by decide +kernel) (Or.inl rfl) (by decide +kernel) (by first | decide | omega) (by first | decide | omega) (by decide) la1 (fun z => absurd z (by decide)) ?_
        have j715 := jU (e := (20 * u15 + u712)) (v := a1) (20 * u15 + u712) j693 rg_84_0_1_120 (by first | decide | omega) (by first | decide | omega) (by first | decide | omega)
        have f717 := jF (e := (20 * u15 + u712)) (v := a1) (20 * u15 + u712) f695 rg_84_0_1_120 (by first | decide | omega) (by first | decide | omega) (by decide)
        have m718 := MB.oth (q := 84) (e := (20 * u15 + u712)) (v := a1) m696 (by decide)
        generalize e716 : x_up h692 84 (20 * u15 + u712) a1 = h714 at j715 f717 m718 ⊢
        refine x_aload (np := 246) (x := 0) (by decide +kernel) rfl (x_nc_le (by decide)) ?_
        have q719 : h714 75 16 = 83 := by have z := jB (e := 16) 0 j715 rg_75_16_0_1 (by decide) (by decide); omega
        refine x_getR (np := 249) (x := 720) (f := 16) (q := 83) (by decide +kernel) (by decide) (by decide +kernel) q719 ?_
        refine x_iload (np := 250) (x := 3) (by decide +kernel) rfl l6 ?_
        refine x_dup2 (np := 251) (x := 0) (by decide +kernel) (by have z := (iw_c_lt (a := ((h 76 (20 + 7 * u2)))) l6).1; omega) (by have z := x_nc_le (k := 83) (by decide); unfold x_r; omega) ?_
        have q720 : h714 83 u15 = h692 83 u15 := by rw [← e716]; exact x_up_k (by decide)
        have q721 : h692 83 u15 = h683 83 u15 := by rw [← e694]; exact x_up_k (by decide)
        have q722 : h683 83 u15 = h667 83 u15 := jK u15 f685 rg_83_0_1_6 (by first | decide | omega) (by first | decide | omega) (by decide)
        have q723 : h667 83 u15 = h659 83 u15 := by rw [← e669]; exact x_up_k (by decide)
        have q724 : h659 83 u15 = h501 83 u15 := by rw [← e661]; exact x_up_k (by decide)
        have q725 : h501 83 u15 = h492 83 u15 := by rw [← e503]; exact x_up_k (by decide)
        have q726 : h492 83 u15 = h483 83 u15 := by rw [← e494]; exact x_up_k (by decide)
        have q727 : h483 83 u15 = h471 83 u15 := by rw [← e485]; exact x_up_k (by decide)
        have q728 : h471 83 u15 = h460 83 u15 := by rw [← e473]; exact x_up_k (by decide)
        have q729 : h460 83 u15 = h450 83 u15 := by rw [← e462]; exact x_up_k (by decide)
        have q730 : h450 83 u15 = h 83 u15 := by rw [← e452]; exact x_up_k (by decide)
        have z731 := m718 u15 (by first | decide | omega)
        refine x_aldC (np := 252) (x := 0) (n := 6) (i := u15) (q := (h 83 u15)) (by decide +kernel) (by decide +kernel) (by first | decide | omega) (by first | decide | omega) (by decide) ((((((((((q720.trans q721).trans q722).trans q723).trans q724).trans q725).trans q726).trans q727).trans q728).trans q729).trans q730) (fun l732 => ?_)
        refine x_const (np := 253) (x := 9223372043297226753) (a := 2147483649) (by decide +kernel) (by decide) (by decide) ?_
        refine x_iadd (np := 254) (x := 0) (v := (1 + (h 83 u15))) (by decide +kernel) l19 (by decide) (by first | decide | omega) (by first | decide | omega) ?_
        refine x_ast (np := 255) (x := 0) (kd := 1) (n := 6) (i := u15) (by decide +kernel) (Or.inl rfl) (by decide +kernel) (by first | decide | omega) (by first | decide | omega) (by decide) (by first | decide | omega) (fun z => absurd z (by decide)) ?_
        have j734 := jU (e := u15) (v := (1 + (h 83 u15))) u15 j715 rg_83_0_1_6 (by first | decide | omega) (by first | decide | omega) (by first | decide | omega)
        have f736 := jF (e := u15) (v := (1 + (h 83 u15))) u15 f717 rg_83_0_1_6 (by first | decide | omega) (by first | decide | omega) (by decide)
        have m737 := MB.up (e := u15) (v := (1 + (h 83 u15))) (MB.mono m718 (Nat.le_refl _) (Nat.le_succ _)) (by have z := m718 u15 (by first | decide | omega); omega)
        generalize e735 : x_up h714 83 u15 (1 + (h 83 u15)) = h733 at j734 f736 m737 ⊢
        refine x_retV (np := 256) (x := 0) (by decide +kernel) (by decide +kernel) ⟨rfl, ?_⟩
        exact ⟨j734, f736, m737⟩
      have q690 : ¬ (v672 ≠ 2147483648) := q690
      refine x_retV (np := 220) (x := 0) (by decide +kernel) (by decide +kernel) ⟨rfl, ?_⟩
      exact ⟨j684, f688, (MB.mono m687 (Nat.le_refl _) (Nat.le_succ _))⟩
    have q666 : ¬ (((h 76 (21 + 7 * u2))) ≠ ((h 76 (20 + 7 * u2)))) := q666
    refine x_const (np := 207) (x := 9223372043297226753) (a := 2147483649) (by decide +kernel) (by decide) (by decide) ?_
    refine x_goto (np := 210) (x := 211) (by decide +kernel) ?_
    refine x_ast (np := 212) (x := 0) (kd := 1) (n := 8) (i := 7) (by decide +kernel) (Or.inl rfl) (by decide +kernel) (by first | decide | omega) (by first | decide | omega) (by decide) (by decide) (fun z => absurd z (by decide)) ?_
    have j739 := jU (e := 7) (v := 2147483649) 7 j660 rg_81_0_1_8 (by first | decide | omega) (by first | decide | omega) (by first | decide | omega)
    have f741 := jF (e := 7) (v := 2147483649) 7 f662 rg_81_0_1_8 (by first | decide | omega) (by first | decide | omega) (by decide)
    have m742 := MB.oth (q := 81) (e := 7) (v := 2147483649) m663 (by decide)
    generalize e740 : x_up h659 81 7 2147483649 = h738 at j739 f741 m742 ⊢
    refine x_aload (np := 213) (x := 0) (by decide +kernel) rfl (x_nc_le (by decide)) ?_
    have m753 : WT 76 h450 := by rw [← e452]; exact WT.oth hW hJ (by decide)
    have m752 : WT 76 h460 := by rw [← e462]; exact WT.oth m753 j451 (by decide)
    have m751 : WT 76 h471 := by rw [← e473]; exact WT.oth m752 j461 (by decide)
    have m750 : WT 76 h483 := by rw [← e485]; exact WT.oth m751 j472 (by decide)
    have m749 : WT 76 h492 := by rw [← e494]; exact WT.oth m750 j484 (by decide)
    have m748 : WT 76 h501 := by rw [← e503]; exact WT.oth m749 j493 (by decide)
    have m747 : WT 76 h659 := by rw [← e661]; exact WT.oth m748 j502 (by decide)
    have m746 : WT 76 h738 := by rw [← e740]; exact WT.oth m747 j660 (by decide)
    refine x_cI (t := 6) (mj := 199) (n := 1) (rc := 12) (ml := 2) (nr := 0) (np := 216) (as := [x_r 75]) (rest := []) (lo1 := [x_r 75, 147573952589676412928]) (by decide +kernel) (by decide) (by decide +kernel) (x_rb_of (by decide +kernel)) rfl rfl (x_wr (by decide) x_wn) x_wn (by decide) rfl (c199_75 j739  m746) (fun v743 h754 l744 q745 => ?_)
    obtain ⟨j755, f756, b757⟩ := q745
    have m758 := MB.fr m742 f756 (by decide)
    have f759 := Fr.trans f741 f756 (by decide)
    refine x_ifz (k := 1) (tg := 220) (np := 219) (by decide +kernel) (by decide) l744 (fun q760 => ?_) (fun q761 => ?_)
    · have q760 : v743 ≠ 2147483648 := q760
      refine x_aload (np := 221) (x := 0) (by decide +kernel) rfl (x_nc_le (by decide)) ?_
      have q762 : h754 75 21 = 88 := by have z := jB (e := 21) 0 j755 rg_75_21_0_1 (by decide) (by decide); omega
      refine x_getR (np := 224) (x := 725) (f := 21) (q := 88) (by decide +kernel) (by decide) (by decide +kernel) q762 ?_
      refine x_iload (np := 225) (x := 1) (by decide +kernel) rfl la1 ?_
      refine x_iload (np := 227) (x := 5) (by decide +kernel) rfl l12 ?_
      refine x_ast (np := 228) (x := 0) (kd := 1) (n := 20) (i := u2) (by decide +kernel) (Or.inl rfl) (by decide +kernel) (by first | decide | omega) (by first | decide | omega) (by decide) l12 (fun z => absurd z (by decide)) ?_
      have j764 := jU (e := u2) (v := v11) u2 j755 rg_88_0_1_20 (by first | decide | omega) (by first | decide | omega) (by first | decide | omega)
      have f766 := jF (e := u2) (v := v11) u2 f759 rg_88_0_1_20 (by first | decide | omega) (by first | decide | omega) (by decide)
      have m767 := MB.oth (q := 88) (e := u2) (v := v11) m758 (by decide)
      generalize e765 : x_up h754 88 u2 v11 = h763 at j764 f766 m767 ⊢
      refine x_aload (np := 229) (x := 0) (by decide +kernel) rfl (x_nc_le (by decide)) ?_
      have q768 : h763 75 17 = 84 := by have z := jB (e := 17) 0 j764 rg_75_17_0_1 (by decide) (by decide); omega
      refine x_getR (np := 232) (x := 721) (f := 17) (q := 84) (by decide +kernel) (by decide) (by decide +kernel) q768 ?_
      refine x_const (np := 234) (x := 9223372124901605396) (a := 2147483668) (by decide +kernel) (by decide) (by decide) ?_
      refine x_iload (np := 235) (x := 3) (by decide +kernel) rfl l6 ?_
      refine x_imul (np := 236) (x := 0) (i := 20) (j := u15) (v := (2147483648 + 20 * u15)) (by decide +kernel) (by first | decide | omega) (by first | decide | omega) (by first | decide | omega) (by first | decide | omega) (by decide) l6 ?_
      refine x_aload (np := 237) (x := 0) (by decide +kernel) rfl (x_nc_le (by decide)) ?_
      have q770 : h763 75 16 = 83 := by have z := jB (e := 16) 0 j764 rg_75_16_0_1 (by decide) (by decide); omega
      refine x_getR (np := 240) (x := 720) (f := 16) (q := 83) (by decide +kernel) (by decide) (by decide +kernel) q770 ?_
      refine x_iload (np := 241) (x := 3) (by decide +kernel) rfl l6 ?_
      have q771 : h763 83 u15 = h754 83 u15 := by rw [← e765]; exact x_up_k (by decide)
      have q772 : h754 83 u15 = h738 83 u15 := jK u15 f756 rg_83_0_1_6 (by first | decide | omega) (by first | decide | omega) (by decide)
      have q773 : h738 83 u15 = h659 83 u15 := by rw [← e740]; exact x_up_k (by decide)
      have q774 : h659 83 u15 = h501 83 u15 := by rw [← e661]; exact x_up_k (by decide)
      have q775 : h501 83 u15 = h492 83 u15 := by rw [← e503]; exact x_up_k (by decide)
      have q776 : h492 83 u15 = h483 83 u15 := by rw [← e494]; exact x_up_k (by decide)
      have q777 : h483 83 u15 = h471 83 u15 := by rw [← e485]; exact x_up_k (by decide)
      have q778 : h471 83 u15 = h460 83 u15 := by rw [← e473]; exact x_up_k (by decide)
      have q779 : h460 83 u15 = h450 83 u15 := by rw [← e462]; exact x_up_k (by decide)
      have q780 : h450 83 u15 = h 83 u15 := by rw [← e452]; exact x_up_k (by decide)
      have z781 := m767 u15 (by first | decide | omega)
      refine x_aldC (np := 242) (x := 0) (n := 6) (i := u15) (q := (h 83 u15)) (by decide +kernel) (by decide +kernel) (by first | decide | omega) (by first | decide | omega) (by decide) (((((((((q771.trans q772).trans q773).trans q774).trans q775).trans q776).trans q777).trans q778).trans q779).trans q780) (fun l782 => ?_)
      refine x_iadd (np := 243) (x := 0) (v := (20 * u15 + (h 83 u15))) (by decide +kernel) (by first | decide | omega) l19 (by first | decide | omega) (by first | decide | omega) ?_
      refine x_iload (np := 244) (x := 1) (by decide +kernel) rfl la1 ?_
      obtain ⟨u783, q784⟩ : ∃ z, (h 83 u15) = 2147483648 + z := ⟨(h 83 u15) - 2147483648, by first | decide | omega⟩
      refine x_ast (np := 245) (x := 0) (kd := 1) (n := 120) (i := (20 * u15 + u783)) (by decide +kernel) (Or.inl rfl) (by decide +kernel) (by first | decide | omega) (by first | decide | omega) (by decide) la1 (fun z => absurd z (by decide)) ?_
      have j786 := jU (e := (20 * u15 + u783)) (v := a1) (20 * u15 + u783) j764 rg_84_0_1_120 (by first | decide | omega) (by first | decide | omega) (by first | decide | omega)
      have f788 := jF (e := (20 * u15 + u783)) (v := a1) (20 * u15 + u783) f766 rg_84_0_1_120 (by first | decide | omega) (by first | decide | omega) (by decide)
      have m789 := MB.oth (q := 84) (e := (20 * u15 + u783)) (v := a1) m767 (by decide)
      generalize e787 : x_up h763 84 (20 * u15 + u783) a1 = h785 at j786 f788 m789 ⊢
      refine x_aload (np := 246) (x := 0) (by decide +kernel) rfl (x_nc_le (by decide)) ?_
      have q790 : h785 75 16 = 83 := by have z := jB (e := 16) 0 j786 rg_75_16_0_1 (by decide) (by decide); omega
      refine x_getR (np := 249) (x := 720) (f := 16) (q := 83) (by decide +kernel) (by decide) (by decide +kernel) q790 ?_
      refine x_iload (np := 250) (x := 3) (by decide +kernel) rfl l6 ?_
      refine x_dup2 (np := 251) (x := 0) (by decide +kernel) (by have z := (iw_c_lt (a := ((h 76 (20 + 7 * u2)))) l6).1; omega) (by have z := x_nc_le (k := 83) (by decide); unfold x_r; omega) ?_
      have q791 : h785 83 u15 = h763 83 u15 := by rw [← e787]; exact x_up_k (by decide)
      have q792 : h763 83 u15 = h754 83 u15 := by rw [← e765]; exact x_up_k (by decide)
      have q793 : h754 83 u15 = h738 83 u15 := jK u15 f756 rg_83_0_1_6 (by first | decide | omega) (by first | decide | omega) (by decide)
      have q794 : h738 83 u15 = h659 83 u15 := by rw [← e740]; exact x_up_k (by decide)
      have q795 : h659 83 u15 = h501 83 u15 := by rw [← e661]; exact x_up_k (by decide)
      have q796 : h501 83 u15 = h492 83 u15 := by rw [← e503]; exact x_up_k (by decide)
      have q797 : h492 83 u15 = h483 83 u15 := by rw [← e494]; exact x_up_k (by decide)
      have q798 : h483 83 u15 = h471 83 u15 := by rw [← e485]; exact x_up_k (by decide)
      have q799 : h471 83 u15 = h460 83 u15 := by rw [← e473]; exact x_up_k (by decide)
      have q800 : h460 83 u15 = h450 83 u15 := by rw [← e462]; exact x_up_k (by decide)
      have q801 : h450 83 u15 = h 83 u15 := by rw [← e452]; exact x_up_k (by decide)
      have z802 := m789 u15 (by first | decide | omega)
      refine x_aldC (np := 252) (x := 0) (n := 6) (i := u15) (q := (h 83 u15)) (by decide +kernel) (by decide +kernel) (by first | decide | omega) (by first | decide | omega) (by decide) ((((((((((q791.trans q792).trans q793).trans q794).trans q795).trans q796).trans q797).trans q798).trans q799).trans q800).trans q801) (fun l803 => ?_)
      refine x_const (np := 253) (x := 9223372043297226753) (a := 2147483649) (by decide +kernel) (by decide) (by decide) ?_
      refine x_iadd (np := 254) (x := 0) (v := (1 + (h 83 u15))) (by decide +kernel) l19 (by decide) (by first | decide | omega) (by first | decide | omega) ?_
      refine x_ast (np := 255) (x := 0) (kd := 1) (n := 6) (i := u15) (by decide +kernel) (Or.inl rfl) (by decide +kernel) (by first | decide | omega) (by first | decide | omega) (by decide) (by first | decide | omega) (fun z => absurd z (by decide)) ?_
      have j805 := jU (e := u15) (v := (1 + (h 83 u15))) u15 j786 rg_83_0_1_6 (by first | decide | omega) (by first | decide | omega) (by first | decide | omega)
      have f807 := jF (e := u15) (v := (1 + (h 83 u15))) u15 f788 rg_83_0_1_6 (by first | decide | omega) (by first | decide | omega) (by decide)
      have m808 := MB.up (e := u15) (v := (1 + (h 83 u15))) (MB.mono m789 (Nat.le_refl _) (Nat.le_succ _)) (by have z := m789 u15 (by first | decide | omega); omega)
      generalize e806 : x_up h785 83 u15 (1 + (h 83 u15)) = h804 at j805 f807 m808 ⊢
      refine x_retV (np := 256) (x := 0) (by decide +kernel) (by decide +kernel) ⟨rfl, ?_⟩
      exact ⟨j805, f807, m808⟩
    have q761 : ¬ (v743 ≠ 2147483648) := q761
    refine x_retV (np := 220) (x := 0) (by decide +kernel) (by decide +kernel) ⟨rfl, ?_⟩
    exact ⟨j755, f759, (MB.mono m758 (Nat.le_refl _) (Nat.le_succ _))⟩
  have q448 : ¬ (v444 ≠ 2147483648) := q448
  refine x_retV (np := 107) (x := 0) (by decide +kernel) (by decide +kernel) ⟨rfl, ?_⟩
  exact ⟨hJ, hF, (MB.mono hM (Nat.le_refl _) (Nat.le_succ _))⟩
