/-! ===== methods ===== -/
set_option maxHeartbeats 0 in
/-- LentNames$Search.come(I)V -/
theorem c274_63_c1 {sc : Nat × Nat} {d  : Nat} {h : xh} (hJ : J h) : X sc 274 (d + 19) (xV fun h' => J h' ∧ Fr 32769 h h') 0 0 0 [x_r 63, iv_c 2147483649] [] h := by
  have hF := Fr.refl 32769 h
  refine x_aload (np := 1) (x := 0) (by decide +kernel) rfl (x_nc_le (by decide)) ?_
  refine x_dup (np := 2) (x := 0) (by decide +kernel) (by have z := x_nc_le (k := 63) (by decide); unfold x_r; omega) ?_
  refine x_getC (np := 5) (x := 785) (f := 17) (q := (h 63 17)) (by decide +kernel) (by decide) (by decide +kernel) rfl (fun l1 => ?_)
  refine x_const (np := 6) (x := 9223372043297226753) (a := 2147483649) (by decide +kernel) (by decide) (by decide) ?_
  refine x_addA (by rw [tb_b274]; decide +kernel) l1 (by decide) (fun v2 l3 => ?_)
  refine x_putI (np := 10) (x := 785) (f := 17) (by decide +kernel) (by decide +kernel) l3 (Or.inl (by decide)) ?_
  have j5 := jU (e := 17) (v := v2) 0 hJ rg_63_17_0_1 (by first | decide | omega) (by first | decide | omega) (by first | decide | omega)
  have f7 := jF (e := 17) (v := v2) 0 hF rg_63_17_0_1 (by first | decide | omega) (by first | decide | omega) (by decide)
  generalize e6 : x_up h 63 17 v2 = h4 at j5 f7 ⊢
  refine x_aload (np := 11) (x := 0) (by decide +kernel) rfl (x_nc_le (by decide)) ?_
  have q8 : h4 63 17 = v2 := by rw [← e6]; exact x_up_at
  refine x_getC (np := 14) (x := 785) (f := 17) (q := v2) (by decide +kernel) (by decide) (by decide +kernel) q8 (fun l9 => ?_)
  refine x_const (np := 17) (x := 9223457938348199456) (a := 2147503648) (by decide +kernel) (by decide) (by decide) ?_
  refine x_icmp (k := 5) (tg := 28) (np := 20) (by decide +kernel) (by decide) l3 (by decide) (fun q10 => ?_) (fun q11 => ?_)
  · have q10 : v2 ≤ 2147503648 := q10
    refine x_aload (np := 29) (x := 0) (by decide +kernel) rfl (x_nc_le (by decide)) ?_
    refine x_vI (P := fun r9 h9 => X sc 274 _ _ 0 0 32 [x_r 63, iv_c 2147483649] (iv_c r9 :: []) h9) (np := 32) (x := 5246979) (kk := 3) (cls := 4) (mj := 56) (ml := 1) (nr := 0) (rest := []) (lo1 := [x_r 63]) (by decide +kernel) (by decide) (by decide) (by decide) (by decide +kernel) (by decide +kernel) (by decide) (by decide +kernel) (by decide +kernel) x_wn (by decide) rfl ?_ (fun _ _ _ z => z)
    refine x_aload (np := 1) (x := 0) (by decide +kernel) rfl (x_nc_le (by decide)) ?_
    refine x_cI (t := 6) (mj := 57) (n := 1) (rc := 5) (ml := 5) (nr := 0) (np := 4) (as := [x_r 63]) (rest := []) (lo1 := [x_r 63, 147573952589676412928, 147573952589676412928, 147573952589676412928, 147573952589676412928]) (by decide +kernel) (by decide) (by decide +kernel) (x_rb_of (by decide +kernel)) rfl rfl (x_wr (by decide) x_wn) x_wn (by decide) rfl (c57_63 j5 ) (fun v12 h15 l13 q14 => ?_)
    obtain ⟨j16, f17, b18⟩ := q14
    have f19 := Fr.trans f7 f17 (by decide)
    refine x_ifz (k := 1) (tg := 14) (np := 7) (by decide +kernel) (by decide) l13 (fun q20 => ?_) (fun q21 => ?_)
    · have q20 : v12 ≠ 2147483648 := q20
      refine x_const (np := 15) (x := 9223372043297226753) (a := 2147483649) (by decide +kernel) (by decide) (by decide) ?_
      refine x_goto (np := 18) (x := 19) (by decide +kernel) ?_
      refine x_retI (np := 20) (x := 0) (by decide +kernel) (by decide) (Or.inr ⟨by decide +kernel, by first | decide | omega, by first | decide | omega⟩) ⟨_, rfl, (by decide), ?_⟩
      refine x_ifz (k := 1) (tg := 43) (np := 35) (by decide +kernel) (by decide) (by decide) (fun q22 => ?_) (fun q23 => ?_)
      · have q22 : 2147483649 ≠ 2147483648 := q22
        refine x_iload (np := 44) (x := 1) (by decide +kernel) rfl (by decide) ?_
        refine x_aload (np := 45) (x := 0) (by decide +kernel) rfl (x_nc_le (by decide)) ?_
        refine x_getC (np := 48) (x := 784) (f := 16) (q := (h15 63 16)) (by decide +kernel) (by decide) (by decide +kernel) rfl (fun l24 => ?_)
        refine x_icmp (k := 3) (tg := 61) (np := 51) (by decide +kernel) (by decide) (by decide) l24 (fun q25 => ?_) (fun q26 => ?_)
        · have q25 : (h15 63 16) ≤ 2147483649 := q25
          refine x_retV (np := 62) (x := 0) (by decide +kernel) (by decide +kernel) ⟨rfl, ?_⟩
          exact ⟨j16, f19⟩
        have q26 : ¬ ((h15 63 16) ≤ 2147483649) := q26
        refine x_iload (np := 52) (x := 1) (by decide +kernel) rfl (by decide) ?_
        refine x_const (np := 53) (x := 9223372060477095941) (a := 2147483653) (by decide +kernel) (by decide) (by decide) ?_
        refine x_icmp (k := 3) (tg := 61) (np := 56) (by decide +kernel) (by decide) (by decide) (by decide) (fun q27 => ?_) (fun q28 => ?_)
        · have q27 : 2147483653 ≤ 2147483649 := q27
          exfalso; omega
        have q28 : ¬ (2147483653 ≤ 2147483649) := q28
        refine x_aload (np := 57) (x := 0) (by decide +kernel) rfl (x_nc_le (by decide)) ?_
        refine x_iload (np := 58) (x := 1) (by decide +kernel) rfl (by decide) ?_
        refine x_cV (t := 8) (mj := 275) (n := 2) (rc := 13) (ml := 8) (nr := 0) (np := 61) (as := [x_r 63, iv_c 2147483649]) (rest := []) (lo1 := [x_r 63, iv_c 2147483649, 147573952589676412928, 147573952589676412928, 147573952589676412928, 147573952589676412928, 147573952589676412928, 147573952589676412928]) (by decide +kernel) (by decide) (by decide +kernel) (x_rb_of (by decide +kernel)) rfl rfl (x_wr (by decide) (x_wi (by decide) x_wn)) x_wn (by decide) rfl (c275_63_c1 j16  ) (fun h32 q31 => ?_)
        obtain ⟨j33, f34⟩ := q31
        have f37 := Fr.trans f19 f34 (by decide)
        refine x_retV (np := 62) (x := 0) (by decide +kernel) (by decide +kernel) ⟨rfl, ?_⟩
        exact ⟨j33, f37⟩
      have q23 : ¬ (2147483649 ≠ 2147483648) := q23
      exfalso; omega
    have q21 : ¬ (v12 ≠ 2147483648) := q21
    refine x_aload (np := 8) (x := 0) (by decide +kernel) rfl (x_nc_le (by decide)) ?_
    refine x_cI (t := 6) (mj := 58) (n := 1) (rc := 5) (ml := 4) (nr := 0) (np := 11) (as := [x_r 63]) (rest := []) (lo1 := [x_r 63, 147573952589676412928, 147573952589676412928, 147573952589676412928]) (by decide +kernel) (by decide) (by decide +kernel) (x_rb_of (by decide +kernel)) rfl rfl (x_wr (by decide) x_wn) x_wn (by decide) rfl (c58_63 j16 ) (fun v38 h41 l39 q40 => ?_)
    obtain ⟨j42, f43, b44⟩ := q40
    have f45 := Fr.trans f19 f43 (by decide)
    refine x_ifz (k := 0) (tg := 18) (np := 14) (by decide +kernel) (by decide) l39 (fun q46 => ?_) (fun q47 => ?_)
    · have q46 : v38 = 2147483648 := q46
      refine x_const (np := 19) (x := 9223372039002259456) (a := 2147483648) (by decide +kernel) (by decide) (by decide) ?_
      refine x_retI (np := 20) (x := 0) (by decide +kernel) (by decide) (Or.inr ⟨by decide +kernel, by first | decide | omega, by first | decide | omega⟩) ⟨_, rfl, (by decide), ?_⟩
      refine x_ifz (k := 1) (tg := 43) (np := 35) (by decide +kernel) (by decide) (by decide) (fun q48 => ?_) (fun q49 => ?_)
      · have q48 : 2147483648 ≠ 2147483648 := q48
        exfalso; omega
      have q49 : ¬ (2147483648 ≠ 2147483648) := q49
      refine x_aload (np := 36) (x := 0) (by decide +kernel) rfl (x_nc_le (by decide)) ?_
      refine x_iload (np := 37) (x := 1) (by decide +kernel) rfl (by decide) ?_
      refine x_cV (t := 8) (mj := 279) (n := 2) (rc := 13) (ml := 4) (nr := 0) (np := 40) (as := [x_r 63, iv_c 2147483649]) (rest := []) (lo1 := [x_r 63, iv_c 2147483649, 147573952589676412928, 147573952589676412928]) (by decide +kernel) (by decide) (by decide +kernel) (x_rb_of (by decide +kernel)) rfl rfl (x_wr (by decide) (x_wi (by decide) x_wn)) x_wn (by decide) rfl (c279_63_c1 j42  ) (fun h53 q52 => ?_)
      obtain ⟨j54, f55⟩ := q52
      have f58 := Fr.trans f45 f55 (by decide)
      refine x_goto (np := 43) (x := 61) (by decide +kernel) ?_
      refine x_retV (np := 62) (x := 0) (by decide +kernel) (by decide +kernel) ⟨rfl, ?_⟩
      exact ⟨j54, f58⟩
    have q47 : ¬ (v38 = 2147483648) := q47
    refine x_const (np := 15) (x := 9223372043297226753) (a := 2147483649) (by decide +kernel) (by decide) (by decide) ?_
    refine x_goto (np := 18) (x := 19) (by decide +kernel) ?_
    refine x_retI (np := 20) (x := 0) (by decide +kernel) (by decide) (Or.inr ⟨by decide +kernel, by first | decide | omega, by first | decide | omega⟩) ⟨_, rfl, (by decide), ?_⟩
    refine x_ifz (k := 1) (tg := 43) (np := 35) (by decide +kernel) (by decide) (by decide) (fun q59 => ?_) (fun q60 => ?_)
    · have q59 : 2147483649 ≠ 2147483648 := q59
      refine x_iload (np := 44) (x := 1) (by decide +kernel) rfl (by decide) ?_
      refine x_aload (np := 45) (x := 0) (by decide +kernel) rfl (x_nc_le (by decide)) ?_
      refine x_getC (np := 48) (x := 784) (f := 16) (q := (h41 63 16)) (by decide +kernel) (by decide) (by decide +kernel) rfl (fun l61 => ?_)
      refine x_icmp (k := 3) (tg := 61) (np := 51) (by decide +kernel) (by decide) (by decide) l61 (fun q62 => ?_) (fun q63 => ?_)
      · have q62 : (h41 63 16) ≤ 2147483649 := q62
        refine x_retV (np := 62) (x := 0) (by decide +kernel) (by decide +kernel) ⟨rfl, ?_⟩
        exact ⟨j42, f45⟩
      have q63 : ¬ ((h41 63 16) ≤ 2147483649) := q63
      refine x_iload (np := 52) (x := 1) (by decide +kernel) rfl (by decide) ?_
      refine x_const (np := 53) (x := 9223372060477095941) (a := 2147483653) (by decide +kernel) (by decide) (by decide) ?_
      refine x_icmp (k := 3) (tg := 61) (np := 56) (by decide +kernel) (by decide) (by decide) (by decide) (fun q64 => ?_) (fun q65 => ?_)
      · have q64 : 2147483653 ≤ 2147483649 := q64
        exfalso; omega
      have q65 : ¬ (2147483653 ≤ 2147483649) := q65
      refine x_aload (np := 57) (x := 0) (by decide +kernel) rfl (x_nc_le (by decide)) ?_
      refine x_iload (np := 58) (x := 1) (by decide +kernel) rfl (by decide) ?_
      refine x_cV (t := 8) (mj := 275) (n := 2) (rc := 13) (ml := 8) (nr := 0) (np := 61) (as := [x_r 63, iv_c 2147483649]) (rest := []) (lo1 := [x_r 63, iv_c 2147483649, 147573952589676412928, 147573952589676412928, 147573952589676412928, 147573952589676412928, 147573952589676412928, 147573952589676412928]) (by decide +kernel) (by decide) (by decide +kernel) (x_rb_of (by decide +kernel)) rfl rfl (x_wr (by decide) (x_wi (by decide) x_wn)) x_wn (by decide) rfl (c275_63_c1 j42  ) (fun h69 q68 => ?_)
      obtain ⟨j70, f71⟩ := q68
      have f74 := Fr.trans f45 f71 (by decide)
      refine x_retV (np := 62) (x := 0) (by decide +kernel) (by decide +kernel) ⟨rfl, ?_⟩
      exact ⟨j70, f74⟩
    have q60 : ¬ (2147483649 ≠ 2147483648) := q60
    exfalso; omega
  have q11 : ¬ (v2 ≤ 2147503648) := q11
  refine x_aload (np := 21) (x := 0) (by decide +kernel) rfl (x_nc_le (by decide)) ?_
  refine x_const (np := 22) (x := 9223372043297226753) (a := 2147483649) (by decide +kernel) (by decide) (by decide) ?_
  refine x_putI (np := 25) (x := 4873) (f := 9) (by decide +kernel) (by decide +kernel) (by decide) (Or.inr ⟨by decide, by first | decide | omega, by first | decide | omega⟩) ?_
  have j76 := jU (e := 9) (v := 2147483649) 0 j5 rg_63_9_0_1 (by first | decide | omega) (by first | decide | omega) (by first | decide | omega)
  have f78 := jF (e := 9) (v := 2147483649) 0 f7 rg_63_9_0_1 (by first | decide | omega) (by first | decide | omega) (by decide)
  generalize e77 : x_up h4 63 9 2147483649 = h75 at j76 f78 ⊢
  refine x_goto (np := 28) (x := 61) (by decide +kernel) ?_
  refine x_retV (np := 62) (x := 0) (by decide +kernel) (by decide +kernel) ⟨rfl, ?_⟩
  exact ⟨j76, f78⟩
set_option maxHeartbeats 0 in
/-- LentNames$Search.tryLoan(IIIII)V -/
theorem c277_63_c0 {sc : Nat × Nat} {d a2 a3 a4 a5 : Nat} {h : xh} (hJ : J h) (ba2 : 2147483648 ≤ a2 ∧ a2 ≤ 2147483653) (ba3 : 2147483648 ≤ a3 ∧ a3 ≤ 2147483653) (ba4 : 2147483648 ≤ a4 ∧ a4 ≤ 2147483659) (ba5 : 2147483648 ≤ a5 ∧ a5 ≤ 2147483659) : X sc 277 (d + 20) (xV fun h' => J h' ∧ Fr 32769 h h') 0 0 0 [x_r 63, iv_c 2147483648, iv_c a2, iv_c a3, iv_c a4, iv_c a5, 147573952589676412928] [] h := by
  have la2 : a2 < 4294967296 := by first | decide | omega
  have la3 : a3 < 4294967296 := by first | decide | omega
  have la4 : a4 < 4294967296 := by first | decide | omega
  have la5 : a5 < 4294967296 := by first | decide | omega
  have hF := Fr.refl 32769 h
  refine x_const (np := 1) (x := 9223372043297226753) (a := 2147483649) (by decide +kernel) (by decide) (by decide) ?_
  refine x_iload (np := 3) (x := 5) (by decide +kernel) rfl la5 ?_
  refine x_const (np := 4) (x := 9223372043297226753) (a := 2147483649) (by decide +kernel) (by decide) (by decide) ?_
  refine x_iadd (np := 5) (x := 0) (v := (1 + a5)) (by decide +kernel) la5 (by decide) (by first | decide | omega) (by first | decide | omega) ?_
  refine x_any (np := 6) (k9 := 3) (by decide +kernel) (by decide) (by decide) (by first | decide | omega) (fun v1 l2 => ?_)
  refine x_const (np := 7) (x := 9223372043297226753) (a := 2147483649) (by decide +kernel) (by decide) (by decide) ?_
  refine x_iload (np := 9) (x := 4) (by decide +kernel) rfl la4 ?_
  refine x_any (np := 10) (k9 := 3) (by decide +kernel) (by decide) (by decide) la4 (fun v3 l4 => ?_)
  refine x_subA (by rw [tb_b277]; decide +kernel) l2 l4 (fun v5 l6 => ?_)
  refine x_istore (np := 13) (x := 6) (lo' := [x_r 63, iv_c 2147483648, iv_c a2, iv_c a3, iv_c a4, iv_c a5, iv_c v5]) (by decide +kernel) l6 (Nat.le_of_ble_eq_true rfl) rfl ?_
  refine x_aload (np := 14) (x := 0) (by decide +kernel) rfl (x_nc_le (by decide)) ?_
  have q7 : h 63 3 = 67 := by have z := jB (e := 3) 0 hJ rg_63_3_0_1 (by decide) (by decide); omega
  refine x_getR (np := 17) (x := 771) (f := 3) (q := 67) (by decide +kernel) (by decide) (by decide +kernel) q7 ?_
  refine x_iload (np := 18) (x := 1) (by decide +kernel) rfl (by decide) ?_
  refine x_const (np := 21) (x := 9223414988675229456) (a := 2147493648) (by decide +kernel) (by decide) (by decide) ?_
  refine x_iload (np := 22) (x := 2) (by decide +kernel) rfl la2 ?_
  obtain ⟨u8, q9⟩ : ∃ z, a2 = 2147483648 + z := ⟨a2 - 2147483648, by first | decide | omega⟩
  refine x_imul (np := 23) (x := 0) (i := 10000) (j := u8) (v := (2147483648 + 10000 * u8)) (by decide +kernel) (by first | decide | omega) (by first | decide | omega) (by first | decide | omega) (by first | decide | omega) (by decide) la2 ?_
  refine x_const (np := 26) (x := 9223376333969556456) (a := 2147484648) (by decide +kernel) (by decide) (by decide) ?_
  refine x_iload (np := 27) (x := 3) (by decide +kernel) rfl la3 ?_
  obtain ⟨u11, q12⟩ : ∃ z, a3 = 2147483648 + z := ⟨a3 - 2147483648, by first | decide | omega⟩
  refine x_imul (np := 28) (x := 0) (i := 1000) (j := u11) (v := (2147483648 + 1000 * u11)) (by decide +kernel) (by first | decide | omega) (by first | decide | omega) (by first | decide | omega) (by first | decide | omega) (by decide) la3 ?_
  refine x_iadd (np := 29) (x := 0) (v := (2147483648 + 10000 * u8 + 1000 * u11)) (by decide +kernel) (by first | decide | omega) (by first | decide | omega) (by first | decide | omega) (by first | decide | omega) ?_
  refine x_const (np := 31) (x := 9223372124901605396) (a := 2147483668) (by decide +kernel) (by decide) (by decide) ?_
  refine x_iload (np := 33) (x := 4) (by decide +kernel) rfl la4 ?_
  obtain ⟨u14, q15⟩ : ∃ z, a4 = 2147483648 + z := ⟨a4 - 2147483648, by first | decide | omega⟩
  refine x_imul (np := 34) (x := 0) (i := 20) (j := u14) (v := (2147483648 + 20 * u14)) (by decide +kernel) (by first | decide | omega) (by first | decide | omega) (by first | decide | omega) (by first | decide | omega) (by decide) la4 ?_
  refine x_iadd (np := 35) (x := 0) (v := (2147483648 + 10000 * u8 + 1000 * u11 + 20 * u14)) (by decide +kernel) (by first | decide | omega) (by first | decide | omega) (by first | decide | omega) (by first | decide | omega) ?_
  refine x_iload (np := 37) (x := 5) (by decide +kernel) rfl la5 ?_
  refine x_iadd (np := 38) (x := 0) (v := (10000 * u8 + 1000 * u11 + 20 * u14 + a5)) (by decide +kernel) (by first | decide | omega) la5 (by first | decide | omega) (by first | decide | omega) ?_
  refine x_ast (np := 39) (x := 0) (kd := 1) (n := 5) (i := 0) (by decide +kernel) (Or.inl rfl) (by decide +kernel) (by first | decide | omega) (by first | decide | omega) (by decide) (by first | decide | omega) (fun z => absurd z (by decide)) ?_
  have j18 := jU (e := 0) (v := (10000 * u8 + 1000 * u11 + 20 * u14 + a5)) 0 hJ rg_67_0_1_5 (by first | decide | omega) (by first | decide | omega) (by first | decide | omega)
  have f20 := jF (e := 0) (v := (10000 * u8 + 1000 * u11 + 20 * u14 + a5)) 0 hF rg_67_0_1_5 (by first | decide | omega) (by first | decide | omega) (by decide)
  generalize e19 : x_up h 67 0 (10000 * u8 + 1000 * u11 + 20 * u14 + a5) = h17 at j18 f20 ⊢
  refine x_aload (np := 40) (x := 0) (by decide +kernel) rfl (x_nc_le (by decide)) ?_
  refine x_iload (np := 41) (x := 2) (by decide +kernel) rfl la2 ?_
  refine x_iload (np := 42) (x := 3) (by decide +kernel) rfl la3 ?_
  refine x_iload (np := 44) (x := 6) (by decide +kernel) rfl l6 ?_
  refine x_cV (t := 8) (mj := 280) (n := 4) (rc := 13) (ml := 5) (nr := 0) (np := 47) (as := [x_r 63, iv_c a2, iv_c a3, iv_c v5]) (rest := []) (lo1 := [x_r 63, iv_c a2, iv_c a3, iv_c v5, 147573952589676412928]) (by decide +kernel) (by decide) (by decide +kernel) (x_rb_of (by decide +kernel)) rfl rfl (x_wr (by decide) (x_wi la2 (x_wi la3 (x_wi l6 x_wn)))) x_wn (by decide) rfl (c280_63 j18  (by first | decide | omega) (by first | decide | omega) (by first | decide | omega)) (fun h24 q23 => ?_)
  obtain ⟨j25, f26⟩ := q23
  have f29 := Fr.trans f20 f26 (by decide)
  refine x_aload (np := 48) (x := 0) (by decide +kernel) rfl (x_nc_le (by decide)) ?_
  refine x_iload (np := 49) (x := 1) (by decide +kernel) rfl (by decide) ?_
  refine x_const (np := 50) (x := 9223372043297226753) (a := 2147483649) (by decide +kernel) (by decide) (by decide) ?_
  refine x_iadd (np := 51) (x := 0) (v := 2147483649) (by decide +kernel) (by decide) (by decide) (by first | decide | omega) (by first | decide | omega) ?_
  refine x_cV (t := 8) (mj := 274) (n := 2) (rc := 13) (ml := 2) (nr := 0) (np := 54) (as := [x_r 63, iv_c 2147483649]) (rest := []) (lo1 := [x_r 63, iv_c 2147483649]) (by decide +kernel) (by decide) (by decide +kernel) (x_rb_of (by decide +kernel)) rfl rfl (x_wr (by decide) (x_wi (by decide) x_wn)) x_wn (by decide) rfl (c274_63_c1 j25  ) (fun h33 q32 => ?_)
  obtain ⟨j34, f35⟩ := q32
  have f38 := Fr.trans f29 f35 (by decide)
  refine x_aload (np := 55) (x := 0) (by decide +kernel) rfl (x_nc_le (by decide)) ?_
  refine x_iload (np := 56) (x := 2) (by decide +kernel) rfl la2 ?_
  refine x_iload (np := 58) (x := 6) (by decide +kernel) rfl l6 ?_
  refine x_cV (t := 8) (mj := 281) (n := 3) (rc := 13) (ml := 5) (nr := 0) (np := 61) (as := [x_r 63, iv_c a2, iv_c v5]) (rest := []) (lo1 := [x_r 63, iv_c a2, iv_c v5, 147573952589676412928, 147573952589676412928]) (by decide +kernel) (by decide) (by decide +kernel) (x_rb_of (by decide +kernel)) rfl rfl (x_wr (by decide) (x_wi la2 (x_wi l6 x_wn))) x_wn (by decide) rfl (c281_63 j34  (by first | decide | omega) (by first | decide | omega)) (fun h42 q41 => ?_)
  obtain ⟨j43, f44⟩ := q41
  have f47 := Fr.trans f38 f44 (by decide)
  refine x_retV (np := 62) (x := 0) (by decide +kernel) (by decide +kernel) ⟨rfl, ?_⟩
  exact ⟨j43, f47⟩
set_option maxHeartbeats 0 in
/-- LentNames$Search.tryLoans(IIIII)V -/
theorem c276_63_c0 {sc : Nat × Nat} {d a2 a3 a4 a5 : Nat} {h : xh} (hJ : J h) (ba2 : 2147483648 ≤ a2 ∧ a2 ≤ 2147483653) (ba3 : 2147483648 ≤ a3 ∧ a3 ≤ 2147483653) (ba4 : 0 ≤ a4 ∧ a4 ≤ 4294967295) (ba5 : 0 ≤ a5 ∧ a5 ≤ 4294967295) : X sc 276 (d + 21) (xV fun h' => J h' ∧ Fr 32769 h h') 0 0 0 [x_r 63, iv_c 2147483648, iv_c a2, iv_c a3, iv_c a4, iv_c a5, 147573952589676412928, 147573952589676412928, 147573952589676412928, 147573952589676412928] [] h := by
  have la2 : a2 < 4294967296 := by first | decide | omega
  have la3 : a3 < 4294967296 := by first | decide | omega
  have la4 : a4 < 4294967296 := by first | decide | omega
  have la5 : a5 < 4294967296 := by first | decide | omega
  have hF := Fr.refl 32769 h
  refine x_aload (np := 1) (x := 0) (by decide +kernel) rfl (x_nc_le (by decide)) ?_
  have q1 : h 63 5 = 45 := by have z := jB (e := 5) 0 hJ rg_63_5_0_1 (by decide) (by decide); omega
  refine x_getR (np := 4) (x := 773) (f := 5) (q := 45) (by decide +kernel) (by decide) (by decide +kernel) q1 ?_
  have q2 : h 45 0 = 46 := by have z := jB (e := 0) 0 hJ rg_45_0_0_1 (by decide) (by decide); omega
  refine x_getR (np := 7) (x := 64) (f := 0) (q := 46) (by decide +kernel) (by decide) (by decide +kernel) q2 ?_
  refine x_iload (np := 8) (x := 3) (by decide +kernel) rfl la3 ?_
  obtain ⟨u3, q4⟩ : ∃ z, a3 = 2147483648 + z := ⟨a3 - 2147483648, by first | decide | omega⟩
  refine x_aldC (np := 9) (x := 0) (n := 6) (i := u3) (q := (h 46 u3)) (by decide +kernel) (by decide +kernel) (by first | decide | omega) (by first | decide | omega) (by decide) rfl (fun l5 => ?_)
  refine x_aload (np := 10) (x := 0) (by decide +kernel) rfl (x_nc_le (by decide)) ?_
  have q6 : h 63 5 = 45 := by have z := jB (e := 5) 0 hJ rg_63_5_0_1 (by decide) (by decide); omega
  refine x_getR (np := 13) (x := 773) (f := 5) (q := 45) (by decide +kernel) (by decide) (by decide +kernel) q6 ?_
  have q7 : h 45 1 = 47 := by have z := jB (e := 1) 0 hJ rg_45_1_0_1 (by decide) (by decide); omega
  refine x_getR (np := 16) (x := 65) (f := 1) (q := 47) (by decide +kernel) (by decide) (by decide +kernel) q7 ?_
  refine x_iload (np := 17) (x := 2) (by decide +kernel) rfl la2 ?_
  refine x_iload (np := 18) (x := 3) (by decide +kernel) rfl la3 ?_
  refine x_nI (t := 7) (mj := 149) (n := 2) (rc := 0) (ml := 2) (nr := 2) (np := 21) (as := [iv_c a2, iv_c a3]) (rest := [x_r 47, iv_c (h 46 u3)]) (lo1 := [iv_c a2, iv_c a3]) (by decide +kernel) (by decide) (by decide +kernel) (Or.inl rfl) rfl rfl (x_wi la2 (x_wi la3 x_wn)) (x_wr (by decide) (x_wi l5 x_wn)) (by decide) rfl ?_
  refine x_iload (np := 1) (x := 0) (by decide +kernel) rfl la2 ?_
  refine x_const (np := 3) (x := 9223372064772063238) (a := 2147483654) (by decide +kernel) (by decide) (by decide) ?_
  obtain ⟨u8, q9⟩ : ∃ z, a2 = 2147483648 + z := ⟨a2 - 2147483648, by first | decide | omega⟩
  refine x_imul (np := 4) (x := 0) (i := u8) (j := 6) (v := (2147483648 + 6 * u8)) (by decide +kernel) (by first | decide | omega) (by first | decide | omega) (by first | decide | omega) (by first | decide | omega) la2 (by decide) ?_
  refine x_iload (np := 5) (x := 1) (by decide +kernel) rfl la3 ?_
  refine x_iadd (np := 6) (x := 0) (v := (6 * u8 + a3)) (by decide +kernel) (by first | decide | omega) la3 (by first | decide | omega) (by first | decide | omega) ?_
  refine x_retI (np := 7) (x := 0) (by decide +kernel) (by first | decide | omega) (Or.inl (by decide +kernel)) ⟨_, rfl, (by first | decide | omega), ?_⟩
  refine x_aldC (np := 22) (x := 0) (n := 36) (i := (6 * u8 + u3)) (q := ((h 47 (6 * u8 + u3)))) (by decide +kernel) (by decide +kernel) (by first | decide | omega) (by first | decide | omega) (by decide) rfl (fun l11 => ?_)
  refine x_const (np := 23) (x := 9223372034707292159) (a := 2147483647) (by decide +kernel) (by decide) (by decide) ?_
  refine x_any (np := 24) (k9 := 2) (by decide +kernel) (by decide) l11 (by decide) (fun v12 l13 => ?_)
  refine x_any (np := 25) (k9 := 0) (by decide +kernel) (by decide) l5 l13 (fun v14 l15 => ?_)
  refine x_aload (np := 26) (x := 0) (by decide +kernel) rfl (x_nc_le (by decide)) ?_
  have q16 : h 63 2 = 66 := by have z := jB (e := 2) 0 hJ rg_63_2_0_1 (by decide) (by decide); omega
  refine x_getR (np := 29) (x := 770) (f := 2) (q := 66) (by decide +kernel) (by decide) (by decide +kernel) q16 ?_
  refine x_iload (np := 30) (x := 2) (by decide +kernel) rfl la2 ?_
  refine x_aldC (np := 31) (x := 0) (n := 6) (i := u8) (q := (h 66 u8)) (by decide +kernel) (by decide +kernel) (by first | decide | omega) (by first | decide | omega) (by decide) rfl (fun l17 => ?_)
  refine x_const (np := 32) (x := 9223372034707292159) (a := 2147483647) (by decide +kernel) (by decide) (by decide) ?_
  refine x_any (np := 33) (k9 := 2) (by decide +kernel) (by decide) l17 (by decide) (fun v18 l19 => ?_)
  refine x_any (np := 34) (k9 := 0) (by decide +kernel) (by decide) l15 l19 (fun v20 l21 => ?_)
  refine x_istore (np := 36) (x := 6) (lo' := [x_r 63, iv_c 2147483648, iv_c a2, iv_c a3, iv_c a4, iv_c a5, iv_c v20, 147573952589676412928, 147573952589676412928, 147573952589676412928]) (by decide +kernel) l21 (Nat.le_of_ble_eq_true rfl) rfl ?_
  refine x_aload (np := 37) (x := 0) (by decide +kernel) rfl (x_nc_le (by decide)) ?_
  have q22 : h 63 1 = 65 := by have z := jB (e := 1) 0 hJ rg_63_1_0_1 (by decide) (by decide); omega
  refine x_getR (np := 40) (x := 769) (f := 1) (q := 65) (by decide +kernel) (by decide) (by decide +kernel) q22 ?_
  refine x_iload (np := 41) (x := 2) (by decide +kernel) rfl la2 ?_
  refine x_aldC (np := 42) (x := 0) (n := 6) (i := u8) (q := (h 65 u8)) (by decide +kernel) (by decide +kernel) (by first | decide | omega) (by first | decide | omega) (by decide) rfl (fun l23 => ?_)
  refine x_iload (np := 44) (x := 6) (by decide +kernel) rfl l21 ?_
  refine x_any (np := 45) (k9 := 0) (by decide +kernel) (by decide) l23 l21 (fun v24 l25 => ?_)
  refine x_istore (np := 47) (x := 7) (lo' := [x_r 63, iv_c 2147483648, iv_c a2, iv_c a3, iv_c a4, iv_c a5, iv_c v20, iv_c v24, 147573952589676412928, 147573952589676412928]) (by decide +kernel) l25 (Nat.le_of_ble_eq_true rfl) rfl ?_
  refine x_const (np := 48) (x := 9223372039002259456) (a := 2147483648) (by decide +kernel) (by decide) (by decide) ?_
  refine x_istore (np := 50) (x := 8) (lo' := [x_r 63, iv_c 2147483648, iv_c a2, iv_c a3, iv_c a4, iv_c a5, iv_c v20, iv_c v24, iv_c 2147483648, 147573952589676412928]) (by decide +kernel) (by decide) (Nat.le_of_ble_eq_true rfl) rfl ?_
  have p4060 : ∀ (n : Nat) (v4054 : Nat) (w4056 : Nat) (h4057 : xh), 4294967296 - v4054 < n → (2147483648 ≤ v4054 ∧ v4054 ≤ 2147483660) → J h4057 → Fr 32769 h h4057 → X sc 276 (d + 21) (xV fun h' => J h' ∧ Fr 32769 h h') 0 0 50 [x_r 63, iv_c 2147483648, iv_c a2, iv_c a3, iv_c a4, iv_c a5, iv_c v20, iv_c v24, iv_c v4054, w4056] [] h4057 := by
    intro n
    induction n with
    | zero => intro v4054 w4056 h4057 q4061; exact absurd q4061 (Nat.not_lt_zero _)
    | succ n i4062 =>
      intro v4054 w4056 h4057 q4061 b4055 j4059 f4058
      have f4063 := Fr.trans hF f4058 (by decide)
      refine x_iload (np := 52) (x := 8) (by decide +kernel) rfl (by first | decide | omega) ?_
      refine x_iload (np := 54) (x := 5) (by decide +kernel) rfl la5 ?_
      refine x_icmp (k := 4) (tg := 145) (np := 57) (by decide +kernel) (by decide) (by first | decide | omega) la5 (fun q4064 => ?_) (fun q4065 => ?_)
      · have q4064 : a5 < v4054 := q4064
        refine x_retV (np := 146) (x := 0) (by decide +kernel) (by decide +kernel) ⟨rfl, ?_⟩
        exact ⟨j4059, f4063⟩
      have q4065 : ¬ (a5 < v4054) := q4065
      refine x_iload (np := 59) (x := 8) (by decide +kernel) rfl (by first | decide | omega) ?_
      refine x_const (np := 61) (x := 9223372090541867020) (a := 2147483660) (by decide +kernel) (by decide) (by decide) ?_
      refine x_icmp (k := 3) (tg := 145) (np := 64) (by decide +kernel) (by decide) (by first | decide | omega) (by decide) (fun q4066 => ?_) (fun q4067 => ?_)
      · have q4066 : 2147483660 ≤ v4054 := q4066
        refine x_retV (np := 146) (x := 0) (by decide +kernel) (by decide +kernel) ⟨rfl, ?_⟩
        exact ⟨j4059, f4063⟩
      have q4067 : ¬ (2147483660 ≤ v4054) := q4067
      refine x_iload (np := 66) (x := 7) (by decide +kernel) rfl l25 ?_
      refine x_iload (np := 68) (x := 8) (by decide +kernel) rfl (by first | decide | omega) ?_
      refine x_cP (t := 7) (mj := 148) (n := 2) (rc := 0) (ml := 2) (nr := 0) (np := 71) (as := [iv_c v24, iv_c v4054]) (rest := []) (lo1 := [iv_c v24, iv_c v4054]) (by decide +kernel) (by decide) (by decide +kernel) (Or.inl rfl) rfl rfl (x_wi l25 (x_wi (by first | decide | omega) x_wn)) x_wn (by decide) rfl (c148 j4059 (by first | decide | omega) (by first | decide | omega)) (fun v4068 l4069 q4070 => ?_)
      obtain ⟨b4072, c4071⟩ := q4070
      refine x_ifz (k := 1) (tg := 77) (np := 74) (by decide +kernel) (by decide) l4069 (fun q4073 => ?_) (fun q4074 => ?_)
      · have q4073 : v4068 ≠ 2147483648 := q4073
        refine x_iload (np := 79) (x := 8) (by decide +kernel) rfl (by first | decide | omega) ?_
        refine x_istore (np := 81) (x := 9) (lo' := [x_r 63, iv_c 2147483648, iv_c a2, iv_c a3, iv_c a4, iv_c a5, iv_c v20, iv_c v24, iv_c v4054, iv_c v4054]) (by decide +kernel) (by first | decide | omega) (Nat.le_of_ble_eq_true rfl) rfl ?_
        have p4175 : ∀ (n : Nat) (v4170 : Nat) (h4172 : xh), 4294967296 - v4170 < n → (2147483648 ≤ v4170 ∧ v4170 ≤ 2147483660) → J h4172 → Fr 32769 h4057 h4172 → X sc 276 (d + 21) (xV fun h' => J h' ∧ Fr 32769 h h') 0 0 81 [x_r 63, iv_c 2147483648, iv_c a2, iv_c a3, iv_c a4, iv_c a5, iv_c v20, iv_c v24, iv_c v4054, iv_c v4170] [] h4172 := by
          intro n
          induction n with
          | zero => intro v4170 h4172 q4176; exact absurd q4176 (Nat.not_lt_zero _)
          | succ n i4177 =>
            intro v4170 h4172 q4176 b4171 j4174 f4173
            have f4178 := Fr.trans f4063 f4173 (by decide)
            have f4179 := Fr.trans f4058 f4173 (by decide)
            refine x_iload (np := 83) (x := 9) (by decide +kernel) rfl (by first | decide | omega) ?_
            refine x_const (np := 85) (x := 9223372090541867020) (a := 2147483660) (by decide +kernel) (by decide) (by decide) ?_
            refine x_icmp (k := 3) (tg := 139) (np := 88) (by decide +kernel) (by decide) (by first | decide | omega) (by decide) (fun q4180 => ?_) (fun q4181 => ?_)
            · have q4180 : 2147483660 ≤ v4170 := q4180
              refine x_iinc (np := 142) (i := 8) (j := 2147483649) (v := (1 + v4054)) (lo' := [x_r 63, iv_c 2147483648, iv_c a2, iv_c a3, iv_c a4, iv_c a5, iv_c v20, iv_c v24, iv_c (1 + v4054), iv_c v4170]) (by decide +kernel) (by decide) (by decide) rfl (by first | decide | omega) (by first | decide | omega) (by first | decide | omega) rfl ?_
              refine x_goto (np := 145) (x := 50) (by decide +kernel) ?_
              exact i4062 (1 + v4054) (iv_c v4170) h4172 (by first | decide | omega) (by first | decide | omega) j4174 f4179
            have q4181 : ¬ (2147483660 ≤ v4170) := q4181
            refine x_iload (np := 90) (x := 6) (by decide +kernel) rfl l21 ?_
            refine x_iload (np := 92) (x := 9) (by decide +kernel) rfl (by first | decide | omega) ?_
            refine x_cP (t := 7) (mj := 148) (n := 2) (rc := 0) (ml := 2) (nr := 0) (np := 95) (as := [iv_c v20, iv_c v4170]) (rest := []) (lo1 := [iv_c v20, iv_c v4170]) (by decide +kernel) (by decide) (by decide +kernel) (Or.inl rfl) rfl rfl (x_wi l21 (x_wi (by first | decide | omega) x_wn)) x_wn (by decide) rfl (c148 j4174 (by first | decide | omega) (by first | decide | omega)) (fun v4182 l4183 q4184 => ?_)
            obtain ⟨b4186, c4185⟩ := q4184
            refine x_ifz (k := 0) (tg := 139) (np := 98) (by decide +kernel) (by decide) l4183 (fun q4187 => ?_) (fun q4188 => ?_)
            · have q4187 : v4182 = 2147483648 := q4187
              refine x_iinc (np := 142) (i := 8) (j := 2147483649) (v := (1 + v4054)) (lo' := [x_r 63, iv_c 2147483648, iv_c a2, iv_c a3, iv_c a4, iv_c a5, iv_c v20, iv_c v24, iv_c (1 + v4054), iv_c v4170]) (by decide +kernel) (by decide) (by decide) rfl (by first | decide | omega) (by first | decide | omega) (by first | decide | omega) rfl ?_
              refine x_goto (np := 145) (x := 50) (by decide +kernel) ?_
              exact i4062 (1 + v4054) (iv_c v4170) h4172 (by first | decide | omega) (by first | decide | omega) j4174 f4179
            have q4188 : ¬ (v4182 = 2147483648) := q4188
            refine x_aload (np := 99) (x := 0) (by decide +kernel) rfl (x_nc_le (by decide)) ?_
            refine x_nI (t := 8) (mj := 278) (n := 1) (rc := 13) (ml := 1) (nr := 0) (np := 102) (as := [x_r 63]) (rest := []) (lo1 := [x_r 63]) (by decide +kernel) (by decide) (by decide +kernel) (x_rb_of (by decide +kernel)) rfl rfl (x_wr (by decide) x_wn) x_wn (by decide) rfl ?_
            refine x_aload (np := 1) (x := 0) (by decide +kernel) rfl (x_nc_le (by decide)) ?_
            have b4189 := jB (e := 9) 0 j4174 rg_63_9_0_1 (by first | decide | omega) (by first | decide | omega)
            refine x_getC (np := 4) (x := 777) (f := 9) (q := (h4172 63 9)) (by decide +kernel) (by decide) (by decide +kernel) rfl (fun l4190 => ?_)
            refine x_ifz (k := 1) (tg := 21) (np := 7) (by decide +kernel) (by decide) l4190 (fun q4191 => ?_) (fun q4192 => ?_)
            · have q4191 : (h4172 63 9) ≠ 2147483648 := q4191
              refine x_const (np := 22) (x := 9223372043297226753) (a := 2147483649) (by decide +kernel) (by decide) (by decide) ?_
              refine x_goto (np := 25) (x := 26) (by decide +kernel) ?_
              refine x_retI (np := 27) (x := 0) (by decide +kernel) (by decide) (Or.inr ⟨by decide +kernel, by first | decide | omega, by first | decide | omega⟩) ⟨_, rfl, (by decide), ?_⟩
              refine x_ifz (k := 1) (tg := 139) (np := 105) (by decide +kernel) (by decide) (by decide) (fun q4193 => ?_) (fun q4194 => ?_)
              · have q4193 : 2147483649 ≠ 2147483648 := q4193
                refine x_iinc (np := 142) (i := 8) (j := 2147483649) (v := (1 + v4054)) (lo' := [x_r 63, iv_c 2147483648, iv_c a2, iv_c a3, iv_c a4, iv_c a5, iv_c v20, iv_c v24, iv_c (1 + v4054), iv_c v4170]) (by decide +kernel) (by decide) (by decide) rfl (by first | decide | omega) (by first | decide | omega) (by first | decide | omega) rfl ?_
                refine x_goto (np := 145) (x := 50) (by decide +kernel) ?_
                exact i4062 (1 + v4054) (iv_c v4170) h4172 (by first | decide | omega) (by first | decide | omega) j4174 f4179
              have q4194 : ¬ (2147483649 ≠ 2147483648) := q4194
              exfalso; omega
            have q4192 : ¬ ((h4172 63 9) ≠ 2147483648) := q4192
            refine x_aload (np := 8) (x := 0) (by decide +kernel) rfl (x_nc_le (by decide)) ?_
            refine x_getC (np := 11) (x := 776) (f := 8) (q := (h4172 63 8)) (by decide +kernel) (by decide) (by decide +kernel) rfl (fun l4195 => ?_)
            refine x_ifz (k := 5) (tg := 25) (np := 14) (by decide +kernel) (by decide) l4195 (fun q4196 => ?_) (fun q4197 => ?_)
            · have q4196 : (h4172 63 8) ≤ 2147483648 := q4196
              refine x_const (np := 26) (x := 9223372039002259456) (a := 2147483648) (by decide +kernel) (by decide) (by decide) ?_
              refine x_retI (np := 27) (x := 0) (by decide +kernel) (by decide) (Or.inr ⟨by decide +kernel, by first | decide | omega, by first | decide | omega⟩) ⟨_, rfl, (by decide), ?_⟩
              refine x_ifz (k := 1) (tg := 139) (np := 105) (by decide +kernel) (by decide) (by decide) (fun q4198 => ?_) (fun q4199 => ?_)
              · have q4198 : 2147483648 ≠ 2147483648 := q4198
                exfalso; omega
              have q4199 : ¬ (2147483648 ≠ 2147483648) := q4199
              refine x_iload (np := 107) (x := 9) (by decide +kernel) rfl (by first | decide | omega) ?_
              refine x_iload (np := 109) (x := 4) (by decide +kernel) rfl la4 ?_
              refine x_icmp (k := 2) (tg := 133) (np := 112) (by decide +kernel) (by decide) (by first | decide | omega) la4 (fun q4200 => ?_) (fun q4201 => ?_)
              · have q4200 : v4170 < a4 := q4200
                refine x_iinc (np := 136) (i := 9) (j := 2147483649) (v := (1 + v4170)) (lo' := [x_r 63, iv_c 2147483648, iv_c a2, iv_c a3, iv_c a4, iv_c a5, iv_c v20, iv_c v24, iv_c v4054, iv_c (1 + v4170)]) (by decide +kernel) (by decide) (by decide) rfl (by first | decide | omega) (by first | decide | omega) (by first | decide | omega) rfl ?_
                refine x_goto (np := 139) (x := 81) (by decide +kernel) ?_
                exact i4177 (1 + v4170) h4172 (by first | decide | omega) (by first | decide | omega) j4174 f4173
              have q4201 : ¬ (v4170 < a4) := q4201
              refine x_iload (np := 114) (x := 7) (by decide +kernel) rfl l25 ?_
              refine x_iload (np := 116) (x := 9) (by decide +kernel) rfl (by first | decide | omega) ?_
              refine x_cP (t := 7) (mj := 148) (n := 2) (rc := 0) (ml := 2) (nr := 0) (np := 119) (as := [iv_c v24, iv_c v4170]) (rest := []) (lo1 := [iv_c v24, iv_c v4170]) (by decide +kernel) (by decide) (by decide +kernel) (Or.inl rfl) rfl rfl (x_wi l25 (x_wi (by first | decide | omega) x_wn)) x_wn (by decide) rfl (c148 j4174 (by first | decide | omega) (by first | decide | omega)) (fun v4202 l4203 q4204 => ?_)
              obtain ⟨b4206, c4205⟩ := q4204
              refine x_ifz (k := 0) (tg := 133) (np := 122) (by decide +kernel) (by decide) l4203 (fun q4207 => ?_) (fun q4208 => ?_)
              · have q4207 : v4202 = 2147483648 := q4207
                refine x_iinc (np := 136) (i := 9) (j := 2147483649) (v := (1 + v4170)) (lo' := [x_r 63, iv_c 2147483648, iv_c a2, iv_c a3, iv_c a4, iv_c a5, iv_c v20, iv_c v24, iv_c v4054, iv_c (1 + v4170)]) (by decide +kernel) (by decide) (by decide) rfl (by first | decide | omega) (by first | decide | omega) (by first | decide | omega) rfl ?_
                refine x_goto (np := 139) (x := 81) (by decide +kernel) ?_
                exact i4177 (1 + v4170) h4172 (by first | decide | omega) (by first | decide | omega) j4174 f4173
              have q4208 : ¬ (v4202 = 2147483648) := q4208
              refine x_aload (np := 123) (x := 0) (by decide +kernel) rfl (x_nc_le (by decide)) ?_
              refine x_iload (np := 124) (x := 1) (by decide +kernel) rfl (by decide) ?_
              refine x_iload (np := 125) (x := 2) (by decide +kernel) rfl la2 ?_
              refine x_iload (np := 126) (x := 3) (by decide +kernel) rfl la3 ?_
              refine x_iload (np := 128) (x := 8) (by decide +kernel) rfl (by first | decide | omega) ?_
              refine x_iload (np := 130) (x := 9) (by decide +kernel) rfl (by first | decide | omega) ?_
              refine x_cV (t := 8) (mj := 277) (n := 6) (rc := 13) (ml := 7) (nr := 0) (np := 133) (as := [x_r 63, iv_c 2147483648, iv_c a2, iv_c a3, iv_c v4054, iv_c v4170]) (rest := []) (lo1 := [x_r 63, iv_c 2147483648, iv_c a2, iv_c a3, iv_c v4054, iv_c v4170, 147573952589676412928]) (by decide +kernel) (by decide) (by decide +kernel) (x_rb_of (by decide +kernel)) rfl rfl (x_wr (by decide) (x_wi (by decide) (x_wi la2 (x_wi la3 (x_wi (by first | decide | omega) (x_wi (by first | decide | omega) x_wn)))))) x_wn (by decide) rfl (c277_63_c0 j4174   (by first | decide | omega) (by first | decide | omega) (by first | decide | omega) (by first | decide | omega)) (fun h4212 q4211 => ?_)
              obtain ⟨j4213, f4214⟩ := q4211
              have f4217 := Fr.trans f4178 f4214 (by decide)
              have f4218 := Fr.trans f4179 f4214 (by decide)
              have f4219 := Fr.trans f4173 f4214 (by decide)
              refine x_iinc (np := 136) (i := 9) (j := 2147483649) (v := (1 + v4170)) (lo' := [x_r 63, iv_c 2147483648, iv_c a2, iv_c a3, iv_c a4, iv_c a5, iv_c v20, iv_c v24, iv_c v4054, iv_c (1 + v4170)]) (by decide +kernel) (by decide) (by decide) rfl (by first | decide | omega) (by first | decide | omega) (by first | decide | omega) rfl ?_
              refine x_goto (np := 139) (x := 81) (by decide +kernel) ?_
              exact i4177 (1 + v4170) h4212 (by first | decide | omega) (by first | decide | omega) j4213 f4219
            have q4197 : ¬ ((h4172 63 8) ≤ 2147483648) := q4197
            refine x_aload (np := 15) (x := 0) (by decide +kernel) rfl (x_nc_le (by decide)) ?_
            refine x_vI (P := fun r9 h9 => X sc 278 _ _ 0 0 18 [x_r 63] (iv_c r9 :: []) h9) (np := 18) (x := 5246977) (kk := 1) (cls := 4) (mj := 54) (ml := 1) (nr := 0) (rest := []) (lo1 := [x_r 63]) (by decide +kernel) (by decide) (by decide) (by decide) (by decide +kernel) (by decide +kernel) (by decide) (by decide +kernel) (by decide +kernel) x_wn (by decide) rfl ?_ (fun _ _ _ z => z)
            refine x_const (np := 1) (x := 9223372043297226753) (a := 2147483649) (by decide +kernel) (by decide) (by decide) ?_
            refine x_retI (np := 2) (x := 0) (by decide +kernel) (by decide) (Or.inr ⟨by decide +kernel, by first | decide | omega, by first | decide | omega⟩) ⟨_, rfl, (by decide), ?_⟩
            refine x_ifz (k := 0) (tg := 25) (np := 21) (by decide +kernel) (by decide) (by decide) (fun q4220 => ?_) (fun q4221 => ?_)
            · have q4220 : 2147483649 = 2147483648 := q4220
              exfalso; omega
            have q4221 : ¬ (2147483649 = 2147483648) := q4221
            refine x_const (np := 22) (x := 9223372043297226753) (a := 2147483649) (by decide +kernel) (by decide) (by decide) ?_
            refine x_goto (np := 25) (x := 26) (by decide +kernel) ?_
            refine x_retI (np := 27) (x := 0) (by decide +kernel) (by decide) (Or.inr ⟨by decide +kernel, by first | decide | omega, by first | decide | omega⟩) ⟨_, rfl, (by decide), ?_⟩
            refine x_ifz (k := 1) (tg := 139) (np := 105) (by decide +kernel) (by decide) (by decide) (fun q4222 => ?_) (fun q4223 => ?_)
            · have q4222 : 2147483649 ≠ 2147483648 := q4222
              refine x_iinc (np := 142) (i := 8) (j := 2147483649) (v := (1 + v4054)) (lo' := [x_r 63, iv_c 2147483648, iv_c a2, iv_c a3, iv_c a4, iv_c a5, iv_c v20, iv_c v24, iv_c (1 + v4054), iv_c v4170]) (by decide +kernel) (by decide) (by decide) rfl (by first | decide | omega) (by first | decide | omega) (by first | decide | omega) rfl ?_
              refine x_goto (np := 145) (x := 50) (by decide +kernel) ?_
              exact i4062 (1 + v4054) (iv_c v4170) h4172 (by first | decide | omega) (by first | decide | omega) j4174 f4179
            have q4223 : ¬ (2147483649 ≠ 2147483648) := q4223
            exfalso; omega
        exact p4175 _ v4054 h4057 (Nat.lt_succ_self _) (by first | decide | omega) j4059 (Fr.refl _ _)
      have q4074 : ¬ (v4068 ≠ 2147483648) := q4074
      refine x_goto (np := 77) (x := 139) (by decide +kernel) ?_
      refine x_iinc (np := 142) (i := 8) (j := 2147483649) (v := (1 + v4054)) (lo' := [x_r 63, iv_c 2147483648, iv_c a2, iv_c a3, iv_c a4, iv_c a5, iv_c v20, iv_c v24, iv_c (1 + v4054), w4056]) (by decide +kernel) (by decide) (by decide) rfl (by first | decide | omega) (by first | decide | omega) (by first | decide | omega) rfl ?_
      refine x_goto (np := 145) (x := 50) (by decide +kernel) ?_
      exact i4062 (1 + v4054) w4056 h4057 (by first | decide | omega) (by first | decide | omega) j4059 f4058
  exact p4060 _ 2147483648 147573952589676412928 h (Nat.lt_succ_self _) (by first | decide | omega) hJ (Fr.refl _ _)
set_option maxHeartbeats 0 in
/-- LentNames$Search.mend(I)V -/
theorem c275_63_c0 {sc : Nat × Nat} {d  : Nat} {h : xh} (hJ : J h) : X sc 275 (d + 22) (xV fun h' => J h' ∧ Fr 32769 h h') 0 0 0 [x_r 63, iv_c 2147483648, 147573952589676412928, 147573952589676412928, 147573952589676412928, 147573952589676412928, 147573952589676412928, 147573952589676412928] [] h := by
  have hF := Fr.refl 32769 h
  refine x_aload (np := 1) (x := 0) (by decide +kernel) rfl (x_nc_le (by decide)) ?_
  refine x_getC (np := 4) (x := 778) (f := 10) (q := (h 63 10)) (by decide +kernel) (by decide) (by decide +kernel) rfl (fun l1 => ?_)
  refine x_istore (np := 5) (x := 2) (lo' := [x_r 63, iv_c 2147483648, iv_c (h 63 10), 147573952589676412928, 147573952589676412928, 147573952589676412928, 147573952589676412928, 147573952589676412928]) (by decide +kernel) l1 (Nat.le_of_ble_eq_true rfl) rfl ?_
  refine x_aload (np := 6) (x := 0) (by decide +kernel) rfl (x_nc_le (by decide)) ?_
  refine x_getC (np := 9) (x := 779) (f := 11) (q := (h 63 11)) (by decide +kernel) (by decide) (by decide +kernel) rfl (fun l2 => ?_)
  refine x_istore (np := 10) (x := 3) (lo' := [x_r 63, iv_c 2147483648, iv_c (h 63 10), iv_c (h 63 11), 147573952589676412928, 147573952589676412928, 147573952589676412928, 147573952589676412928]) (by decide +kernel) l2 (Nat.le_of_ble_eq_true rfl) rfl ?_
  refine x_aload (np := 11) (x := 0) (by decide +kernel) rfl (x_nc_le (by decide)) ?_
  refine x_getC (np := 14) (x := 780) (f := 12) (q := (h 63 12)) (by decide +kernel) (by decide) (by decide +kernel) rfl (fun l3 => ?_)
  refine x_istore (np := 16) (x := 4) (lo' := [x_r 63, iv_c 2147483648, iv_c (h 63 10), iv_c (h 63 11), iv_c (h 63 12), 147573952589676412928, 147573952589676412928, 147573952589676412928]) (by decide +kernel) l3 (Nat.le_of_ble_eq_true rfl) rfl ?_
  refine x_aload (np := 17) (x := 0) (by decide +kernel) rfl (x_nc_le (by decide)) ?_
  refine x_getC (np := 20) (x := 781) (f := 13) (q := (h 63 13)) (by decide +kernel) (by decide) (by decide +kernel) rfl (fun l4 => ?_)
  refine x_istore (np := 22) (x := 5) (lo' := [x_r 63, iv_c 2147483648, iv_c (h 63 10), iv_c (h 63 11), iv_c (h 63 12), iv_c (h 63 13), 147573952589676412928, 147573952589676412928]) (by decide +kernel) l4 (Nat.le_of_ble_eq_true rfl) rfl ?_
  refine x_const (np := 23) (x := 9223372039002259456) (a := 2147483648) (by decide +kernel) (by decide) (by decide) ?_
  refine x_istore (np := 25) (x := 6) (lo' := [x_r 63, iv_c 2147483648, iv_c (h 63 10), iv_c (h 63 11), iv_c (h 63 12), iv_c (h 63 13), iv_c 2147483648, 147573952589676412928]) (by decide +kernel) (by decide) (Nat.le_of_ble_eq_true rfl) rfl ?_
  have p1620 : ∀ (n : Nat) (v1614 : Nat) (w1616 : Nat) (h1617 : xh), 4294967296 - v1614 < n → (2147483648 ≤ v1614 ∧ v1614 ≤ 2147483654) → J h1617 → Fr 32769 h h1617 → X sc 275 (d + 22) (xV fun h' => J h' ∧ Fr 32769 h h') 0 0 25 [x_r 63, iv_c 2147483648, iv_c (h 63 10), iv_c (h 63 11), iv_c (h 63 12), iv_c (h 63 13), iv_c v1614, w1616] [] h1617 := by
    intro n
    induction n with
    | zero => intro v1614 w1616 h1617 q1621; exact absurd q1621 (Nat.not_lt_zero _)
    | succ n i1622 =>
      intro v1614 w1616 h1617 q1621 b1615 j1619 f1618
      have f1623 := Fr.trans hF f1618 (by decide)
      refine x_iload (np := 27) (x := 6) (by decide +kernel) rfl (by first | decide | omega) ?_
      refine x_aload (np := 28) (x := 0) (by decide +kernel) rfl (x_nc_le (by decide)) ?_
      have t1624 : tw (h1617 63 6) := j1619.2.2.2.2.2.1
      refine x_getR (np := 31) (x := 774) (f := 6) (q := (h1617 63 6)) (by decide +kernel) (by decide) (by decide +kernel) rfl ?_
      have q1625 : h1617 (h1617 63 6) 7 = h (h1617 63 6) 7 := jK 0 f1618 (rg_T0_7_0_1 t1624) (by first | decide | omega) (by first | decide | omega) (by decide)
      have b1626 := jB (e := 7) 0 hJ (rg_T0_7_0_1 t1624) (by first | decide | omega) (by first | decide | omega)
      refine x_getC (np := 34) (x := 519) (f := 7) (q := (h (h1617 63 6) 7)) (by decide +kernel) (by decide) (tg_0_519_7_0 t1624) q1625 (fun l1627 => ?_)
      refine x_icmp (k := 3) (tg := 95) (np := 37) (by decide +kernel) (by decide) (by first | decide | omega) l1627 (fun q1628 => ?_) (fun q1629 => ?_)
      · have q1628 : (h (h1617 63 6) 7) ≤ v1614 := q1628
        refine x_retV (np := 96) (x := 0) (by decide +kernel) (by decide +kernel) ⟨rfl, ?_⟩
        exact ⟨j1619, f1623⟩
      have q1629 : ¬ ((h (h1617 63 6) 7) ≤ v1614) := q1629
      refine x_const (np := 38) (x := 9223372039002259456) (a := 2147483648) (by decide +kernel) (by decide) (by decide) ?_
      refine x_istore (np := 40) (x := 7) (lo' := [x_r 63, iv_c 2147483648, iv_c (h 63 10), iv_c (h 63 11), iv_c (h 63 12), iv_c (h 63 13), iv_c v1614, iv_c 2147483648]) (by decide +kernel) (by decide) (Nat.le_of_ble_eq_true rfl) rfl ?_
      have p1851 : ∀ (n : Nat) (v1846 : Nat) (h1848 : xh), 4294967296 - v1846 < n → (2147483648 ≤ v1846 ∧ v1846 ≤ 2147483654) → J h1848 → Fr 32769 h1617 h1848 → X sc 275 (d + 22) (xV fun h' => J h' ∧ Fr 32769 h h') 0 0 40 [x_r 63, iv_c 2147483648, iv_c (h 63 10), iv_c (h 63 11), iv_c (h 63 12), iv_c (h 63 13), iv_c v1614, iv_c v1846] [] h1848 := by
        intro n
        induction n with
        | zero => intro v1846 h1848 q1852; exact absurd q1852 (Nat.not_lt_zero _)
        | succ n i1853 =>
          intro v1846 h1848 q1852 b1847 j1850 f1849
          have f1854 := Fr.trans f1623 f1849 (by decide)
          have f1855 := Fr.trans f1618 f1849 (by decide)
          refine x_iload (np := 42) (x := 7) (by decide +kernel) rfl (by first | decide | omega) ?_
          refine x_aload (np := 43) (x := 0) (by decide +kernel) rfl (x_nc_le (by decide)) ?_
          have t1856 : tw (h1848 63 6) := j1850.2.2.2.2.2.1
          refine x_getR (np := 46) (x := 774) (f := 6) (q := (h1848 63 6)) (by decide +kernel) (by decide) (by decide +kernel) rfl ?_
          have q1857 : h1848 (h1848 63 6) 7 = h1617 (h1848 63 6) 7 := jK 0 f1849 (rg_T0_7_0_1 t1856) (by first | decide | omega) (by first | decide | omega) (by decide)
          have q1858 : h1617 (h1848 63 6) 7 = h (h1848 63 6) 7 := jK 0 f1618 (rg_T0_7_0_1 t1856) (by first | decide | omega) (by first | decide | omega) (by decide)
          have b1859 := jB (e := 7) 0 hJ (rg_T0_7_0_1 t1856) (by first | decide | omega) (by first | decide | omega)
          refine x_getC (np := 49) (x := 519) (f := 7) (q := (h (h1848 63 6) 7)) (by decide +kernel) (by decide) (tg_0_519_7_0 t1856) (q1857.trans q1858) (fun l1860 => ?_)
          refine x_icmp (k := 3) (tg := 89) (np := 52) (by decide +kernel) (by decide) (by first | decide | omega) l1860 (fun q1861 => ?_) (fun q1862 => ?_)
          · have q1861 : (h (h1848 63 6) 7) ≤ v1846 := q1861
            refine x_iinc (np := 92) (i := 6) (j := 2147483649) (v := (1 + v1614)) (lo' := [x_r 63, iv_c 2147483648, iv_c (h 63 10), iv_c (h 63 11), iv_c (h 63 12), iv_c (h 63 13), iv_c (1 + v1614), iv_c v1846]) (by decide +kernel) (by decide) (by decide) rfl (by first | decide | omega) (by first | decide | omega) (by first | decide | omega) rfl ?_
            refine x_goto (np := 95) (x := 25) (by decide +kernel) ?_
            exact i1622 (1 + v1614) (iv_c v1846) h1848 (by first | decide | omega) (by first | decide | omega) j1850 f1855
          have q1862 : ¬ ((h (h1848 63 6) 7) ≤ v1846) := q1862
          refine x_iload (np := 53) (x := 2) (by decide +kernel) rfl l1 ?_
          refine x_iload (np := 55) (x := 6) (by decide +kernel) rfl (by first | decide | omega) ?_
          refine x_cP (t := 7) (mj := 148) (n := 2) (rc := 0) (ml := 2) (nr := 0) (np := 58) (as := [iv_c (h 63 10), iv_c v1614]) (rest := []) (lo1 := [iv_c (h 63 10), iv_c v1614]) (by decide +kernel) (by decide) (by decide +kernel) (Or.inl rfl) rfl rfl (x_wi l1 (x_wi (by first | decide | omega) x_wn)) x_wn (by decide) rfl (c148 j1850 (by first | decide | omega) (by first | decide | omega)) (fun v1863 l1864 q1865 => ?_)
          obtain ⟨b1867, c1866⟩ := q1865
          refine x_ifz (k := 0) (tg := 83) (np := 61) (by decide +kernel) (by decide) l1864 (fun q1868 => ?_) (fun q1869 => ?_)
          · have q1868 : v1863 = 2147483648 := q1868
            refine x_iinc (np := 86) (i := 7) (j := 2147483649) (v := (1 + v1846)) (lo' := [x_r 63, iv_c 2147483648, iv_c (h 63 10), iv_c (h 63 11), iv_c (h 63 12), iv_c (h 63 13), iv_c v1614, iv_c (1 + v1846)]) (by decide +kernel) (by decide) (by decide) rfl (by first | decide | omega) (by first | decide | omega) (by first | decide | omega) rfl ?_
            refine x_goto (np := 89) (x := 40) (by decide +kernel) ?_
            exact i1853 (1 + v1846) h1848 (by first | decide | omega) (by first | decide | omega) j1850 f1849
          have q1869 : ¬ (v1863 = 2147483648) := q1869
          refine x_iload (np := 62) (x := 3) (by decide +kernel) rfl l2 ?_
          refine x_iload (np := 64) (x := 7) (by decide +kernel) rfl (by first | decide | omega) ?_
          refine x_cP (t := 7) (mj := 148) (n := 2) (rc := 0) (ml := 2) (nr := 0) (np := 67) (as := [iv_c (h 63 11), iv_c v1846]) (rest := []) (lo1 := [iv_c (h 63 11), iv_c v1846]) (by decide +kernel) (by decide) (by decide +kernel) (Or.inl rfl) rfl rfl (x_wi l2 (x_wi (by first | decide | omega) x_wn)) x_wn (by decide) rfl (c148 j1850 (by first | decide | omega) (by first | decide | omega)) (fun v1870 l1871 q1872 => ?_)
          obtain ⟨b1874, c1873⟩ := q1872
          refine x_ifz (k := 0) (tg := 83) (np := 70) (by decide +kernel) (by decide) l1871 (fun q1875 => ?_) (fun q1876 => ?_)
          · have q1875 : v1870 = 2147483648 := q1875
            refine x_iinc (np := 86) (i := 7) (j := 2147483649) (v := (1 + v1846)) (lo' := [x_r 63, iv_c 2147483648, iv_c (h 63 10), iv_c (h 63 11), iv_c (h 63 12), iv_c (h 63 13), iv_c v1614, iv_c (1 + v1846)]) (by decide +kernel) (by decide) (by decide) rfl (by first | decide | omega) (by first | decide | omega) (by first | decide | omega) rfl ?_
            refine x_goto (np := 89) (x := 40) (by decide +kernel) ?_
            exact i1853 (1 + v1846) h1848 (by first | decide | omega) (by first | decide | omega) j1850 f1849
          have q1876 : ¬ (v1870 = 2147483648) := q1876
          refine x_aload (np := 71) (x := 0) (by decide +kernel) rfl (x_nc_le (by decide)) ?_
          refine x_iload (np := 72) (x := 1) (by decide +kernel) rfl (by decide) ?_
          refine x_iload (np := 74) (x := 6) (by decide +kernel) rfl (by first | decide | omega) ?_
          refine x_iload (np := 76) (x := 7) (by decide +kernel) rfl (by first | decide | omega) ?_
          refine x_iload (np := 78) (x := 4) (by decide +kernel) rfl l3 ?_
          refine x_iload (np := 80) (x := 5) (by decide +kernel) rfl l4 ?_
          refine x_cV (t := 8) (mj := 276) (n := 6) (rc := 13) (ml := 10) (nr := 0) (np := 83) (as := [x_r 63, iv_c 2147483648, iv_c v1614, iv_c v1846, iv_c (h 63 12), iv_c (h 63 13)]) (rest := []) (lo1 := [x_r 63, iv_c 2147483648, iv_c v1614, iv_c v1846, iv_c (h 63 12), iv_c (h 63 13), 147573952589676412928, 147573952589676412928, 147573952589676412928, 147573952589676412928]) (by decide +kernel) (by decide) (by decide +kernel) (x_rb_of (by decide +kernel)) rfl rfl (x_wr (by decide) (x_wi (by decide) (x_wi (by first | decide | omega) (x_wi (by first | decide | omega) (x_wi l3 (x_wi l4 x_wn)))))) x_wn (by decide) rfl (c276_63_c0 j1850   (by first | decide | omega) (by first | decide | omega) (by first | decide | omega) (by first | decide | omega)) (fun h1880 q1879 => ?_)
          obtain ⟨j1881, f1882⟩ := q1879
          have f1885 := Fr.trans f1854 f1882 (by decide)
          have f1886 := Fr.trans f1855 f1882 (by decide)
          have f1887 := Fr.trans f1849 f1882 (by decide)
          refine x_iinc (np := 86) (i := 7) (j := 2147483649) (v := (1 + v1846)) (lo' := [x_r 63, iv_c 2147483648, iv_c (h 63 10), iv_c (h 63 11), iv_c (h 63 12), iv_c (h 63 13), iv_c v1614, iv_c (1 + v1846)]) (by decide +kernel) (by decide) (by decide) rfl (by first | decide | omega) (by first | decide | omega) (by first | decide | omega) rfl ?_
          refine x_goto (np := 89) (x := 40) (by decide +kernel) ?_
          exact i1853 (1 + v1846) h1880 (by first | decide | omega) (by first | decide | omega) j1881 f1887
      exact p1851 _ 2147483648 h1617 (Nat.lt_succ_self _) (by first | decide | omega) j1619 (Fr.refl _ _)
  exact p1620 _ 2147483648 147573952589676412928 h (Nat.lt_succ_self _) (by first | decide | omega) hJ (Fr.refl _ _)
set_option maxHeartbeats 0 in
/-- LentNames$Search.keepSet(I)V -/
theorem c279_63_c0 {sc : Nat × Nat} {d  : Nat} {h : xh} (hJ : J h) : X sc 279 d (xV fun h' => J h' ∧ Fr 32769 h h') 0 0 0 [x_r 63, iv_c 2147483648, 147573952589676412928, 147573952589676412928] [] h := by
  have hF := Fr.refl 32769 h
  refine x_aload (np := 1) (x := 0) (by decide +kernel) rfl (x_nc_le (by decide)) ?_
  refine x_dup (np := 2) (x := 0) (by decide +kernel) (by have z := x_nc_le (k := 63) (by decide); unfold x_r; omega) ?_
  refine x_getC (np := 5) (x := 776) (f := 8) (q := (h 63 8)) (by decide +kernel) (by decide) (by decide +kernel) rfl (fun l1 => ?_)
  refine x_const (np := 6) (x := 9223372043297226753) (a := 2147483649) (by decide +kernel) (by decide) (by decide) ?_
  refine x_addA (by rw [tb_b279]; decide +kernel) l1 (by decide) (fun v2 l3 => ?_)
  refine x_putI (np := 10) (x := 776) (f := 8) (by decide +kernel) (by decide +kernel) l3 (Or.inl (by decide)) ?_
  have j5 := jU (e := 8) (v := v2) 0 hJ rg_63_8_0_1 (by first | decide | omega) (by first | decide | omega) (by first | decide | omega)
  have f7 := jF (e := 8) (v := v2) 0 hF rg_63_8_0_1 (by first | decide | omega) (by first | decide | omega) (by decide)
  generalize e6 : x_up h 63 8 v2 = h4 at j5 f7 ⊢
  refine x_aload (np := 11) (x := 0) (by decide +kernel) rfl (x_nc_le (by decide)) ?_
  have q8 : h4 63 8 = v2 := by rw [← e6]; exact x_up_at
  refine x_getC (np := 14) (x := 776) (f := 8) (q := v2) (by decide +kernel) (by decide) (by decide +kernel) q8 (fun l9 => ?_)
  refine x_const (np := 15) (x := 9223372043297226753) (a := 2147483649) (by decide +kernel) (by decide) (by decide) ?_
  refine x_icmp (k := 5) (tg := 19) (np := 18) (by decide +kernel) (by decide) l3 (by decide) (fun q10 => ?_) (fun q11 => ?_)
  · have q10 : v2 ≤ 2147483649 := q10
    refine x_aload (np := 20) (x := 0) (by decide +kernel) rfl (x_nc_le (by decide)) ?_
    refine x_iload (np := 21) (x := 1) (by decide +kernel) rfl (by decide) ?_
    refine x_putI (np := 24) (x := 783) (f := 15) (by decide +kernel) (by decide +kernel) (by decide) (Or.inl (by decide)) ?_
    have j13 := jU (e := 15) (v := 2147483648) 0 j5 rg_63_15_0_1 (by first | decide | omega) (by first | decide | omega) (by first | decide | omega)
    have f15 := jF (e := 15) (v := 2147483648) 0 f7 rg_63_15_0_1 (by first | decide | omega) (by first | decide | omega) (by decide)
    generalize e14 : x_up h4 63 15 2147483648 = h12 at j13 f15 ⊢
    refine x_const (np := 25) (x := 9223372039002259456) (a := 2147483648) (by decide +kernel) (by decide) (by decide) ?_
    refine x_istore (np := 26) (x := 2) (lo' := [x_r 63, iv_c 2147483648, iv_c 2147483648, 147573952589676412928]) (by decide +kernel) (by decide) (Nat.le_of_ble_eq_true rfl) rfl ?_
    have p26 : ∀ (n : Nat) (v23 : Nat) (w25 : Nat), 0 < n → (2147483648 ≤ v23 ∧ v23 ≤ 2147483648) → X sc 279 d (xV fun h' => J h' ∧ Fr 32769 h h') 0 0 26 [x_r 63, iv_c 2147483648, iv_c v23, w25] [] h12 := by
      intro n
      induction n with
      | zero => intro v23 w25 q27; exact absurd q27 (Nat.not_lt_zero _)
      | succ n i28 =>
        intro v23 w25 q27 b24
        refine x_iload (np := 27) (x := 2) (by decide +kernel) rfl (by first | decide | omega) ?_
        refine x_aload (np := 28) (x := 0) (by decide +kernel) rfl (x_nc_le (by decide)) ?_
        have q29 : h12 63 15 = 2147483648 := by rw [← e14]; exact x_up_at
        refine x_getC (np := 31) (x := 783) (f := 15) (q := 2147483648) (by decide +kernel) (by decide) (by decide +kernel) q29 (fun l30 => ?_)
        refine x_icmp (k := 3) (tg := 95) (np := 34) (by decide +kernel) (by decide) (by first | decide | omega) (by decide) (fun q31 => ?_) (fun q32 => ?_)
        · have q31 : 2147483648 ≤ v23 := q31
          refine x_retV (np := 96) (x := 0) (by decide +kernel) (by decide +kernel) ⟨rfl, ?_⟩
          exact ⟨j13, f15⟩
        have q32 : ¬ (2147483648 ≤ v23) := q32
        exfalso; omega
    exact p26 _ 2147483648 147573952589676412928 (Nat.lt_succ_self _) (by first | decide | omega)
  have q11 : ¬ (v2 ≤ 2147483649) := q11
  refine x_retV (np := 19) (x := 0) (by decide +kernel) (by decide +kernel) ⟨rfl, ?_⟩
  exact ⟨j5, f7⟩
set_option maxHeartbeats 0 in
/-- LentNames$Search.come(I)V -/
theorem c274_63_c0 {sc : Nat × Nat} {d  : Nat} {h : xh} (hJ : J h) : X sc 274 (d + 23) (xV fun h' => J h' ∧ Fr 32769 h h') 0 0 0 [x_r 63, iv_c 2147483648] [] h := by
  have hF := Fr.refl 32769 h
  refine x_aload (np := 1) (x := 0) (by decide +kernel) rfl (x_nc_le (by decide)) ?_
  refine x_dup (np := 2) (x := 0) (by decide +kernel) (by have z := x_nc_le (k := 63) (by decide); unfold x_r; omega) ?_
  refine x_getC (np := 5) (x := 785) (f := 17) (q := (h 63 17)) (by decide +kernel) (by decide) (by decide +kernel) rfl (fun l1 => ?_)
  refine x_const (np := 6) (x := 9223372043297226753) (a := 2147483649) (by decide +kernel) (by decide) (by decide) ?_
  refine x_addA (by rw [tb_b274]; decide +kernel) l1 (by decide) (fun v2 l3 => ?_)
  refine x_putI (np := 10) (x := 785) (f := 17) (by decide +kernel) (by decide +kernel) l3 (Or.inl (by decide)) ?_
  have j5 := jU (e := 17) (v := v2) 0 hJ rg_63_17_0_1 (by first | decide | omega) (by first | decide | omega) (by first | decide | omega)
  have f7 := jF (e := 17) (v := v2) 0 hF rg_63_17_0_1 (by first | decide | omega) (by first | decide | omega) (by decide)
  generalize e6 : x_up h 63 17 v2 = h4 at j5 f7 ⊢
  refine x_aload (np := 11) (x := 0) (by decide +kernel) rfl (x_nc_le (by decide)) ?_
  have q8 : h4 63 17 = v2 := by rw [← e6]; exact x_up_at
  refine x_getC (np := 14) (x := 785) (f := 17) (q := v2) (by decide +kernel) (by decide) (by decide +kernel) q8 (fun l9 => ?_)
  refine x_const (np := 17) (x := 9223457938348199456) (a := 2147503648) (by decide +kernel) (by decide) (by decide) ?_
  refine x_icmp (k := 5) (tg := 28) (np := 20) (by decide +kernel) (by decide) l3 (by decide) (fun q10 => ?_) (fun q11 => ?_)
  · have q10 : v2 ≤ 2147503648 := q10
    refine x_aload (np := 29) (x := 0) (by decide +kernel) rfl (x_nc_le (by decide)) ?_
    refine x_vI (P := fun r9 h9 => X sc 274 _ _ 0 0 32 [x_r 63, iv_c 2147483648] (iv_c r9 :: []) h9) (np := 32) (x := 5246979) (kk := 3) (cls := 4) (mj := 56) (ml := 1) (nr := 0) (rest := []) (lo1 := [x_r 63]) (by decide +kernel) (by decide) (by decide) (by decide) (by decide +kernel) (by decide +kernel) (by decide) (by decide +kernel) (by decide +kernel) x_wn (by decide) rfl ?_ (fun _ _ _ z => z)
    refine x_aload (np := 1) (x := 0) (by decide +kernel) rfl (x_nc_le (by decide)) ?_
    refine x_cI (t := 6) (mj := 57) (n := 1) (rc := 5) (ml := 5) (nr := 0) (np := 4) (as := [x_r 63]) (rest := []) (lo1 := [x_r 63, 147573952589676412928, 147573952589676412928, 147573952589676412928, 147573952589676412928]) (by decide +kernel) (by decide) (by decide +kernel) (x_rb_of (by decide +kernel)) rfl rfl (x_wr (by decide) x_wn) x_wn (by decide) rfl (c57_63 j5 ) (fun v12 h15 l13 q14 => ?_)
    obtain ⟨j16, f17, b18⟩ := q14
    have f19 := Fr.trans f7 f17 (by decide)
    refine x_ifz (k := 1) (tg := 14) (np := 7) (by decide +kernel) (by decide) l13 (fun q20 => ?_) (fun q21 => ?_)
    · have q20 : v12 ≠ 2147483648 := q20
      refine x_const (np := 15) (x := 9223372043297226753) (a := 2147483649) (by decide +kernel) (by decide) (by decide) ?_
      refine x_goto (np := 18) (x := 19) (by decide +kernel) ?_
      refine x_retI (np := 20) (x := 0) (by decide +kernel) (by decide) (Or.inr ⟨by decide +kernel, by first | decide | omega, by first | decide | omega⟩) ⟨_, rfl, (by decide), ?_⟩
      refine x_ifz (k := 1) (tg := 43) (np := 35) (by decide +kernel) (by decide) (by decide) (fun q22 => ?_) (fun q23 => ?_)
      · have q22 : 2147483649 ≠ 2147483648 := q22
        refine x_iload (np := 44) (x := 1) (by decide +kernel) rfl (by decide) ?_
        refine x_aload (np := 45) (x := 0) (by decide +kernel) rfl (x_nc_le (by decide)) ?_
        refine x_getC (np := 48) (x := 784) (f := 16) (q := (h15 63 16)) (by decide +kernel) (by decide) (by decide +kernel) rfl (fun l24 => ?_)
        refine x_icmp (k := 3) (tg := 61) (np := 51) (by decide +kernel) (by decide) (by decide) l24 (fun q25 => ?_) (fun q26 => ?_)
        · have q25 : (h15 63 16) ≤ 2147483648 := q25
          refine x_retV (np := 62) (x := 0) (by decide +kernel) (by decide +kernel) ⟨rfl, ?_⟩
          exact ⟨j16, f19⟩
        have q26 : ¬ ((h15 63 16) ≤ 2147483648) := q26
        refine x_iload (np := 52) (x := 1) (by decide +kernel) rfl (by decide) ?_
        refine x_const (np := 53) (x := 9223372060477095941) (a := 2147483653) (by decide +kernel) (by decide) (by decide) ?_
        refine x_icmp (k := 3) (tg := 61) (np := 56) (by decide +kernel) (by decide) (by decide) (by decide) (fun q27 => ?_) (fun q28 => ?_)
        · have q27 : 2147483653 ≤ 2147483648 := q27
          exfalso; omega
        have q28 : ¬ (2147483653 ≤ 2147483648) := q28
        refine x_aload (np := 57) (x := 0) (by decide +kernel) rfl (x_nc_le (by decide)) ?_
        refine x_iload (np := 58) (x := 1) (by decide +kernel) rfl (by decide) ?_
        refine x_cV (t := 8) (mj := 275) (n := 2) (rc := 13) (ml := 8) (nr := 0) (np := 61) (as := [x_r 63, iv_c 2147483648]) (rest := []) (lo1 := [x_r 63, iv_c 2147483648, 147573952589676412928, 147573952589676412928, 147573952589676412928, 147573952589676412928, 147573952589676412928, 147573952589676412928]) (by decide +kernel) (by decide) (by decide +kernel) (x_rb_of (by decide +kernel)) rfl rfl (x_wr (by decide) (x_wi (by decide) x_wn)) x_wn (by decide) rfl (c275_63_c0 j16  ) (fun h32 q31 => ?_)
        obtain ⟨j33, f34⟩ := q31
        have f37 := Fr.trans f19 f34 (by decide)
        refine x_retV (np := 62) (x := 0) (by decide +kernel) (by decide +kernel) ⟨rfl, ?_⟩
        exact ⟨j33, f37⟩
      have q23 : ¬ (2147483649 ≠ 2147483648) := q23
      exfalso; omega
    have q21 : ¬ (v12 ≠ 2147483648) := q21
    refine x_aload (np := 8) (x := 0) (by decide +kernel) rfl (x_nc_le (by decide)) ?_
    refine x_cI (t := 6) (mj := 58) (n := 1) (rc := 5) (ml := 4) (nr := 0) (np := 11) (as := [x_r 63]) (rest := []) (lo1 := [x_r 63, 147573952589676412928, 147573952589676412928, 147573952589676412928]) (by decide +kernel) (by decide) (by decide +kernel) (x_rb_of (by decide +kernel)) rfl rfl (x_wr (by decide) x_wn) x_wn (by decide) rfl (c58_63 j16 ) (fun v38 h41 l39 q40 => ?_)
    obtain ⟨j42, f43, b44⟩ := q40
    have f45 := Fr.trans f19 f43 (by decide)
    refine x_ifz (k := 0) (tg := 18) (np := 14) (by decide +kernel) (by decide) l39 (fun q46 => ?_) (fun q47 => ?_)
    · have q46 : v38 = 2147483648 := q46
      refine x_const (np := 19) (x := 9223372039002259456) (a := 2147483648) (by decide +kernel) (by decide) (by decide) ?_
      refine x_retI (np := 20) (x := 0) (by decide +kernel) (by decide) (Or.inr ⟨by decide +kernel, by first | decide | omega, by first | decide | omega⟩) ⟨_, rfl, (by decide), ?_⟩
      refine x_ifz (k := 1) (tg := 43) (np := 35) (by decide +kernel) (by decide) (by decide) (fun q48 => ?_) (fun q49 => ?_)
      · have q48 : 2147483648 ≠ 2147483648 := q48
        exfalso; omega
      have q49 : ¬ (2147483648 ≠ 2147483648) := q49
      refine x_aload (np := 36) (x := 0) (by decide +kernel) rfl (x_nc_le (by decide)) ?_
      refine x_iload (np := 37) (x := 1) (by decide +kernel) rfl (by decide) ?_
      refine x_cV (t := 8) (mj := 279) (n := 2) (rc := 13) (ml := 4) (nr := 0) (np := 40) (as := [x_r 63, iv_c 2147483648]) (rest := []) (lo1 := [x_r 63, iv_c 2147483648, 147573952589676412928, 147573952589676412928]) (by decide +kernel) (by decide) (by decide +kernel) (x_rb_of (by decide +kernel)) rfl rfl (x_wr (by decide) (x_wi (by decide) x_wn)) x_wn (by decide) rfl (c279_63_c0 j42  ) (fun h53 q52 => ?_)
      obtain ⟨j54, f55⟩ := q52
      have f58 := Fr.trans f45 f55 (by decide)
      refine x_goto (np := 43) (x := 61) (by decide +kernel) ?_
      refine x_retV (np := 62) (x := 0) (by decide +kernel) (by decide +kernel) ⟨rfl, ?_⟩
      exact ⟨j54, f58⟩
    have q47 : ¬ (v38 = 2147483648) := q47
    refine x_const (np := 15) (x := 9223372043297226753) (a := 2147483649) (by decide +kernel) (by decide) (by decide) ?_
    refine x_goto (np := 18) (x := 19) (by decide +kernel) ?_
    refine x_retI (np := 20) (x := 0) (by decide +kernel) (by decide) (Or.inr ⟨by decide +kernel, by first | decide | omega, by first | decide | omega⟩) ⟨_, rfl, (by decide), ?_⟩
    refine x_ifz (k := 1) (tg := 43) (np := 35) (by decide +kernel) (by decide) (by decide) (fun q59 => ?_) (fun q60 => ?_)
    · have q59 : 2147483649 ≠ 2147483648 := q59
      refine x_iload (np := 44) (x := 1) (by decide +kernel) rfl (by decide) ?_
      refine x_aload (np := 45) (x := 0) (by decide +kernel) rfl (x_nc_le (by decide)) ?_
      refine x_getC (np := 48) (x := 784) (f := 16) (q := (h41 63 16)) (by decide +kernel) (by decide) (by decide +kernel) rfl (fun l61 => ?_)
      refine x_icmp (k := 3) (tg := 61) (np := 51) (by decide +kernel) (by decide) (by decide) l61 (fun q62 => ?_) (fun q63 => ?_)
      · have q62 : (h41 63 16) ≤ 2147483648 := q62
        refine x_retV (np := 62) (x := 0) (by decide +kernel) (by decide +kernel) ⟨rfl, ?_⟩
        exact ⟨j42, f45⟩
      have q63 : ¬ ((h41 63 16) ≤ 2147483648) := q63
      refine x_iload (np := 52) (x := 1) (by decide +kernel) rfl (by decide) ?_
      refine x_const (np := 53) (x := 9223372060477095941) (a := 2147483653) (by decide +kernel) (by decide) (by decide) ?_
      refine x_icmp (k := 3) (tg := 61) (np := 56) (by decide +kernel) (by decide) (by decide) (by decide) (fun q64 => ?_) (fun q65 => ?_)
      · have q64 : 2147483653 ≤ 2147483648 := q64
        exfalso; omega
      have q65 : ¬ (2147483653 ≤ 2147483648) := q65
      refine x_aload (np := 57) (x := 0) (by decide +kernel) rfl (x_nc_le (by decide)) ?_
      refine x_iload (np := 58) (x := 1) (by decide +kernel) rfl (by decide) ?_
      refine x_cV (t := 8) (mj := 275) (n := 2) (rc := 13) (ml := 8) (nr := 0) (np := 61) (as := [x_r 63, iv_c 2147483648]) (rest := []) (lo1 := [x_r 63, iv_c 2147483648, 147573952589676412928, 147573952589676412928, 147573952589676412928, 147573952589676412928, 147573952589676412928, 147573952589676412928]) (by decide +kernel) (by decide) (by decide +kernel) (x_rb_of (by decide +kernel)) rfl rfl (x_wr (by decide) (x_wi (by decide) x_wn)) x_wn (by decide) rfl (c275_63_c0 j42  ) (fun h69 q68 => ?_)
      obtain ⟨j70, f71⟩ := q68
      have f74 := Fr.trans f45 f71 (by decide)
      refine x_retV (np := 62) (x := 0) (by decide +kernel) (by decide +kernel) ⟨rfl, ?_⟩
      exact ⟨j70, f74⟩
    have q60 : ¬ (2147483649 ≠ 2147483648) := q60
    exfalso; omega
  have q11 : ¬ (v2 ≤ 2147503648) := q11
  refine x_aload (np := 21) (x := 0) (by decide +kernel) rfl (x_nc_le (by decide)) ?_
  refine x_const (np := 22) (x := 9223372043297226753) (a := 2147483649) (by decide +kernel) (by decide) (by decide) ?_
  refine x_putI (np := 25) (x := 4873) (f := 9) (by decide +kernel) (by decide +kernel) (by decide) (Or.inr ⟨by decide, by first | decide | omega, by first | decide | omega⟩) ?_
  have j76 := jU (e := 9) (v := 2147483649) 0 j5 rg_63_9_0_1 (by first | decide | omega) (by first | decide | omega) (by first | decide | omega)
  have f78 := jF (e := 9) (v := 2147483649) 0 f7 rg_63_9_0_1 (by first | decide | omega) (by first | decide | omega) (by decide)
  generalize e77 : x_up h4 63 9 2147483649 = h75 at j76 f78 ⊢
  refine x_goto (np := 28) (x := 61) (by decide +kernel) ?_
  refine x_retV (np := 62) (x := 0) (by decide +kernel) (by decide +kernel) ⟨rfl, ?_⟩
  exact ⟨j76, f78⟩
set_option maxHeartbeats 0 in
/-- LentNames$Search.ask(I)V -/
theorem c271_63 {sc : Nat × Nat} {d a1 : Nat} {h : xh} (hJ : J h) (ba1 : 2147483648 ≤ a1 ∧ a1 ≤ 2147483660) : X sc 271 (d + 24) (xV fun h' => J h' ∧ Fr 32769 h h') 0 0 0 [x_r 63, iv_c a1, 147573952589676412928] [] h := by
  have la1 : a1 < 4294967296 := by first | decide | omega
  have hF := Fr.refl 32769 h
  refine x_aload (np := 1) (x := 0) (by decide +kernel) rfl (x_nc_le (by decide)) ?_
  have b1 := jB (e := 14) 0 hJ rg_63_14_0_1 (by first | decide | omega) (by first | decide | omega)
  refine x_getC (np := 4) (x := 782) (f := 14) (q := (h 63 14)) (by decide +kernel) (by decide) (by decide +kernel) rfl (fun l2 => ?_)
  refine x_ifz (k := 0) (tg := 16) (np := 7) (by decide +kernel) (by decide) l2 (fun q3 => ?_) (fun q4 => ?_)
  · have q3 : (h 63 14) = 2147483648 := q3
    refine x_aload (np := 17) (x := 0) (by decide +kernel) rfl (x_nc_le (by decide)) ?_
    refine x_aload (np := 18) (x := 0) (by decide +kernel) rfl (x_nc_le (by decide)) ?_
    have q5 : h 63 5 = 45 := by have z := jB (e := 5) 0 hJ rg_63_5_0_1 (by decide) (by decide); omega
    refine x_getR (np := 21) (x := 773) (f := 5) (q := 45) (by decide +kernel) (by decide) (by decide +kernel) q5 ?_
    have t6 : tw (h 45 5) := hJ.2.2.2.1
    refine x_getR (np := 24) (x := 69) (f := 5) (q := (h 45 5)) (by decide +kernel) (by decide) (by decide +kernel) rfl ?_
    refine x_putR (np := 27) (x := 8966) (f := 6) (by decide +kernel) (by decide +kernel) (tn_0 t6) (by decide) ?_
    have j8 := J_upW (k := 63) (i := 6) hJ t6 (by decide)
    have f10 := Fr.up (k := 63) (i := 6) (v := (h 45 5)) hF (by decide +kernel)
    generalize e9 : x_up h 63 6 (h 45 5) = h7 at j8 f10 ⊢
    refine x_aload (np := 28) (x := 0) (by decide +kernel) rfl (x_nc_le (by decide)) ?_
    refine x_iload (np := 29) (x := 1) (by decide +kernel) rfl la1 ?_
    refine x_putI (np := 32) (x := 775) (f := 7) (by decide +kernel) (by decide +kernel) la1 (Or.inl (by decide)) ?_
    have j12 := jU (e := 7) (v := a1) 0 j8 rg_63_7_0_1 (by first | decide | omega) (by first | decide | omega) (by first | decide | omega)
    have f14 := jF (e := 7) (v := a1) 0 f10 rg_63_7_0_1 (by first | decide | omega) (by first | decide | omega) (by decide)
    generalize e13 : x_up h7 63 7 a1 = h11 at j12 f14 ⊢
    refine x_aload (np := 33) (x := 0) (by decide +kernel) rfl (x_nc_le (by decide)) ?_
    have q15 : h11 63 5 = 45 := by have z := jB (e := 5) 0 j12 rg_63_5_0_1 (by decide) (by decide); omega
    refine x_getR (np := 36) (x := 773) (f := 5) (q := 45) (by decide +kernel) (by decide) (by decide +kernel) q15 ?_
    have q16 : h11 45 1 = 47 := by have z := jB (e := 1) 0 j12 rg_45_1_0_1 (by decide) (by decide); omega
    refine x_getR (np := 39) (x := 65) (f := 1) (q := 47) (by decide +kernel) (by decide) (by decide +kernel) q16 ?_
    refine x_const (np := 40) (x := 9223372039002259456) (a := 2147483648) (by decide +kernel) (by decide) (by decide) ?_
    refine x_aload (np := 41) (x := 0) (by decide +kernel) rfl (x_nc_le (by decide)) ?_
    have q17 : h11 63 0 = 64 := by have z := jB (e := 0) 0 j12 rg_63_0_0_1 (by decide) (by decide); omega
    refine x_getR (np := 44) (x := 768) (f := 0) (q := 64) (by decide +kernel) (by decide) (by decide +kernel) q17 ?_
    refine x_const (np := 45) (x := 9223372039002259456) (a := 2147483648) (by decide +kernel) (by decide) (by decide) ?_
    refine x_aload (np := 46) (x := 0) (by decide +kernel) rfl (x_nc_le (by decide)) ?_
    have q18 : h11 63 0 = 64 := by have z := jB (e := 0) 0 j12 rg_63_0_0_1 (by decide) (by decide); omega
    refine x_getR (np := 49) (x := 768) (f := 0) (q := 64) (by decide +kernel) (by decide) (by decide +kernel) q18 ?_
    refine x_alen (np := 50) (x := 0) (n := 36) (by decide +kernel) (by decide) (by decide +kernel) (by decide +kernel) (by decide) ?_
    show X _ _ _ _ _ _ _ _ [iv_c 2147483684, iv_c 2147483648, x_r 64, iv_c 2147483648, x_r 47] _
    refine x_copy (np := 53) (q := 64) (r := 47) (N := 36) (nq := 36) (nr := 36) (n8 := 0) (by decide +kernel) (by decide +kernel) (by decide +kernel) (by decide) (by decide) (by decide) (by decide) x_wn (by decide) ?_
    have j20 := J_cp (q := 64) (r := 47) (N := 36) j12 (by decide) (by decide +kernel) (by decide +kernel) (by decide +kernel)
    have f21 := Fr_cp (q := 64) (r := 47) (N := 36) (Fr.refl 32768 h11) (fun i _ => show Nat.testBit 32768 15 = true by decide)
    generalize e22 : x_cp h11 64 47 36 = h19 at j20 f21 ⊢
    have f23 := Fr.trans f14 f21 (by decide)
    refine x_const (np := 54) (x := 9223372039002259456) (a := 2147483648) (by decide +kernel) (by decide) (by decide) ?_
    refine x_istore (np := 55) (x := 2) (lo' := [x_r 63, iv_c a1, iv_c 2147483648]) (by decide +kernel) (by decide) (Nat.le_of_ble_eq_true rfl) rfl ?_
    have p116 : ∀ (n : Nat) (v111 : Nat) (h113 : xh), 4294967296 - v111 < n → (2147483648 ≤ v111 ∧ v111 ≤ 2147483654) → J h113 → Fr 32768 h19 h113 → X sc 271 (d + 24) (xV fun h' => J h' ∧ Fr 32769 h h') 0 0 55 [x_r 63, iv_c a1, iv_c v111] [] h113 := by
      intro n
      induction n with
      | zero => intro v111 h113 q117; exact absurd q117 (Nat.not_lt_zero _)
      | succ n i118 =>
        intro v111 h113 q117 b112 j115 f114
        have f119 := Fr.trans f23 f114 (by decide)
        refine x_iload (np := 56) (x := 2) (by decide +kernel) rfl (by first | decide | omega) ?_
        refine x_const (np := 58) (x := 9223372064772063238) (a := 2147483654) (by decide +kernel) (by decide) (by decide) ?_
        refine x_icmp (k := 3) (tg := 74) (np := 61) (by decide +kernel) (by decide) (by first | decide | omega) (by decide) (fun q120 => ?_) (fun q121 => ?_)
        · have q120 : 2147483654 ≤ v111 := q120
          refine x_aload (np := 75) (x := 0) (by decide +kernel) rfl (x_nc_le (by decide)) ?_
          refine x_const (np := 76) (x := 9223372039002259456) (a := 2147483648) (by decide +kernel) (by decide) (by decide) ?_
          refine x_putI (np := 79) (x := 776) (f := 8) (by decide +kernel) (by decide +kernel) (by decide) (Or.inl (by decide)) ?_
          have j123 := jU (e := 8) (v := 2147483648) 0 j115 rg_63_8_0_1 (by first | decide | omega) (by first | decide | omega) (by first | decide | omega)
          have f125 := jF (e := 8) (v := 2147483648) 0 f119 rg_63_8_0_1 (by first | decide | omega) (by first | decide | omega) (by decide)
          generalize e124 : x_up h113 63 8 2147483648 = h122 at j123 f125 ⊢
          refine x_aload (np := 80) (x := 0) (by decide +kernel) rfl (x_nc_le (by decide)) ?_
          refine x_const (np := 81) (x := 9223372039002259456) (a := 2147483648) (by decide +kernel) (by decide) (by decide) ?_
          refine x_putI (np := 84) (x := 783) (f := 15) (by decide +kernel) (by decide +kernel) (by decide) (Or.inl (by decide)) ?_
          have j127 := jU (e := 15) (v := 2147483648) 0 j123 rg_63_15_0_1 (by first | decide | omega) (by first | decide | omega) (by first | decide | omega)
          have f129 := jF (e := 15) (v := 2147483648) 0 f125 rg_63_15_0_1 (by first | decide | omega) (by first | decide | omega) (by decide)
          generalize e128 : x_up h122 63 15 2147483648 = h126 at j127 f129 ⊢
          refine x_aload (np := 85) (x := 0) (by decide +kernel) rfl (x_nc_le (by decide)) ?_
          refine x_const (np := 86) (x := 9223372039002259456) (a := 2147483648) (by decide +kernel) (by decide) (by decide) ?_
          refine x_putI (np := 89) (x := 785) (f := 17) (by decide +kernel) (by decide +kernel) (by decide) (Or.inl (by decide)) ?_
          have j131 := jU (e := 17) (v := 2147483648) 0 j127 rg_63_17_0_1 (by first | decide | omega) (by first | decide | omega) (by first | decide | omega)
          have f133 := jF (e := 17) (v := 2147483648) 0 f129 rg_63_17_0_1 (by first | decide | omega) (by first | decide | omega) (by decide)
          generalize e132 : x_up h126 63 17 2147483648 = h130 at j131 f133 ⊢
          refine x_aload (np := 90) (x := 0) (by decide +kernel) rfl (x_nc_le (by decide)) ?_
          refine x_const (np := 91) (x := 9223372039002259456) (a := 2147483648) (by decide +kernel) (by decide) (by decide) ?_
          refine x_putI (np := 94) (x := 4873) (f := 9) (by decide +kernel) (by decide +kernel) (by decide) (Or.inr ⟨by decide, by first | decide | omega, by first | decide | omega⟩) ?_
          have j135 := jU (e := 9) (v := 2147483648) 0 j131 rg_63_9_0_1 (by first | decide | omega) (by first | decide | omega) (by first | decide | omega)
          have f137 := jF (e := 9) (v := 2147483648) 0 f133 rg_63_9_0_1 (by first | decide | omega) (by first | decide | omega) (by decide)
          generalize e136 : x_up h130 63 9 2147483648 = h134 at j135 f137 ⊢
          refine x_aload (np := 95) (x := 0) (by decide +kernel) rfl (x_nc_le (by decide)) ?_
          refine x_vV (np := 98) (x := 5246978) (kk := 2) (cls := 4) (mj := 55) (ml := 2) (nr := 0) (rest := []) (lo1 := [x_r 63, 147573952589676412928]) (by decide +kernel) (by decide) (by decide) (by decide) (by decide +kernel) (by decide +kernel) (by decide) (by decide +kernel) (by decide +kernel) x_wn (by decide) rfl (c55_63 j135) (fun h141 q140 => ?_)
          obtain ⟨j142, f143⟩ := q140
          have f144 := Fr.trans f137 f143 (by decide)
          refine x_const (np := 99) (x := 9223372039002259456) (a := 2147483648) (by decide +kernel) (by decide) (by decide) ?_
          refine x_istore (np := 100) (x := 2) (lo' := [x_r 63, iv_c a1, iv_c 2147483648]) (by decide +kernel) (by decide) (Nat.le_of_ble_eq_true rfl) rfl ?_
          have p321 : ∀ (n : Nat) (v316 : Nat) (h318 : xh), 4294967296 - v316 < n → (2147483648 ≤ v316 ∧ v316 ≤ 2147483654) → J h318 → Fr 32769 h141 h318 → X sc 271 (d + 24) (xV fun h' => J h' ∧ Fr 32769 h h') 0 0 100 [x_r 63, iv_c a1, iv_c v316] [] h318 := by
            intro n
            induction n with
            | zero => intro v316 h318 q322; exact absurd q322 (Nat.not_lt_zero _)
            | succ n i323 =>
              intro v316 h318 q322 b317 j320 f319
              have f324 := Fr.trans f144 f319 (by decide)
              refine x_iload (np := 101) (x := 2) (by decide +kernel) rfl (by first | decide | omega) ?_
              refine x_aload (np := 102) (x := 0) (by decide +kernel) rfl (x_nc_le (by decide)) ?_
              refine x_vI (P := fun r9 h9 => X sc 271 _ _ 0 0 105 [x_r 63, iv_c a1, iv_c v316] (iv_c r9 :: [iv_c v316]) h9) (np := 105) (x := 5246976) (kk := 0) (cls := 4) (mj := 53) (ml := 1) (nr := 1) (rest := [iv_c v316]) (lo1 := [x_r 63]) (by decide +kernel) (by decide) (by decide) (by decide) (by decide +kernel) (by decide +kernel) (by decide) (by decide +kernel) (by decide +kernel) (x_wi (by first | decide | omega) x_wn) (by decide) rfl ?_ (fun _ _ _ z => z)
              refine x_const (np := 1) (x := 9223372060477095941) (a := 2147483653) (by decide +kernel) (by decide) (by decide) ?_
              refine x_retI (np := 2) (x := 0) (by decide +kernel) (by decide) (Or.inl (by decide +kernel)) ⟨_, rfl, (by decide), ?_⟩
              refine x_icmp (k := 4) (tg := 138) (np := 108) (by decide +kernel) (by decide) (by first | decide | omega) (by decide) (fun q325 => ?_) (fun q326 => ?_)
              · have q325 : 2147483653 < v316 := q325
                refine x_aload (np := 139) (x := 0) (by decide +kernel) rfl (x_nc_le (by decide)) ?_
                refine x_const (np := 140) (x := 9223372043297226753) (a := 2147483649) (by decide +kernel) (by decide) (by decide) ?_
                refine x_putI (np := 143) (x := 4878) (f := 14) (by decide +kernel) (by decide +kernel) (by decide) (Or.inr ⟨by decide, by first | decide | omega, by first | decide | omega⟩) ?_
                have j328 := jU (e := 14) (v := 2147483649) 0 j320 rg_63_14_0_1 (by first | decide | omega) (by first | decide | omega) (by first | decide | omega)
                have f330 := jF (e := 14) (v := 2147483649) 0 f324 rg_63_14_0_1 (by first | decide | omega) (by first | decide | omega) (by decide)
                generalize e329 : x_up h318 63 14 2147483649 = h327 at j328 f330 ⊢
                refine x_retV (np := 144) (x := 0) (by decide +kernel) (by decide +kernel) ⟨rfl, ?_⟩
                exact ⟨j328, f330⟩
              have q326 : ¬ (2147483653 < v316) := q326
              refine x_aload (np := 109) (x := 0) (by decide +kernel) rfl (x_nc_le (by decide)) ?_
              refine x_getC (np := 112) (x := 776) (f := 8) (q := (h318 63 8)) (by decide +kernel) (by decide) (by decide +kernel) rfl (fun l331 => ?_)
              refine x_ifz (k := 1) (tg := 138) (np := 115) (by decide +kernel) (by decide) l331 (fun q332 => ?_) (fun q333 => ?_)
              · have q332 : (h318 63 8) ≠ 2147483648 := q332
                refine x_aload (np := 139) (x := 0) (by decide +kernel) rfl (x_nc_le (by decide)) ?_
                refine x_const (np := 140) (x := 9223372043297226753) (a := 2147483649) (by decide +kernel) (by decide) (by decide) ?_
                refine x_putI (np := 143) (x := 4878) (f := 14) (by decide +kernel) (by decide +kernel) (by decide) (Or.inr ⟨by decide, by first | decide | omega, by first | decide | omega⟩) ?_
                have j335 := jU (e := 14) (v := 2147483649) 0 j320 rg_63_14_0_1 (by first | decide | omega) (by first | decide | omega) (by first | decide | omega)
                have f337 := jF (e := 14) (v := 2147483649) 0 f324 rg_63_14_0_1 (by first | decide | omega) (by first | decide | omega) (by decide)
                generalize e336 : x_up h318 63 14 2147483649 = h334 at j335 f337 ⊢
                refine x_retV (np := 144) (x := 0) (by decide +kernel) (by decide +kernel) ⟨rfl, ?_⟩
                exact ⟨j335, f337⟩
              have q333 : ¬ ((h318 63 8) ≠ 2147483648) := q333
              refine x_aload (np := 116) (x := 0) (by decide +kernel) rfl (x_nc_le (by decide)) ?_
              have b338 := jB (e := 9) 0 j320 rg_63_9_0_1 (by first | decide | omega) (by first | decide | omega)
              refine x_getC (np := 119) (x := 777) (f := 9) (q := (h318 63 9)) (by decide +kernel) (by decide) (by decide +kernel) rfl (fun l339 => ?_)
              refine x_ifz (k := 1) (tg := 138) (np := 122) (by decide +kernel) (by decide) l339 (fun q340 => ?_) (fun q341 => ?_)
              · have q340 : (h318 63 9) ≠ 2147483648 := q340
                refine x_aload (np := 139) (x := 0) (by decide +kernel) rfl (x_nc_le (by decide)) ?_
                refine x_const (np := 140) (x := 9223372043297226753) (a := 2147483649) (by decide +kernel) (by decide) (by decide) ?_
                refine x_putI (np := 143) (x := 4878) (f := 14) (by decide +kernel) (by decide +kernel) (by decide) (Or.inr ⟨by decide, by first | decide | omega, by first | decide | omega⟩) ?_
                have j343 := jU (e := 14) (v := 2147483649) 0 j320 rg_63_14_0_1 (by first | decide | omega) (by first | decide | omega) (by first | decide | omega)
                have f345 := jF (e := 14) (v := 2147483649) 0 f324 rg_63_14_0_1 (by first | decide | omega) (by first | decide | omega) (by decide)
                generalize e344 : x_up h318 63 14 2147483649 = h342 at j343 f345 ⊢
                refine x_retV (np := 144) (x := 0) (by decide +kernel) (by decide +kernel) ⟨rfl, ?_⟩
                exact ⟨j343, f345⟩
              have q341 : ¬ ((h318 63 9) ≠ 2147483648) := q341
              refine x_aload (np := 123) (x := 0) (by decide +kernel) rfl (x_nc_le (by decide)) ?_
              refine x_iload (np := 124) (x := 2) (by decide +kernel) rfl (by first | decide | omega) ?_
              refine x_putI (np := 127) (x := 784) (f := 16) (by decide +kernel) (by decide +kernel) (by first | decide | omega) (Or.inl (by decide)) ?_
              have j347 := jU (e := 16) (v := v316) 0 j320 rg_63_16_0_1 (by first | decide | omega) (by first | decide | omega) (by first | decide | omega)
              have f349 := jF (e := 16) (v := v316) 0 f324 rg_63_16_0_1 (by first | decide | omega) (by first | decide | omega) (by decide)
              have f350 := jF (e := 16) (v := v316) 0 f319 rg_63_16_0_1 (by first | decide | omega) (by first | decide | omega) (by decide)
              generalize e348 : x_up h318 63 16 v316 = h346 at j347 f349 f350 ⊢
              refine x_aload (np := 128) (x := 0) (by decide +kernel) rfl (x_nc_le (by decide)) ?_
              refine x_const (np := 129) (x := 9223372039002259456) (a := 2147483648) (by decide +kernel) (by decide) (by decide) ?_
              refine x_cV (t := 8) (mj := 274) (n := 2) (rc := 13) (ml := 2) (nr := 0) (np := 132) (as := [x_r 63, iv_c 2147483648]) (rest := []) (lo1 := [x_r 63, iv_c 2147483648]) (by decide +kernel) (by decide) (by decide +kernel) (x_rb_of (by decide +kernel)) rfl rfl (x_wr (by decide) (x_wi (by decide) x_wn)) x_wn (by decide) rfl (c274_63_c0 j347  ) (fun h354 q353 => ?_)
              obtain ⟨j355, f356⟩ := q353
              have f359 := Fr.trans f349 f356 (by decide)
              have f360 := Fr.trans f350 f356 (by decide)
              refine x_iinc (np := 135) (i := 2) (j := 2147483649) (v := (1 + v316)) (lo' := [x_r 63, iv_c a1, iv_c (1 + v316)]) (by decide +kernel) (by decide) (by decide) rfl (by first | decide | omega) (by first | decide | omega) (by first | decide | omega) rfl ?_
              refine x_goto (np := 138) (x := 100) (by decide +kernel) ?_
              exact i323 (1 + v316) h354 (by first | decide | omega) (by first | decide | omega) j355 f360
          exact p321 _ 2147483648 h141 (Nat.lt_succ_self _) (by first | decide | omega) j142 (Fr.refl _ _)
        have q121 : ¬ (2147483654 ≤ v111) := q121
        refine x_aload (np := 62) (x := 0) (by decide +kernel) rfl (x_nc_le (by decide)) ?_
        have q361 : h113 63 2 = 66 := by have z := jB (e := 2) 0 j115 rg_63_2_0_1 (by decide) (by decide); omega
        refine x_getR (np := 65) (x := 770) (f := 2) (q := 66) (by decide +kernel) (by decide) (by decide +kernel) q361 ?_
        refine x_iload (np := 66) (x := 2) (by decide +kernel) rfl (by first | decide | omega) ?_
        refine x_const (np := 67) (x := 9223372039002259456) (a := 2147483648) (by decide +kernel) (by decide) (by decide) ?_
        obtain ⟨u362, q363⟩ : ∃ z, v111 = 2147483648 + z := ⟨v111 - 2147483648, by first | decide | omega⟩
        refine x_ast (np := 68) (x := 0) (kd := 1) (n := 6) (i := u362) (by decide +kernel) (Or.inl rfl) (by decide +kernel) (by first | decide | omega) (by first | decide | omega) (by decide) (by decide) (fun z => absurd z (by decide)) ?_
        have j365 := jU (e := u362) (v := 2147483648) u362 j115 rg_66_0_1_6 (by first | decide | omega) (by first | decide | omega) (by first | decide | omega)
        have f367 := jF (e := u362) (v := 2147483648) u362 f119 rg_66_0_1_6 (by first | decide | omega) (by first | decide | omega) (by decide)
        have f368 := jF (e := u362) (v := 2147483648) u362 f114 rg_66_0_1_6 (by first | decide | omega) (by first | decide | omega) (by decide)
        generalize e366 : x_up h113 66 u362 2147483648 = h364 at j365 f367 f368 ⊢
        refine x_iinc (np := 71) (i := 2) (j := 2147483649) (v := (1 + v111)) (lo' := [x_r 63, iv_c a1, iv_c (1 + v111)]) (by decide +kernel) (by decide) (by decide) rfl (by first | decide | omega) (by first | decide | omega) (by first | decide | omega) rfl ?_
        refine x_goto (np := 74) (x := 55) (by decide +kernel) ?_
        exact i118 (1 + v111) h364 (by first | decide | omega) (by first | decide | omega) j365 f368
    exact p116 _ 2147483648 h19 (Nat.lt_succ_self _) (by first | decide | omega) j20 (Fr.refl _ _)
  have q4 : ¬ ((h 63 14) = 2147483648) := q4
  refine x_aload (np := 8) (x := 0) (by decide +kernel) rfl (x_nc_le (by decide)) ?_
  refine x_getC (np := 11) (x := 775) (f := 7) (q := (h 63 7)) (by decide +kernel) (by decide) (by decide +kernel) rfl (fun l369 => ?_)
  refine x_iload (np := 12) (x := 1) (by decide +kernel) rfl la1 ?_
  refine x_icmp (k := 1) (tg := 16) (np := 15) (by decide +kernel) (by decide) l369 la1 (fun q370 => ?_) (fun q371 => ?_)
  · have q370 : (h 63 7) ≠ a1 := q370
    refine x_aload (np := 17) (x := 0) (by decide +kernel) rfl (x_nc_le (by decide)) ?_
    refine x_aload (np := 18) (x := 0) (by decide +kernel) rfl (x_nc_le (by decide)) ?_
    have q372 : h 63 5 = 45 := by have z := jB (e := 5) 0 hJ rg_63_5_0_1 (by decide) (by decide); omega
    refine x_getR (np := 21) (x := 773) (f := 5) (q := 45) (by decide +kernel) (by decide) (by decide +kernel) q372 ?_
    have t373 : tw (h 45 5) := hJ.2.2.2.1
    refine x_getR (np := 24) (x := 69) (f := 5) (q := (h 45 5)) (by decide +kernel) (by decide) (by decide +kernel) rfl ?_
    refine x_putR (np := 27) (x := 8966) (f := 6) (by decide +kernel) (by decide +kernel) (tn_0 t373) (by decide) ?_
    have j375 := J_upW (k := 63) (i := 6) hJ t373 (by decide)
    have f377 := Fr.up (k := 63) (i := 6) (v := (h 45 5)) hF (by decide +kernel)
    generalize e376 : x_up h 63 6 (h 45 5) = h374 at j375 f377 ⊢
    refine x_aload (np := 28) (x := 0) (by decide +kernel) rfl (x_nc_le (by decide)) ?_
    refine x_iload (np := 29) (x := 1) (by decide +kernel) rfl la1 ?_
    refine x_putI (np := 32) (x := 775) (f := 7) (by decide +kernel) (by decide +kernel) la1 (Or.inl (by decide)) ?_
    have j379 := jU (e := 7) (v := a1) 0 j375 rg_63_7_0_1 (by first | decide | omega) (by first | decide | omega) (by first | decide | omega)
    have f381 := jF (e := 7) (v := a1) 0 f377 rg_63_7_0_1 (by first | decide | omega) (by first | decide | omega) (by decide)
    generalize e380 : x_up h374 63 7 a1 = h378 at j379 f381 ⊢
    refine x_aload (np := 33) (x := 0) (by decide +kernel) rfl (x_nc_le (by decide)) ?_
    have q382 : h378 63 5 = 45 := by have z := jB (e := 5) 0 j379 rg_63_5_0_1 (by decide) (by decide); omega
    refine x_getR (np := 36) (x := 773) (f := 5) (q := 45) (by decide +kernel) (by decide) (by decide +kernel) q382 ?_
    have q383 : h378 45 1 = 47 := by have z := jB (e := 1) 0 j379 rg_45_1_0_1 (by decide) (by decide); omega
    refine x_getR (np := 39) (x := 65) (f := 1) (q := 47) (by decide +kernel) (by decide) (by decide +kernel) q383 ?_
    refine x_const (np := 40) (x := 9223372039002259456) (a := 2147483648) (by decide +kernel) (by decide) (by decide) ?_
    refine x_aload (np := 41) (x := 0) (by decide +kernel) rfl (x_nc_le (by decide)) ?_
    have q384 : h378 63 0 = 64 := by have z := jB (e := 0) 0 j379 rg_63_0_0_1 (by decide) (by decide); omega
    refine x_getR (np := 44) (x := 768) (f := 0) (q := 64) (by decide +kernel) (by decide) (by decide +kernel) q384 ?_
    refine x_const (np := 45) (x := 9223372039002259456) (a := 2147483648) (by decide +kernel) (by decide) (by decide) ?_
    refine x_aload (np := 46) (x := 0) (by decide +kernel) rfl (x_nc_le (by decide)) ?_
    have q385 : h378 63 0 = 64 := by have z := jB (e := 0) 0 j379 rg_63_0_0_1 (by decide) (by decide); omega
    refine x_getR (np := 49) (x := 768) (f := 0) (q := 64) (by decide +kernel) (by decide) (by decide +kernel) q385 ?_
    refine x_alen (np := 50) (x := 0) (n := 36) (by decide +kernel) (by decide) (by decide +kernel) (by decide +kernel) (by decide) ?_
    show X _ _ _ _ _ _ _ _ [iv_c 2147483684, iv_c 2147483648, x_r 64, iv_c 2147483648, x_r 47] _
    refine x_copy (np := 53) (q := 64) (r := 47) (N := 36) (nq := 36) (nr := 36) (n8 := 0) (by decide +kernel) (by decide +kernel) (by decide +kernel) (by decide) (by decide) (by decide) (by decide) x_wn (by decide) ?_
    have j387 := J_cp (q := 64) (r := 47) (N := 36) j379 (by decide) (by decide +kernel) (by decide +kernel) (by decide +kernel)
    have f388 := Fr_cp (q := 64) (r := 47) (N := 36) (Fr.refl 32768 h378) (fun i _ => show Nat.testBit 32768 15 = true by decide)
    generalize e389 : x_cp h378 64 47 36 = h386 at j387 f388 ⊢
    have f390 := Fr.trans f381 f388 (by decide)
    refine x_const (np := 54) (x := 9223372039002259456) (a := 2147483648) (by decide +kernel) (by decide) (by decide) ?_
    refine x_istore (np := 55) (x := 2) (lo' := [x_r 63, iv_c a1, iv_c 2147483648]) (by decide +kernel) (by decide) (Nat.le_of_ble_eq_true rfl) rfl ?_
    have p483 : ∀ (n : Nat) (v478 : Nat) (h480 : xh), 4294967296 - v478 < n → (2147483648 ≤ v478 ∧ v478 ≤ 2147483654) → J h480 → Fr 32768 h386 h480 → X sc 271 (d + 24) (xV fun h' => J h' ∧ Fr 32769 h h') 0 0 55 [x_r 63, iv_c a1, iv_c v478] [] h480 := by
      intro n
      induction n with
      | zero => intro v478 h480 q484; exact absurd q484 (Nat.not_lt_zero _)
      | succ n i485 =>
        intro v478 h480 q484 b479 j482 f481
        have f486 := Fr.trans f390 f481 (by decide)
        refine x_iload (np := 56) (x := 2) (by decide +kernel) rfl (by first | decide | omega) ?_
        refine x_const (np := 58) (x := 9223372064772063238) (a := 2147483654) (by decide +kernel) (by decide) (by decide) ?_
        refine x_icmp (k := 3) (tg := 74) (np := 61) (by decide +kernel) (by decide) (by first | decide | omega) (by decide) (fun q487 => ?_) (fun q488 => ?_)
        · have q487 : 2147483654 ≤ v478 := q487
          refine x_aload (np := 75) (x := 0) (by decide +kernel) rfl (x_nc_le (by decide)) ?_
          refine x_const (np := 76) (x := 9223372039002259456) (a := 2147483648) (by decide +kernel) (by decide) (by decide) ?_
          refine x_putI (np := 79) (x := 776) (f := 8) (by decide +kernel) (by decide +kernel) (by decide) (Or.inl (by decide)) ?_
          have j490 := jU (e := 8) (v := 2147483648) 0 j482 rg_63_8_0_1 (by first | decide | omega) (by first | decide | omega) (by first | decide | omega)
          have f492 := jF (e := 8) (v := 2147483648) 0 f486 rg_63_8_0_1 (by first | decide | omega) (by first | decide | omega) (by decide)
          generalize e491 : x_up h480 63 8 2147483648 = h489 at j490 f492 ⊢
          refine x_aload (np := 80) (x := 0) (by decide +kernel) rfl (x_nc_le (by decide)) ?_
          refine x_const (np := 81) (x := 9223372039002259456) (a := 2147483648) (by decide +kernel) (by decide) (by decide) ?_
          refine x_putI (np := 84) (x := 783) (f := 15) (by decide +kernel) (by decide +kernel) (by decide) (Or.inl (by decide)) ?_
          have j494 := jU (e := 15) (v := 2147483648) 0 j490 rg_63_15_0_1 (by first | decide | omega) (by first | decide | omega) (by first | decide | omega)
          have f496 := jF (e := 15) (v := 2147483648) 0 f492 rg_63_15_0_1 (by first | decide | omega) (by first | decide | omega) (by decide)
          generalize e495 : x_up h489 63 15 2147483648 = h493 at j494 f496 ⊢
          refine x_aload (np := 85) (x := 0) (by decide +kernel) rfl (x_nc_le (by decide)) ?_
          refine x_const (np := 86) (x := 9223372039002259456) (a := 2147483648) (by decide +kernel) (by decide) (by decide) ?_
          refine x_putI (np := 89) (x := 785) (f := 17) (by decide +kernel) (by decide +kernel) (by decide) (Or.inl (by decide)) ?_
          have j498 := jU (e := 17) (v := 2147483648) 0 j494 rg_63_17_0_1 (by first | decide | omega) (by first | decide | omega) (by first | decide | omega)
          have f500 := jF (e := 17) (v := 2147483648) 0 f496 rg_63_17_0_1 (by first | decide | omega) (by first | decide | omega) (by decide)
          generalize e499 : x_up h493 63 17 2147483648 = h497 at j498 f500 ⊢
          refine x_aload (np := 90) (x := 0) (by decide +kernel) rfl (x_nc_le (by decide)) ?_
          refine x_const (np := 91) (x := 9223372039002259456) (a := 2147483648) (by decide +kernel) (by decide) (by decide) ?_
          refine x_putI (np := 94) (x := 4873) (f := 9) (by decide +kernel) (by decide +kernel) (by decide) (Or.inr ⟨by decide, by first | decide | omega, by first | decide | omega⟩) ?_
          have j502 := jU (e := 9) (v := 2147483648) 0 j498 rg_63_9_0_1 (by first | decide | omega) (by first | decide | omega) (by first | decide | omega)
          have f504 := jF (e := 9) (v := 2147483648) 0 f500 rg_63_9_0_1 (by first | decide | omega) (by first | decide | omega) (by decide)
          generalize e503 : x_up h497 63 9 2147483648 = h501 at j502 f504 ⊢
          refine x_aload (np := 95) (x := 0) (by decide +kernel) rfl (x_nc_le (by decide)) ?_
          refine x_vV (np := 98) (x := 5246978) (kk := 2) (cls := 4) (mj := 55) (ml := 2) (nr := 0) (rest := []) (lo1 := [x_r 63, 147573952589676412928]) (by decide +kernel) (by decide) (by decide) (by decide) (by decide +kernel) (by decide +kernel) (by decide) (by decide +kernel) (by decide +kernel) x_wn (by decide) rfl (c55_63 j502) (fun h508 q507 => ?_)
          obtain ⟨j509, f510⟩ := q507
          have f511 := Fr.trans f504 f510 (by decide)
          refine x_const (np := 99) (x := 9223372039002259456) (a := 2147483648) (by decide +kernel) (by decide) (by decide) ?_
          refine x_istore (np := 100) (x := 2) (lo' := [x_r 63, iv_c a1, iv_c 2147483648]) (by decide +kernel) (by decide) (Nat.le_of_ble_eq_true rfl) rfl ?_
          have p688 : ∀ (n : Nat) (v683 : Nat) (h685 : xh), 4294967296 - v683 < n → (2147483648 ≤ v683 ∧ v683 ≤ 2147483654) → J h685 → Fr 32769 h508 h685 → X sc 271 (d + 24) (xV fun h' => J h' ∧ Fr 32769 h h') 0 0 100 [x_r 63, iv_c a1, iv_c v683] [] h685 := by
            intro n
            induction n with
            | zero => intro v683 h685 q689; exact absurd q689 (Nat.not_lt_zero _)
            | succ n i690 =>
              intro v683 h685 q689 b684 j687 f686
              have f691 := Fr.trans f511 f686 (by decide)
              refine x_iload (np := 101) (x := 2) (by decide +kernel) rfl (by first | decide | omega) ?_
              refine x_aload (np := 102) (x := 0) (by decide +kernel) rfl (x_nc_le (by decide)) ?_
              refine x_vI (P := fun r9 h9 => X sc 271 _ _ 0 0 105 [x_r 63, iv_c a1, iv_c v683] (iv_c r9 :: [iv_c v683]) h9) (np := 105) (x := 5246976) (kk := 0) (cls := 4) (mj := 53) (ml := 1) (nr := 1) (rest := [iv_c v683]) (lo1 := [x_r 63]) (by decide +kernel) (by decide) (by decide) (by decide) (by decide +kernel) (by decide +kernel) (by decide) (by decide +kernel) (by decide +kernel) (x_wi (by first | decide | omega) x_wn) (by decide) rfl ?_ (fun _ _ _ z => z)
              refine x_const (np := 1) (x := 9223372060477095941) (a := 2147483653) (by decide +kernel) (by decide) (by decide) ?_
              refine x_retI (np := 2) (x := 0) (by decide +kernel) (by decide) (Or.inl (by decide +kernel)) ⟨_, rfl, (by decide), ?_⟩
              refine x_icmp (k := 4) (tg := 138) (np := 108) (by decide +kernel) (by decide) (by first | decide | omega) (by decide) (fun q692 => ?_) (fun q693 => ?_)
              · have q692 : 2147483653 < v683 := q692
                refine x_aload (np := 139) (x := 0) (by decide +kernel) rfl (x_nc_le (by decide)) ?_
                refine x_const (np := 140) (x := 9223372043297226753) (a := 2147483649) (by decide +kernel) (by decide) (by decide) ?_
                refine x_putI (np := 143) (x := 4878) (f := 14) (by decide +kernel) (by decide +kernel) (by decide) (Or.inr ⟨by decide, by first | decide | omega, by first | decide | omega⟩) ?_
                have j695 := jU (e := 14) (v := 2147483649) 0 j687 rg_63_14_0_1 (by first | decide | omega) (by first | decide | omega) (by first | decide | omega)
                have f697 := jF (e := 14) (v := 2147483649) 0 f691 rg_63_14_0_1 (by first | decide | omega) (by first | decide | omega) (by decide)
                generalize e696 : x_up h685 63 14 2147483649 = h694 at j695 f697 ⊢
                refine x_retV (np := 144) (x := 0) (by decide +kernel) (by decide +kernel) ⟨rfl, ?_⟩
                exact ⟨j695, f697⟩
              have q693 : ¬ (2147483653 < v683) := q693
              refine x_aload (np := 109) (x := 0) (by decide +kernel) rfl (x_nc_le (by decide)) ?_
              refine x_getC (np := 112) (x := 776) (f := 8) (q := (h685 63 8)) (by decide +kernel) (by decide) (by decide +kernel) rfl (fun l698 => ?_)
              refine x_ifz (k := 1) (tg := 138) (np := 115) (by decide +kernel) (by decide) l698 (fun q699 => ?_) (fun q700 => ?_)
              · have q699 : (h685 63 8) ≠ 2147483648 := q699
                refine x_aload (np := 139) (x := 0) (by decide +kernel) rfl (x_nc_le (by decide)) ?_
                refine x_const (np := 140) (x := 9223372043297226753) (a := 2147483649) (by decide +kernel) (by decide) (by decide) ?_
                refine x_putI (np := 143) (x := 4878) (f := 14) (by decide +kernel) (by decide +kernel) (by decide) (Or.inr ⟨by decide, by first | decide | omega, by first | decide | omega⟩) ?_
                have j702 := jU (e := 14) (v := 2147483649) 0 j687 rg_63_14_0_1 (by first | decide | omega) (by first | decide | omega) (by first | decide | omega)
                have f704 := jF (e := 14) (v := 2147483649) 0 f691 rg_63_14_0_1 (by first | decide | omega) (by first | decide | omega) (by decide)
                generalize e703 : x_up h685 63 14 2147483649 = h701 at j702 f704 ⊢
                refine x_retV (np := 144) (x := 0) (by decide +kernel) (by decide +kernel) ⟨rfl, ?_⟩
                exact ⟨j702, f704⟩
              have q700 : ¬ ((h685 63 8) ≠ 2147483648) := q700
              refine x_aload (np := 116) (x := 0) (by decide +kernel) rfl (x_nc_le (by decide)) ?_
              have b705 := jB (e := 9) 0 j687 rg_63_9_0_1 (by first | decide | omega) (by first | decide | omega)
              refine x_getC (np := 119) (x := 777) (f := 9) (q := (h685 63 9)) (by decide +kernel) (by decide) (by decide +kernel) rfl (fun l706 => ?_)
              refine x_ifz (k := 1) (tg := 138) (np := 122) (by decide +kernel) (by decide) l706 (fun q707 => ?_) (fun q708 => ?_)
              · have q707 : (h685 63 9) ≠ 2147483648 := q707
                refine x_aload (np := 139) (x := 0) (by decide +kernel) rfl (x_nc_le (by decide)) ?_
                refine x_const (np := 140) (x := 9223372043297226753) (a := 2147483649) (by decide +kernel) (by decide) (by decide) ?_
                refine x_putI (np := 143) (x := 4878) (f := 14) (by decide +kernel) (by decide +kernel) (by decide) (Or.inr ⟨by decide, by first | decide | omega, by first | decide | omega⟩) ?_
                have j710 := jU (e := 14) (v := 2147483649) 0 j687 rg_63_14_0_1 (by first | decide | omega) (by first | decide | omega) (by first | decide | omega)
                have f712 := jF (e := 14) (v := 2147483649) 0 f691 rg_63_14_0_1 (by first | decide | omega) (by first | decide | omega) (by decide)
                generalize e711 : x_up h685 63 14 2147483649 = h709 at j710 f712 ⊢
                refine x_retV (np := 144) (x := 0) (by decide +kernel) (by decide +kernel) ⟨rfl, ?_⟩
                exact ⟨j710, f712⟩
              have q708 : ¬ ((h685 63 9) ≠ 2147483648) := q708
              refine x_aload (np := 123) (x := 0) (by decide +kernel) rfl (x_nc_le (by decide)) ?_
              refine x_iload (np := 124) (x := 2) (by decide +kernel) rfl (by first | decide | omega) ?_
              refine x_putI (np := 127) (x := 784) (f := 16) (by decide +kernel) (by decide +kernel) (by first | decide | omega) (Or.inl (by decide)) ?_
              have j714 := jU (e := 16) (v := v683) 0 j687 rg_63_16_0_1 (by first | decide | omega) (by first | decide | omega) (by first | decide | omega)
              have f716 := jF (e := 16) (v := v683) 0 f691 rg_63_16_0_1 (by first | decide | omega) (by first | decide | omega) (by decide)
              have f717 := jF (e := 16) (v := v683) 0 f686 rg_63_16_0_1 (by first | decide | omega) (by first | decide | omega) (by decide)
              generalize e715 : x_up h685 63 16 v683 = h713 at j714 f716 f717 ⊢
              refine x_aload (np := 128) (x := 0) (by decide +kernel) rfl (x_nc_le (by decide)) ?_
              refine x_const (np := 129) (x := 9223372039002259456) (a := 2147483648) (by decide +kernel) (by decide) (by decide) ?_
              refine x_cV (t := 8) (mj := 274) (n := 2) (rc := 13) (ml := 2) (nr := 0) (np := 132) (as := [x_r 63, iv_c 2147483648]) (rest := []) (lo1 := [x_r 63, iv_c 2147483648]) (by decide +kernel) (by decide) (by decide +kernel) (x_rb_of (by decide +kernel)) rfl rfl (x_wr (by decide) (x_wi (by decide) x_wn)) x_wn (by decide) rfl (c274_63_c0 j714  ) (fun h721 q720 => ?_)
              obtain ⟨j722, f723⟩ := q720
              have f726 := Fr.trans f716 f723 (by decide)
              have f727 := Fr.trans f717 f723 (by decide)
              refine x_iinc (np := 135) (i := 2) (j := 2147483649) (v := (1 + v683)) (lo' := [x_r 63, iv_c a1, iv_c (1 + v683)]) (by decide +kernel) (by decide) (by decide) rfl (by first | decide | omega) (by first | decide | omega) (by first | decide | omega) rfl ?_
              refine x_goto (np := 138) (x := 100) (by decide +kernel) ?_
              exact i690 (1 + v683) h721 (by first | decide | omega) (by first | decide | omega) j722 f727
          exact p688 _ 2147483648 h508 (Nat.lt_succ_self _) (by first | decide | omega) j509 (Fr.refl _ _)
        have q488 : ¬ (2147483654 ≤ v478) := q488
        refine x_aload (np := 62) (x := 0) (by decide +kernel) rfl (x_nc_le (by decide)) ?_
        have q728 : h480 63 2 = 66 := by have z := jB (e := 2) 0 j482 rg_63_2_0_1 (by decide) (by decide); omega
        refine x_getR (np := 65) (x := 770) (f := 2) (q := 66) (by decide +kernel) (by decide) (by decide +kernel) q728 ?_
        refine x_iload (np := 66) (x := 2) (by decide +kernel) rfl (by first | decide | omega) ?_
        refine x_const (np := 67) (x := 9223372039002259456) (a := 2147483648) (by decide +kernel) (by decide) (by decide) ?_
        obtain ⟨u729, q730⟩ : ∃ z, v478 = 2147483648 + z := ⟨v478 - 2147483648, by first | decide | omega⟩
        refine x_ast (np := 68) (x := 0) (kd := 1) (n := 6) (i := u729) (by decide +kernel) (Or.inl rfl) (by decide +kernel) (by first | decide | omega) (by first | decide | omega) (by decide) (by decide) (fun z => absurd z (by decide)) ?_
        have j732 := jU (e := u729) (v := 2147483648) u729 j482 rg_66_0_1_6 (by first | decide | omega) (by first | decide | omega) (by first | decide | omega)
        have f734 := jF (e := u729) (v := 2147483648) u729 f486 rg_66_0_1_6 (by first | decide | omega) (by first | decide | omega) (by decide)
        have f735 := jF (e := u729) (v := 2147483648) u729 f481 rg_66_0_1_6 (by first | decide | omega) (by first | decide | omega) (by decide)
        generalize e733 : x_up h480 66 u729 2147483648 = h731 at j732 f734 f735 ⊢
        refine x_iinc (np := 71) (i := 2) (j := 2147483649) (v := (1 + v478)) (lo' := [x_r 63, iv_c a1, iv_c (1 + v478)]) (by decide +kernel) (by decide) (by decide) rfl (by first | decide | omega) (by first | decide | omega) (by first | decide | omega) rfl ?_
        refine x_goto (np := 74) (x := 55) (by decide +kernel) ?_
        exact i485 (1 + v478) h731 (by first | decide | omega) (by first | decide | omega) j732 f735
    exact p483 _ 2147483648 h386 (Nat.lt_succ_self _) (by first | decide | omega) j387 (Fr.refl _ _)
  have q371 : ¬ ((h 63 7) ≠ a1) := q371
  refine x_retV (np := 16) (x := 0) (by decide +kernel) (by decide +kernel) ⟨rfl, ?_⟩
  exact ⟨hJ, hF⟩
set_option maxHeartbeats 0 in
/-- LentNames.plan(II)I -/
theorem c127_0 {sc : Nat × Nat} {d a1 a2 : Nat} {h : xh} (hJ : J h) (ba1 : 0 ≤ a1 ∧ a1 ≤ 4294967295) (ba2 : 0 ≤ a2 ∧ a2 ≤ 4294967295) : X sc 127 (d + 25) (xT (fun r h' => J h' ∧ Fr 32769 h h' ∧ (0 ≤ r ∧ r ≤ 4294967295)) (fun E h' => J h' ∧ Fr 32769 h h' ∧ (E = 0))) 0 0 0 [x_r 0, iv_c a1, iv_c a2] [] h := by
  have la1 : a1 < 4294967296 := by first | decide | omega
  have la2 : a2 < 4294967296 := by first | decide | omega
  have hF := Fr.refl 32769 h
  refine x_iload (np := 1) (x := 1) (by decide +kernel) rfl la1 ?_
  refine x_ifz (k := 2) (tg := 10) (np := 4) (by decide +kernel) (by decide) la1 (fun q1 => ?_) (fun q2 => ?_)
  · have q1 : a1 < 2147483648 := q1
    refine x_thr (np := 13) (x := 0) (by decide +kernel) (by decide +kernel) (Nat.le_trans x_wn (by decide)) (Or.inr ⟨_, rfl, ?_⟩)
    exact ⟨hJ, hF, by decide⟩
  have q2 : ¬ (a1 < 2147483648) := q2
  refine x_iload (np := 5) (x := 1) (by decide +kernel) rfl la1 ?_
  refine x_const (np := 7) (x := 9223372090541867020) (a := 2147483660) (by decide +kernel) (by decide) (by decide) ?_
  refine x_icmp (k := 5) (tg := 20) (np := 10) (by decide +kernel) (by decide) la1 (by decide) (fun q3 => ?_) (fun q4 => ?_)
  · have q3 : a1 ≤ 2147483660 := q3
    refine x_iload (np := 21) (x := 2) (by decide +kernel) rfl la2 ?_
    refine x_const (np := 22) (x := 9223372034707292159) (a := 2147483647) (by decide +kernel) (by decide) (by decide) ?_
    refine x_icmp (k := 3) (tg := 35) (np := 25) (by decide +kernel) (by decide) la2 (by decide) (fun q5 => ?_) (fun q6 => ?_)
    · have q5 : 2147483647 ≤ a2 := q5
      refine x_aload (np := 36) (x := 0) (by decide +kernel) rfl (x_nc_le (by decide)) ?_
      have q7 : h 0 5 = 63 := by have z := jB (e := 5) 0 hJ rg_0_5_0_1 (by decide) (by decide); omega
      refine x_getR (np := 39) (x := 645) (f := 5) (q := 63) (by decide +kernel) (by decide) (by decide +kernel) q7 ?_
      refine x_iload (np := 40) (x := 1) (by decide +kernel) rfl la1 ?_
      refine x_cV (t := 8) (mj := 271) (n := 2) (rc := 5) (ml := 3) (nr := 0) (np := 43) (as := [x_r 63, iv_c a1]) (rest := []) (lo1 := [x_r 63, iv_c a1, 147573952589676412928]) (by decide +kernel) (by decide) (by decide +kernel) (x_rb_of (by decide +kernel)) rfl rfl (x_wr (by decide) (x_wi la1 x_wn)) x_wn (by decide) rfl (c271_63 hJ  (by first | decide | omega)) (fun h11 q10 => ?_)
      obtain ⟨j12, f13⟩ := q10
      have f16 := Fr.trans hF f13 (by decide)
      refine x_aload (np := 44) (x := 0) (by decide +kernel) rfl (x_nc_le (by decide)) ?_
      have q17 : h11 0 5 = 63 := by have z := jB (e := 5) 0 j12 rg_0_5_0_1 (by decide) (by decide); omega
      refine x_getR (np := 47) (x := 645) (f := 5) (q := 63) (by decide +kernel) (by decide) (by decide +kernel) q17 ?_
      have b18 := jB (e := 9) 0 j12 rg_63_9_0_1 (by first | decide | omega) (by first | decide | omega)
      refine x_getC (np := 50) (x := 777) (f := 9) (q := (h11 63 9)) (by decide +kernel) (by decide) (by decide +kernel) rfl (fun l19 => ?_)
      refine x_ifz (k := 0) (tg := 58) (np := 53) (by decide +kernel) (by decide) l19 (fun q20 => ?_) (fun q21 => ?_)
      · have q20 : (h11 63 9) = 2147483648 := q20
        refine x_aload (np := 59) (x := 0) (by decide +kernel) rfl (x_nc_le (by decide)) ?_
        have q22 : h11 0 5 = 63 := by have z := jB (e := 5) 0 j12 rg_0_5_0_1 (by decide) (by decide); omega
        refine x_getR (np := 62) (x := 645) (f := 5) (q := 63) (by decide +kernel) (by decide) (by decide +kernel) q22 ?_
        refine x_iload (np := 63) (x := 2) (by decide +kernel) rfl la2 ?_
        refine x_nI (t := 8) (mj := 272) (n := 2) (rc := 5) (ml := 2) (nr := 0) (np := 66) (as := [x_r 63, iv_c a2]) (rest := []) (lo1 := [x_r 63, iv_c a2]) (by decide +kernel) (by decide) (by decide +kernel) (x_rb_of (by decide +kernel)) rfl rfl (x_wr (by decide) (x_wi la2 x_wn)) x_wn (by decide) rfl ?_
        refine x_aload (np := 1) (x := 0) (by decide +kernel) rfl (x_nc_le (by decide)) ?_
        refine x_getC (np := 4) (x := 776) (f := 8) (q := (h11 63 8)) (by decide +kernel) (by decide) (by decide +kernel) rfl (fun l23 => ?_)
        refine x_ifz (k := 1) (tg := 9) (np := 7) (by decide +kernel) (by decide) l23 (fun q24 => ?_) (fun q25 => ?_)
        · have q24 : (h11 63 8) ≠ 2147483648 := q24
          refine x_iload (np := 10) (x := 1) (by decide +kernel) rfl la2 ?_
          refine x_const (np := 11) (x := 9223372034707292159) (a := 2147483647) (by decide +kernel) (by decide) (by decide) ?_
          refine x_icmp (k := 1) (tg := 19) (np := 14) (by decide +kernel) (by decide) la2 (by decide) (fun q26 => ?_) (fun q27 => ?_)
          · have q26 : a2 ≠ 2147483647 := q26
            refine x_iload (np := 20) (x := 1) (by decide +kernel) rfl la2 ?_
            refine x_ifz (k := 2) (tg := 40) (np := 23) (by decide +kernel) (by decide) la2 (fun q28 => ?_) (fun q29 => ?_)
            · have q28 : a2 < 2147483648 := q28
              exfalso; omega
            have q29 : ¬ (a2 < 2147483648) := q29
            refine x_iload (np := 24) (x := 1) (by decide +kernel) rfl la2 ?_
            refine x_aload (np := 25) (x := 0) (by decide +kernel) rfl (x_nc_le (by decide)) ?_
            have b30 := jB (e := 15) 0 j12 rg_63_15_0_1 (by first | decide | omega) (by first | decide | omega)
            refine x_getC (np := 28) (x := 783) (f := 15) (q := (h11 63 15)) (by decide +kernel) (by decide) (by decide +kernel) rfl (fun l31 => ?_)
            refine x_icmp (k := 3) (tg := 40) (np := 31) (by decide +kernel) (by decide) la2 l31 (fun q32 => ?_) (fun q33 => ?_)
            · have q32 : (h11 63 15) ≤ a2 := q32
              refine x_const (np := 41) (x := 9223372034707292159) (a := 2147483647) (by decide +kernel) (by decide) (by decide) ?_
              refine x_retI (np := 42) (x := 0) (by decide +kernel) (by decide) (Or.inl (by decide +kernel)) ⟨_, rfl, (by decide), ?_⟩
              refine x_retI (np := 67) (x := 0) (by decide +kernel) (by decide) (Or.inl (by decide +kernel)) (Or.inl ⟨_, rfl, (by decide), ?_⟩)
              exact ⟨j12, f16, (by first | decide | omega)⟩
            have q33 : ¬ ((h11 63 15) ≤ a2) := q33
            refine x_aload (np := 32) (x := 0) (by decide +kernel) rfl (x_nc_le (by decide)) ?_
            have q34 : h11 63 4 = 68 := by have z := jB (e := 4) 0 j12 rg_63_4_0_1 (by decide) (by decide); omega
            refine x_getR (np := 35) (x := 772) (f := 4) (q := 68) (by decide +kernel) (by decide) (by decide +kernel) q34 ?_
            refine x_iload (np := 36) (x := 1) (by decide +kernel) rfl la2 ?_
            obtain ⟨u35, q36⟩ : ∃ z, a2 = 2147483648 + z := ⟨a2 - 2147483648, by first | decide | omega⟩
            refine x_aldC (np := 37) (x := 0) (n := 5) (i := u35) (q := (h11 68 u35)) (by decide +kernel) (by decide +kernel) (by first | decide | omega) (by first | decide | omega) (by decide) rfl (fun l37 => ?_)
            refine x_goto (np := 40) (x := 41) (by decide +kernel) ?_
            refine x_retI (np := 42) (x := 0) (by decide +kernel) l37 (Or.inl (by decide +kernel)) ⟨_, rfl, l37, ?_⟩
            refine x_retI (np := 67) (x := 0) (by decide +kernel) l37 (Or.inl (by decide +kernel)) (Or.inl ⟨_, rfl, l37, ?_⟩)
            exact ⟨j12, f16, (by first | decide | omega)⟩
          have q27 : ¬ (a2 ≠ 2147483647) := q27
          refine x_aload (np := 15) (x := 0) (by decide +kernel) rfl (x_nc_le (by decide)) ?_
          have b38 := jB (e := 15) 0 j12 rg_63_15_0_1 (by first | decide | omega) (by first | decide | omega)
          refine x_getC (np := 18) (x := 783) (f := 15) (q := (h11 63 15)) (by decide +kernel) (by decide) (by decide +kernel) rfl (fun l39 => ?_)
          refine x_retI (np := 19) (x := 0) (by decide +kernel) l39 (Or.inl (by decide +kernel)) ⟨_, rfl, l39, ?_⟩
          refine x_retI (np := 67) (x := 0) (by decide +kernel) l39 (Or.inl (by decide +kernel)) (Or.inl ⟨_, rfl, l39, ?_⟩)
          exact ⟨j12, f16, (by first | decide | omega)⟩
        have q25 : ¬ ((h11 63 8) ≠ 2147483648) := q25
        refine x_const (np := 8) (x := 9223372034707292159) (a := 2147483647) (by decide +kernel) (by decide) (by decide) ?_
        refine x_retI (np := 9) (x := 0) (by decide +kernel) (by decide) (Or.inl (by decide +kernel)) ⟨_, rfl, (by decide), ?_⟩
        refine x_retI (np := 67) (x := 0) (by decide +kernel) (by decide) (Or.inl (by decide +kernel)) (Or.inl ⟨_, rfl, (by decide), ?_⟩)
        exact ⟨j12, f16, (by first | decide | omega)⟩
      have q21 : ¬ ((h11 63 9) = 2147483648) := q21
      refine x_const (np := 55) (x := 9223372030412324862) (a := 2147483646) (by decide +kernel) (by decide) (by decide) ?_
      refine x_goto (np := 58) (x := 66) (by decide +kernel) ?_
      refine x_retI (np := 67) (x := 0) (by decide +kernel) (by decide) (Or.inl (by decide +kernel)) (Or.inl ⟨_, rfl, (by decide), ?_⟩)
      exact ⟨j12, f16, (by first | decide | omega)⟩
    have q6 : ¬ (2147483647 ≤ a2) := q6
    refine x_thr (np := 28) (x := 0) (by decide +kernel) (by decide +kernel) (Nat.le_trans x_wn (by decide)) (Or.inr ⟨_, rfl, ?_⟩)
    exact ⟨hJ, hF, by decide⟩
  have q4 : ¬ (a1 ≤ 2147483660) := q4
  refine x_thr (np := 13) (x := 0) (by decide +kernel) (by decide +kernel) (Nat.le_trans x_wn (by decide)) (Or.inr ⟨_, rfl, ?_⟩)
  exact ⟨hJ, hF, by decide⟩
set_option maxHeartbeats 0 in
/-- LentNamesLaw.plan(LLentNames;II[J)I -/
theorem c302_0_97 {sc : Nat × Nat} {d a1 a2 : Nat} {h : xh} (hJ : J h) (ba1 : 0 ≤ a1 ∧ a1 ≤ 4294967295) (ba2 : 0 ≤ a2 ∧ a2 ≤ 4294967295) : X sc 302 (d + 26) (xI fun r h' => J h' ∧ Fr 70368744210433 h h' ∧ (2147483648 ≤ r ∧ r ≤ 2147483649)) 0 0 0 [x_r 0, iv_c a1, iv_c a2, x_r 97, 147573952589676412928] [] h := by
  have la1 : a1 < 4294967296 := by first | decide | omega
  have la2 : a2 < 4294967296 := by first | decide | omega
  have hF := Fr.refl 70368744210433 h
  refine x_aload (np := 1) (x := 3) (by decide +kernel) rfl (x_nc_le (by decide)) ?_
  refine x_const (np := 2) (x := 9223372039002259456) (a := 2147483648) (by decide +kernel) (by decide) (by decide) ?_
  refine x_aload (np := 3) (x := 0) (by decide +kernel) rfl (x_nc_le (by decide)) ?_
  refine x_iload (np := 4) (x := 1) (by decide +kernel) rfl la1 ?_
  refine x_iload (np := 5) (x := 2) (by decide +kernel) rfl la2 ?_
  refine x_cT (t := 6) (mj := 127) (n := 3) (rc := 11) (ml := 3) (cc := 1) (ss := 6) (nr := 2) (np := 8) (as := [x_r 0, iv_c a1, iv_c a2]) (rest := [iv_c 2147483648, x_r 97]) (lo1 := [x_r 0, iv_c a1, iv_c a2]) (by decide +kernel) (by decide) (by decide +kernel) (x_rb_of (by decide +kernel)) rfl rfl (x_wr (by decide) (x_wi la1 (x_wi la2 x_wn))) (x_wi (by decide) (x_wr (by decide) x_wn)) (by decide) rfl (c127_0 hJ  (by first | decide | omega) (by first | decide | omega)) (fun v1 h4 l2 q3 => ?_) (fun E6 h7 q5 => ?_)
  · obtain ⟨j8, f9, b10⟩ := q3
    have f11 := Fr.trans hF f9 (by decide)
    refine x_i2l (np := 9) (x := 0) (by decide +kernel) l2 ?_
    refine x_last (np := 10) (x := 0) (n := 1) (i := 0) (by decide +kernel) (by decide) (by decide +kernel) (by decide +kernel) (by first | decide | omega) (by first | decide | omega) (by decide) l2 ?_
    have j13 := jU (e := 0) (v := v1) 0 j8 rg_97_0_1_1 (by first | decide | omega) (by first | decide | omega) (by first | decide | omega)
    have f15 := jF (e := 0) (v := v1) 0 f11 rg_97_0_1_1 (by first | decide | omega) (by first | decide | omega) (by decide)
    generalize e14 : x_up h4 97 0 v1 = h12 at j13 f15 ⊢
    refine x_goto (np := 13) (x := 17) (by decide +kernel) ?_
    refine x_const (np := 18) (x := 9223372039002259456) (a := 2147483648) (by decide +kernel) (by decide) (by decide) ?_
    refine x_retI (np := 19) (x := 0) (by decide +kernel) (by decide) (Or.inl (by decide +kernel)) ⟨_, rfl, (by decide), ?_⟩
    exact ⟨j13, f15, (by first | decide | omega)⟩
  obtain ⟨j16, f17, e18⟩ := q5
  have f19 := Fr.trans hF f17 (by decide)
  rcases e18 with rfl
  · refine ⟨13, fun _ _ => rfl, ?_⟩
    refine x_astE (np := 15) (x := 4) (lo' := [x_r 0, iv_c a1, iv_c a2, x_r 97, 55340232221128654850]) (by decide +kernel) (Nat.le_of_ble_eq_true rfl) rfl ?_
    refine x_const (np := 16) (x := 9223372043297226753) (a := 2147483649) (by decide +kernel) (by decide) (by decide) ?_
    refine x_retI (np := 17) (x := 0) (by decide +kernel) (by decide) (Or.inl (by decide +kernel)) ⟨_, rfl, (by decide), ?_⟩
    exact ⟨j16, f19, (by first | decide | omega)⟩
set_option maxHeartbeats 0 in
/-- LentNames.can(I)I -/
theorem c135_0 {sc : Nat × Nat} {d a1 : Nat} {h : xh} (hJ : J h) (ba1 : 0 ≤ a1 ∧ a1 ≤ 4294967295) : X sc 135 (d + 1) (xT (fun r h' => J h' ∧ Fr 0 h h' ∧ (0 ≤ r ∧ r ≤ 4294967295) ∧ h' = h ∧ ∃ u, a1 = 2147483648 + u ∧ u < 10 ∧ a1 < tv h 5 ∧ r = cb (h (h 0 8 + 8) (2 + 4 * u)) (h (h 0 8 + 8) (1 + 4 * u)) (fun b => h 46 b) (tv h 0 - 2147483648)) (fun E h' => J h' ∧ Fr 0 h h' ∧ (E = 2) ∧ (E = 2 ∧ (a1 < 2147483648 ∨ tv h 5 ≤ a1)) ∧ h' = h)) 0 0 0 [x_r 0, iv_c a1, 147573952589676412928, 147573952589676412928, 147573952589676412928, 147573952589676412928] [] h := by
  have la1 : a1 < 4294967296 := by first | decide | omega
  have hF := Fr.refl 0 h
  refine x_aload (np := 1) (x := 0) (by decide +kernel) rfl (x_nc_le (by decide)) ?_
  have t1 : tw (h 0 8) := hJ.2.1
  refine x_getR (np := 4) (x := 648) (f := 8) (q := (h 0 8)) (by decide +kernel) (by decide) (by decide +kernel) rfl ?_
  have q2 : h (h 0 8) 3 = ((h 0 8) + 7) := tf_0_3 hJ t1
  refine x_getR (np := 7) (x := 515) (f := 3) (q := ((h 0 8) + 7)) (by decide +kernel) (by decide) (tg_0_515_3_1 t1) q2 ?_
  refine x_iload (np := 8) (x := 1) (by decide +kernel) rfl la1 ?_
  refine x_nU (t := 0) (mj := 147) (n := 2) (rc := 0) (ml := 2) (cc := 1) (ss := 6) (nr := 0) (np := 11) (as := [x_r ((h 0 8) + 7), iv_c a1]) (rest := []) (lo1 := [x_r ((h 0 8) + 7), iv_c a1]) (by decide +kernel) (by decide) (by decide +kernel) (by decide +kernel) (Or.inl rfl) rfl rfl (x_wr (tn_7 t1) (x_wi la1 x_wn)) x_wn (by decide) rfl ?_
  refine x_iload (np := 1) (x := 1) (by decide +kernel) rfl la1 ?_
  refine x_ifz (k := 2) (tg := 12) (np := 4) (by decide +kernel) (by decide) la1 (fun q3 => ?_) (fun q4 => ?_)
  · have q3 : a1 < 2147483648 := q3
    have b5 := jB (e := 2) 0 hJ (rg_T7_2_0_1 t1) (by first | decide | omega) (by first | decide | omega)
    have e6 : tv h 5 = (h ((h 0 8) + 7) 2) := (congrArg (fun z => svq h z 5) rfl).trans rfl
    refine x_thr (np := 15) (x := 2) (by decide +kernel) (by decide +kernel) (Nat.le_trans x_wn (by decide)) (Or.inr ⟨_, rfl, ?_⟩)
    refine Or.inr ⟨_, rfl, ?_⟩
    exact ⟨hJ, hF, by decide, ⟨rfl, by first | decide | omega⟩, rfl⟩
  have q4 : ¬ (a1 < 2147483648) := q4
  refine x_iload (np := 5) (x := 1) (by decide +kernel) rfl la1 ?_
  refine x_aload (np := 6) (x := 0) (by decide +kernel) rfl (x_nc_le (tn_7 t1)) ?_
  have b7 := jB (e := 2) 0 hJ (rg_T7_2_0_1 t1) (by first | decide | omega) (by first | decide | omega)
  refine x_getC (np := 9) (x := 386) (f := 2) (q := (h ((h 0 8) + 7) 2)) (by decide +kernel) (by decide) (tg_7_386_2_0 t1) rfl (fun l8 => ?_)
  refine x_icmp (k := 2) (tg := 23) (np := 12) (by decide +kernel) (by decide) la1 l8 (fun q9 => ?_) (fun q10 => ?_)
  · have q9 : a1 < (h ((h 0 8) + 7) 2) := q9
    refine x_retV (np := 24) (x := 0) (by decide +kernel) (by decide +kernel) (Or.inl ⟨rfl, ?_⟩)
    refine x_aload (np := 12) (x := 0) (by decide +kernel) rfl (x_nc_le (by decide)) ?_
    refine x_getR (np := 15) (x := 648) (f := 8) (q := (h 0 8)) (by decide +kernel) (by decide) (by decide +kernel) rfl ?_
    have q11 : h (h 0 8) 3 = ((h 0 8) + 7) := tf_0_3 hJ t1
    refine x_getR (np := 18) (x := 515) (f := 3) (q := ((h 0 8) + 7)) (by decide +kernel) (by decide) (tg_0_515_3_1 t1) q11 ?_
    refine x_iload (np := 19) (x := 1) (by decide +kernel) rfl la1 ?_
    refine x_const (np := 20) (x := 9223372047592194050) (a := 2147483650) (by decide +kernel) (by decide) (by decide) ?_
    refine x_nI (t := 6) (mj := 68) (n := 3) (rc := 7) (ml := 4) (nr := 0) (np := 23) (as := [x_r ((h 0 8) + 7), iv_c a1, iv_c 2147483650]) (rest := []) (lo1 := [x_r ((h 0 8) + 7), iv_c a1, iv_c 2147483650, 147573952589676412928]) (by decide +kernel) (by decide) (by decide +kernel) (x_rb_of (tr_7_7 t1)) rfl rfl (x_wr (tn_7 t1) (x_wi la1 (x_wi (by decide) x_wn))) x_wn (by decide) rfl ?_
    refine x_iload (np := 1) (x := 1) (by decide +kernel) rfl la1 ?_
    refine x_ifz (k := 2) (tg := 28) (np := 4) (by decide +kernel) (by decide) la1 (fun q12 => ?_) (fun q13 => ?_)
    · have q12 : a1 < 2147483648 := q12
      exfalso; omega
    have q13 : ¬ (a1 < 2147483648) := q13
    refine x_iload (np := 5) (x := 1) (by decide +kernel) rfl la1 ?_
    refine x_aload (np := 6) (x := 0) (by decide +kernel) rfl (x_nc_le (tn_7 t1)) ?_
    refine x_getC (np := 9) (x := 386) (f := 2) (q := (h ((h 0 8) + 7) 2)) (by decide +kernel) (by decide) (tg_7_386_2_0 t1) rfl (fun l14 => ?_)
    refine x_icmp (k := 3) (tg := 28) (np := 12) (by decide +kernel) (by decide) la1 l8 (fun q15 => ?_) (fun q16 => ?_)
    · have q15 : (h ((h 0 8) + 7) 2) ≤ a1 := q15
      exfalso; omega
    have q16 : ¬ ((h ((h 0 8) + 7) 2) ≤ a1) := q16
    refine x_iload (np := 13) (x := 2) (by decide +kernel) rfl (by decide) ?_
    refine x_ifz (k := 2) (tg := 28) (np := 16) (by decide +kernel) (by decide) (by decide) (fun q17 => ?_) (fun q18 => ?_)
    · have q17 : 2147483650 < 2147483648 := q17
      exfalso; omega
    have q18 : ¬ (2147483650 < 2147483648) := q18
    refine x_iload (np := 17) (x := 2) (by decide +kernel) rfl (by decide) ?_
    refine x_aload (np := 18) (x := 0) (by decide +kernel) rfl (x_nc_le (tn_7 t1)) ?_
    have b19 := jB (e := 0) 0 hJ (rg_T7_0_0_1 t1) (by first | decide | omega) (by first | decide | omega)
    have q20 : (h ((h 0 8) + 7) 0) = 2147483652 := by first | decide | omega
    refine x_getC (np := 21) (x := 384) (f := 0) (q := 2147483652) (by decide +kernel) (by decide) (tg_7_384_0_0 t1) q20 (fun l21 => ?_)
    refine x_icmp (k := 3) (tg := 28) (np := 24) (by decide +kernel) (by decide) (by decide) (by decide) (fun q22 => ?_) (fun q23 => ?_)
    · have q22 : 2147483652 ≤ 2147483650 := q22
      exfalso; omega
    have q23 : ¬ (2147483652 ≤ 2147483650) := q23
    refine x_const (np := 25) (x := 9223372043297226753) (a := 2147483649) (by decide +kernel) (by decide) (by decide) ?_
    refine x_goto (np := 28) (x := 29) (by decide +kernel) ?_
    refine x_istore (np := 30) (x := 3) (lo' := [x_r ((h 0 8) + 7), iv_c a1, iv_c 2147483650, iv_c 2147483649]) (by decide +kernel) (by decide) (Nat.le_of_ble_eq_true rfl) rfl ?_
    refine x_iload (np := 31) (x := 3) (by decide +kernel) rfl (by decide) ?_
    refine x_ifz (k := 0) (tg := 50) (np := 34) (by decide +kernel) (by decide) (by decide) (fun q24 => ?_) (fun q25 => ?_)
    · have q24 : 2147483649 = 2147483648 := q24
      exfalso; omega
    have q25 : ¬ (2147483649 = 2147483648) := q25
    refine x_aload (np := 35) (x := 0) (by decide +kernel) rfl (x_nc_le (tn_7 t1)) ?_
    have q26 : h ((h 0 8) + 7) 1 = ((h 0 8) + 8) := tf_7_1 hJ t1
    refine x_getR (np := 38) (x := 385) (f := 1) (q := ((h 0 8) + 8)) (by decide +kernel) (by decide) (tg_7_385_1_1 t1) q26 ?_
    refine x_iload (np := 39) (x := 1) (by decide +kernel) rfl la1 ?_
    refine x_aload (np := 40) (x := 0) (by decide +kernel) rfl (x_nc_le (tn_7 t1)) ?_
    refine x_getC (np := 43) (x := 384) (f := 0) (q := 2147483652) (by decide +kernel) (by decide) (tg_7_384_0_0 t1) q20 (fun l27 => ?_)
    obtain ⟨u28, q29⟩ : ∃ z, a1 = 2147483648 + z := ⟨a1 - 2147483648, by first | decide | omega⟩
    refine x_imul (np := 44) (x := 0) (i := u28) (j := 4) (v := (2147483648 + 4 * u28)) (by decide +kernel) (by first | decide | omega) (by first | decide | omega) (by first | decide | omega) (by first | decide | omega) la1 (by decide) ?_
    refine x_iload (np := 45) (x := 2) (by decide +kernel) rfl (by decide) ?_
    refine x_iadd (np := 46) (x := 0) (v := (2147483650 + 4 * u28)) (by decide +kernel) (by first | decide | omega) (by decide) (by first | decide | omega) (by first | decide | omega) ?_
    refine x_aldC (np := 47) (x := 0) (n := 40) (i := (2 + 4 * u28)) (q := ((h ((h 0 8) + 8) (2 + 4 * u28)))) (by decide +kernel) (ta_8_40 t1) (by first | decide | omega) (by first | decide | omega) (by decide) rfl (fun l31 => ?_)
    refine x_goto (np := 50) (x := 51) (by decide +kernel) ?_
    refine x_retI (np := 52) (x := 0) (by decide +kernel) l31 (Or.inl (by decide +kernel)) ⟨_, rfl, l31, ?_⟩
    refine x_istore (np := 24) (x := 2) (lo' := [x_r 0, iv_c a1, iv_c ((h ((h 0 8) + 8) (2 + 4 * u28))), 147573952589676412928, 147573952589676412928, 147573952589676412928]) (by decide +kernel) l31 (Nat.le_of_ble_eq_true rfl) rfl ?_
    refine x_aload (np := 25) (x := 0) (by decide +kernel) rfl (x_nc_le (by decide)) ?_
    refine x_getR (np := 28) (x := 648) (f := 8) (q := (h 0 8)) (by decide +kernel) (by decide) (by decide +kernel) rfl ?_
    have q32 : h (h 0 8) 3 = ((h 0 8) + 7) := tf_0_3 hJ t1
    refine x_getR (np := 31) (x := 515) (f := 3) (q := ((h 0 8) + 7)) (by decide +kernel) (by decide) (tg_0_515_3_1 t1) q32 ?_
    refine x_iload (np := 32) (x := 1) (by decide +kernel) rfl la1 ?_
    refine x_const (np := 33) (x := 9223372043297226753) (a := 2147483649) (by decide +kernel) (by decide) (by decide) ?_
    refine x_nI (t := 6) (mj := 68) (n := 3) (rc := 7) (ml := 4) (nr := 0) (np := 36) (as := [x_r ((h 0 8) + 7), iv_c a1, iv_c 2147483649]) (rest := []) (lo1 := [x_r ((h 0 8) + 7), iv_c a1, iv_c 2147483649, 147573952589676412928]) (by decide +kernel) (by decide) (by decide +kernel) (x_rb_of (tr_7_7 t1)) rfl rfl (x_wr (tn_7 t1) (x_wi la1 (x_wi (by decide) x_wn))) x_wn (by decide) rfl ?_
    refine x_iload (np := 1) (x := 1) (by decide +kernel) rfl la1 ?_
    refine x_ifz (k := 2) (tg := 28) (np := 4) (by decide +kernel) (by decide) la1 (fun q33 => ?_) (fun q34 => ?_)
    · have q33 : a1 < 2147483648 := q33
      exfalso; omega
    have q34 : ¬ (a1 < 2147483648) := q34
    refine x_iload (np := 5) (x := 1) (by decide +kernel) rfl la1 ?_
    refine x_aload (np := 6) (x := 0) (by decide +kernel) rfl (x_nc_le (tn_7 t1)) ?_
    refine x_getC (np := 9) (x := 386) (f := 2) (q := (h ((h 0 8) + 7) 2)) (by decide +kernel) (by decide) (tg_7_386_2_0 t1) rfl (fun l35 => ?_)
    refine x_icmp (k := 3) (tg := 28) (np := 12) (by decide +kernel) (by decide) la1 l8 (fun q36 => ?_) (fun q37 => ?_)
    · have q36 : (h ((h 0 8) + 7) 2) ≤ a1 := q36
      exfalso; omega
    have q37 : ¬ ((h ((h 0 8) + 7) 2) ≤ a1) := q37
    refine x_iload (np := 13) (x := 2) (by decide +kernel) rfl (by decide) ?_
    refine x_ifz (k := 2) (tg := 28) (np := 16) (by decide +kernel) (by decide) (by decide) (fun q38 => ?_) (fun q39 => ?_)
    · have q38 : 2147483649 < 2147483648 := q38
      exfalso; omega
    have q39 : ¬ (2147483649 < 2147483648) := q39
    refine x_iload (np := 17) (x := 2) (by decide +kernel) rfl (by decide) ?_
    refine x_aload (np := 18) (x := 0) (by decide +kernel) rfl (x_nc_le (tn_7 t1)) ?_
    refine x_getC (np := 21) (x := 384) (f := 0) (q := 2147483652) (by decide +kernel) (by decide) (tg_7_384_0_0 t1) q20 (fun l40 => ?_)
    refine x_icmp (k := 3) (tg := 28) (np := 24) (by decide +kernel) (by decide) (by decide) (by decide) (fun q41 => ?_) (fun q42 => ?_)
    · have q41 : 2147483652 ≤ 2147483649 := q41
      exfalso; omega
    have q42 : ¬ (2147483652 ≤ 2147483649) := q42
    refine x_const (np := 25) (x := 9223372043297226753) (a := 2147483649) (by decide +kernel) (by decide) (by decide) ?_
    refine x_goto (np := 28) (x := 29) (by decide +kernel) ?_
    refine x_istore (np := 30) (x := 3) (lo' := [x_r ((h 0 8) + 7), iv_c a1, iv_c 2147483649, iv_c 2147483649]) (by decide +kernel) (by decide) (Nat.le_of_ble_eq_true rfl) rfl ?_
    refine x_iload (np := 31) (x := 3) (by decide +kernel) rfl (by decide) ?_
    refine x_ifz (k := 0) (tg := 50) (np := 34) (by decide +kernel) (by decide) (by decide) (fun q43 => ?_) (fun q44 => ?_)
    · have q43 : 2147483649 = 2147483648 := q43
      exfalso; omega
    have q44 : ¬ (2147483649 = 2147483648) := q44
    refine x_aload (np := 35) (x := 0) (by decide +kernel) rfl (x_nc_le (tn_7 t1)) ?_
    have q45 : h ((h 0 8) + 7) 1 = ((h 0 8) + 8) := tf_7_1 hJ t1
    refine x_getR (np := 38) (x := 385) (f := 1) (q := ((h 0 8) + 8)) (by decide +kernel) (by decide) (tg_7_385_1_1 t1) q45 ?_
    refine x_iload (np := 39) (x := 1) (by decide +kernel) rfl la1 ?_
    refine x_aload (np := 40) (x := 0) (by decide +kernel) rfl (x_nc_le (tn_7 t1)) ?_
    refine x_getC (np := 43) (x := 384) (f := 0) (q := 2147483652) (by decide +kernel) (by decide) (tg_7_384_0_0 t1) q20 (fun l46 => ?_)
    refine x_imul (np := 44) (x := 0) (i := u28) (j := 4) (v := (2147483648 + 4 * u28)) (by decide +kernel) (by first | decide | omega) (by first | decide | omega) (by first | decide | omega) (by first | decide | omega) la1 (by decide) ?_
    refine x_iload (np := 45) (x := 2) (by decide +kernel) rfl (by decide) ?_
    refine x_iadd (np := 46) (x := 0) (v := (2147483649 + 4 * u28)) (by decide +kernel) (by first | decide | omega) (by decide) (by first | decide | omega) (by first | decide | omega) ?_
    refine x_aldC (np := 47) (x := 0) (n := 40) (i := (1 + 4 * u28)) (q := ((h ((h 0 8) + 8) (1 + 4 * u28)))) (by decide +kernel) (ta_8_40 t1) (by first | decide | omega) (by first | decide | omega) (by decide) rfl (fun l48 => ?_)
    refine x_goto (np := 50) (x := 51) (by decide +kernel) ?_
    refine x_retI (np := 52) (x := 0) (by decide +kernel) l48 (Or.inl (by decide +kernel)) ⟨_, rfl, l48, ?_⟩
    refine x_istore (np := 37) (x := 3) (lo' := [x_r 0, iv_c a1, iv_c ((h ((h 0 8) + 8) (2 + 4 * u28))), iv_c ((h ((h 0 8) + 8) (1 + 4 * u28))), 147573952589676412928, 147573952589676412928]) (by decide +kernel) l48 (Nat.le_of_ble_eq_true rfl) rfl ?_
    refine x_const (np := 38) (x := 9223372039002259456) (a := 2147483648) (by decide +kernel) (by decide) (by decide) ?_
    refine x_istore (np := 40) (x := 4) (lo' := [x_r 0, iv_c a1, iv_c ((h ((h 0 8) + 8) (2 + 4 * u28))), iv_c ((h ((h 0 8) + 8) (1 + 4 * u28))), iv_c 2147483648, 147573952589676412928]) (by decide +kernel) (by decide) (Nat.le_of_ble_eq_true rfl) rfl ?_
    refine x_const (np := 41) (x := 9223372039002259456) (a := 2147483648) (by decide +kernel) (by decide) (by decide) ?_
    refine x_istore (np := 43) (x := 5) (lo' := [x_r 0, iv_c a1, iv_c ((h ((h 0 8) + 8) (2 + 4 * u28))), iv_c ((h ((h 0 8) + 8) (1 + 4 * u28))), iv_c 2147483648, iv_c 2147483648]) (by decide +kernel) (by decide) (Nat.le_of_ble_eq_true rfl) rfl ?_
    have b234 := jB (e := 7) 0 hJ (rg_T0_7_0_1 t1) (by first | decide | omega) (by first | decide | omega)
    have p233 : ∀ (n : Nat) (v229 : Nat) (v231 : Nat), 4294967296 - v231 < n → (0 ≤ v229 ∧ v229 ≤ 4294967295) → (2147483648 ≤ v231 ∧ v231 ≤ 2147483654) → v231 ≤ (h (h 0 8) 7) → v229 = cb ((h ((h 0 8) + 8) (2 + 4 * u28))) ((h ((h 0 8) + 8) (1 + 4 * u28))) (fun b => h 46 b) (v231 - 2147483648) → X sc 135 (d + 1) (xT (fun r h' => J h' ∧ Fr 0 h h' ∧ (0 ≤ r ∧ r ≤ 4294967295) ∧ h' = h ∧ ∃ u, a1 = 2147483648 + u ∧ u < 10 ∧ a1 < tv h 5 ∧ r = cb (h (h 0 8 + 8) (2 + 4 * u)) (h (h 0 8 + 8) (1 + 4 * u)) (fun b => h 46 b) (tv h 0 - 2147483648)) (fun E h' => J h' ∧ Fr 0 h h' ∧ (E = 2) ∧ (E = 2 ∧ (a1 < 2147483648 ∨ tv h 5 ≤ a1)) ∧ h' = h)) 1 6 43 [x_r 0, iv_c a1, iv_c ((h ((h 0 8) + 8) (2 + 4 * u28))), iv_c ((h ((h 0 8) + 8) (1 + 4 * u28))), iv_c v229, iv_c v231] [] h := by
      intro n
      induction n with
      | zero => intro v229 v231 q237; exact absurd q237 (Nat.not_lt_zero _)
      | succ n i238 =>
        intro v229 v231 q237 b230 b232 b235 m236
        refine x_iload (np := 45) (x := 5) (by decide +kernel) rfl (by first | decide | omega) ?_
        refine x_aload (np := 46) (x := 0) (by decide +kernel) rfl (x_nc_le (by decide)) ?_
        refine x_getR (np := 49) (x := 648) (f := 8) (q := (h 0 8)) (by decide +kernel) (by decide) (by decide +kernel) rfl ?_
        refine x_getC (np := 52) (x := 519) (f := 7) (q := (h (h 0 8) 7)) (by decide +kernel) (by decide) (tg_0_519_7_0 t1) rfl (fun l239 => ?_)
        refine x_icmp (k := 3) (tg := 96) (np := 55) (by decide +kernel) (by decide) (by first | decide | omega) l239 (fun q240 => ?_) (fun q241 => ?_)
        · have q240 : (h (h 0 8) 7) ≤ v231 := q240
          refine x_iload (np := 98) (x := 4) (by decide +kernel) rfl (by first | decide | omega) ?_
          have e242 : tv h 0 = (h (h 0 8) 7) := (congrArg (fun z => svq h z 0) rfl).trans rfl
          have e243 : tv h 5 = (h ((h 0 8) + 7) 2) := (congrArg (fun z => svq h z 5) rfl).trans rfl
          refine x_retI (np := 99) (x := 0) (by decide +kernel) (by first | decide | omega) (Or.inl (by decide +kernel)) (Or.inl ⟨_, rfl, (by first | decide | omega), ?_⟩)
          exact ⟨hJ, hF, (by first | decide | omega), rfl, ⟨u28, by first | decide | omega, by first | decide | omega, by first | decide | omega, by rw [show tv h 0 - 2147483648 = v231 - 2147483648 by first | decide | omega]; exact m236⟩⟩
        have q241 : ¬ ((h (h 0 8) 7) ≤ v231) := q241
        refine x_iload (np := 56) (x := 2) (by decide +kernel) rfl l31 ?_
        refine x_iload (np := 58) (x := 5) (by decide +kernel) rfl (by first | decide | omega) ?_
        refine x_cP (t := 0) (mj := 148) (n := 2) (rc := 0) (ml := 2) (nr := 0) (np := 61) (as := [iv_c ((h ((h 0 8) + 8) (2 + 4 * u28))), iv_c v231]) (rest := []) (lo1 := [iv_c ((h ((h 0 8) + 8) (2 + 4 * u28))), iv_c v231]) (by decide +kernel) (by decide) (by decide +kernel) (Or.inl rfl) rfl rfl (x_wi l31 (x_wi (by first | decide | omega) x_wn)) x_wn (by decide) rfl (c148 hJ (by first | decide | omega) (by first | decide | omega)) (fun v244 l245 q246 => ?_)
        obtain ⟨b248, c247⟩ := q246
        refine x_ifz (k := 0) (tg := 90) (np := 64) (by decide +kernel) (by decide) l245 (fun q249 => ?_) (fun q250 => ?_)
        · have q249 : v244 = 2147483648 := q249
          refine x_iinc (np := 93) (i := 5) (j := 2147483649) (v := (1 + v231)) (lo' := [x_r 0, iv_c a1, iv_c ((h ((h 0 8) + 8) (2 + 4 * u28))), iv_c ((h ((h 0 8) + 8) (1 + 4 * u28))), iv_c v229, iv_c (1 + v231)]) (by decide +kernel) (by decide) (by decide) rfl (by first | decide | omega) (by first | decide | omega) (by first | decide | omega) rfl ?_
          refine x_goto (np := 96) (x := 43) (by decide +kernel) ?_
          obtain ⟨u251, q252⟩ : ∃ z, v231 = 2147483648 + z := ⟨v231 - 2147483648, by first | decide | omega⟩
          exact i238 v229 (1 + v231) (by first | decide | omega) (by first | decide | omega) (by first | decide | omega) (by first | decide | omega) (cb_n (u := u251) m236 (by first | decide | omega) (by first | decide | omega) (fun w => absurd w.1 (c247.elim (fun z => absurd z.1 (by first | decide | omega)) (fun z => z.2))) (by first | decide | omega))
        have q250 : ¬ (v244 = 2147483648) := q250
        refine x_aload (np := 65) (x := 0) (by decide +kernel) rfl (x_nc_le (by decide)) ?_
        have q253 : h 0 1 = 45 := by have z := jB (e := 1) 0 hJ rg_0_1_0_1 (by decide) (by decide); omega
        refine x_getR (np := 68) (x := 641) (f := 1) (q := 45) (by decide +kernel) (by decide) (by decide +kernel) q253 ?_
        have q254 : h 45 0 = 46 := by have z := jB (e := 0) 0 hJ rg_45_0_0_1 (by decide) (by decide); omega
        refine x_getR (np := 71) (x := 64) (f := 0) (q := 46) (by decide +kernel) (by decide) (by decide +kernel) q254 ?_
        refine x_iload (np := 73) (x := 5) (by decide +kernel) rfl (by first | decide | omega) ?_
        obtain ⟨u255, q256⟩ : ∃ z, v231 = 2147483648 + z := ⟨v231 - 2147483648, by first | decide | omega⟩
        refine x_aldC (np := 74) (x := 0) (n := 6) (i := u255) (q := (h 46 u255)) (by decide +kernel) (by decide +kernel) (by first | decide | omega) (by first | decide | omega) (by decide) rfl (fun l257 => ?_)
        refine x_iload (np := 75) (x := 3) (by decide +kernel) rfl l48 ?_
        refine x_cP (t := 0) (mj := 148) (n := 2) (rc := 0) (ml := 2) (nr := 0) (np := 78) (as := [iv_c (h 46 u255), iv_c ((h ((h 0 8) + 8) (1 + 4 * u28)))]) (rest := []) (lo1 := [iv_c (h 46 u255), iv_c ((h ((h 0 8) + 8) (1 + 4 * u28)))]) (by decide +kernel) (by decide) (by decide +kernel) (Or.inl rfl) rfl rfl (x_wi l257 (x_wi l48 x_wn)) x_wn (by decide) rfl (c148 hJ (by first | decide | omega) (by first | decide | omega)) (fun v258 l259 q260 => ?_)
        obtain ⟨b262, c261⟩ := q260
        refine x_ifz (k := 0) (tg := 90) (np := 81) (by decide +kernel) (by decide) l259 (fun q263 => ?_) (fun q264 => ?_)
        · have q263 : v258 = 2147483648 := q263
          refine x_iinc (np := 93) (i := 5) (j := 2147483649) (v := (1 + v231)) (lo' := [x_r 0, iv_c a1, iv_c ((h ((h 0 8) + 8) (2 + 4 * u28))), iv_c ((h ((h 0 8) + 8) (1 + 4 * u28))), iv_c v229, iv_c (1 + v231)]) (by decide +kernel) (by decide) (by decide) rfl (by first | decide | omega) (by first | decide | omega) (by first | decide | omega) rfl ?_
          refine x_goto (np := 96) (x := 43) (by decide +kernel) ?_
          exact i238 v229 (1 + v231) (by first | decide | omega) (by first | decide | omega) (by first | decide | omega) (by first | decide | omega) (cb_n (u := u255) m236 (by first | decide | omega) (by first | decide | omega) (fun w => absurd w.2 (c261.elim (fun z => absurd z.1 (by first | decide | omega)) (fun z => z.2))) (by first | decide | omega))
        have q264 : ¬ (v258 = 2147483648) := q264
        refine x_iload (np := 83) (x := 4) (by decide +kernel) rfl (by first | decide | omega) ?_
        refine x_const (np := 84) (x := 9223372043297226753) (a := 2147483649) (by decide +kernel) (by decide) (by decide) ?_
        refine x_iload (np := 86) (x := 5) (by decide +kernel) rfl (by first | decide | omega) ?_
        refine x_shlE (np := 87) (by decide +kernel) (by decide) (by first | decide | omega) (fun l265 => ?_)
        have b266 := bsl_b (x := v231) (by first | decide | omega) (by first | decide | omega)
        refine x_orE (np := 88) (by decide +kernel) (by first | decide | omega) l265 (fun l267 => ?_)
        refine x_istore (np := 90) (x := 4) (lo' := [x_r 0, iv_c a1, iv_c ((h ((h 0 8) + 8) (2 + 4 * u28))), iv_c ((h ((h 0 8) + 8) (1 + 4 * u28))), iv_c (bor v229 (bsl 2147483649 v231)), iv_c v231]) (by decide +kernel) l267 (Nat.le_of_ble_eq_true rfl) rfl ?_
        refine x_iinc (np := 93) (i := 5) (j := 2147483649) (v := (1 + v231)) (lo' := [x_r 0, iv_c a1, iv_c ((h ((h 0 8) + 8) (2 + 4 * u28))), iv_c ((h ((h 0 8) + 8) (1 + 4 * u28))), iv_c (bor v229 (bsl 2147483649 v231)), iv_c (1 + v231)]) (by decide +kernel) (by decide) (by decide) rfl (by first | decide | omega) (by first | decide | omega) (by first | decide | omega) rfl ?_
        refine x_goto (np := 96) (x := 43) (by decide +kernel) ?_
        exact i238 (bor v229 (bsl 2147483649 v231)) (1 + v231) (by first | decide | omega) (by first | decide | omega) (by first | decide | omega) (by first | decide | omega) (cb_y (u := u255) m236 (by first | decide | omega) (by first | decide | omega) (c247.elim (fun z => z.2) (fun z => absurd z.1 (by first | decide | omega))) (c261.elim (fun z => z.2) (fun z => absurd z.1 (by first | decide | omega))) (by first | decide | omega))
    have b268 := jB (e := 7) 0 hJ (rg_T0_7_0_1 t1) (by first | decide | omega) (by first | decide | omega)
    exact p233 _ 2147483648 2147483648 (Nat.lt_succ_self _) (by first | decide | omega) (by first | decide | omega) (by first | decide | omega) rfl
  have q10 : ¬ (a1 < (h ((h 0 8) + 7) 2)) := q10
  have e269 : tv h 5 = (h ((h 0 8) + 7) 2) := (congrArg (fun z => svq h z 5) rfl).trans rfl
  refine x_thr (np := 15) (x := 2) (by decide +kernel) (by decide +kernel) (Nat.le_trans x_wn (by decide)) (Or.inr ⟨_, rfl, ?_⟩)
  refine Or.inr ⟨_, rfl, ?_⟩
  exact ⟨hJ, hF, by decide, ⟨rfl, by first | decide | omega⟩, rfl⟩
set_option maxHeartbeats 0 in
/-- LentNamesLaw.can(LLentNames;I[J)I -/
theorem c303_0_97 {sc : Nat × Nat} {d a1 : Nat} {h : xh} (hJ : J h) (ba1 : 0 ≤ a1 ∧ a1 ≤ 4294967295) : X sc 303 (d + 2) (xI fun r h' => J h' ∧ Fr 70368744177664 h h' ∧ (2147483648 ≤ r ∧ r ≤ 2147483649) ∧ Kc h h' a1 r) 0 0 0 [x_r 0, iv_c a1, x_r 97, 147573952589676412928] [] h := by
  have la1 : a1 < 4294967296 := by first | decide | omega
  have hF := Fr.refl 70368744177664 h
  refine x_aload (np := 1) (x := 2) (by decide +kernel) rfl (x_nc_le (by decide)) ?_
  refine x_const (np := 2) (x := 9223372039002259456) (a := 2147483648) (by decide +kernel) (by decide) (by decide) ?_
  refine x_aload (np := 3) (x := 0) (by decide +kernel) rfl (x_nc_le (by decide)) ?_
  refine x_iload (np := 4) (x := 1) (by decide +kernel) rfl la1 ?_
  refine x_cT (t := 6) (mj := 135) (n := 2) (rc := 11) (ml := 6) (cc := 1) (ss := 6) (nr := 2) (np := 7) (as := [x_r 0, iv_c a1]) (rest := [iv_c 2147483648, x_r 97]) (lo1 := [x_r 0, iv_c a1, 147573952589676412928, 147573952589676412928, 147573952589676412928, 147573952589676412928]) (by decide +kernel) (by decide) (by decide +kernel) (x_rb_of (by decide +kernel)) rfl rfl (x_wr (by decide) (x_wi la1 x_wn)) (x_wi (by decide) (x_wr (by decide) x_wn)) (by decide) rfl (c135_0 hJ  (by first | decide | omega)) (fun v5 h8 l6 q7 => ?_) (fun E10 h11 q9 => ?_)
  · obtain ⟨j12, f13, b14, c1, c2⟩ := q7
    have f15 := Fr.trans hF f13 (by decide)
    refine x_i2l (np := 8) (x := 0) (by decide +kernel) l6 ?_
    refine x_last (np := 9) (x := 0) (n := 1) (i := 0) (by decide +kernel) (by decide) (by decide +kernel) (by decide +kernel) (by first | decide | omega) (by first | decide | omega) (by decide) l6 ?_
    have j17 := jU (e := 0) (v := v5) 0 j12 rg_97_0_1_1 (by first | decide | omega) (by first | decide | omega) (by first | decide | omega)
    have f19 := jF (e := 0) (v := v5) 0 f15 rg_97_0_1_1 (by first | decide | omega) (by first | decide | omega) (by decide)
    generalize e18 : x_up h8 97 0 v5 = h16 at j17 f19 ⊢
    refine x_goto (np := 12) (x := 15) (by decide +kernel) ?_
    refine x_const (np := 16) (x := 9223372039002259456) (a := 2147483648) (by decide +kernel) (by decide) (by decide) ?_
    obtain ⟨z20, z21, z22, z23, z24⟩ := c2
    refine x_retI (np := 17) (x := 0) (by decide +kernel) (by decide) (Or.inl (by decide +kernel)) ⟨_, rfl, (by decide), ?_⟩
    exact ⟨j17, f19, (by first | decide | omega), (Or.inl ⟨by first | decide | omega, z20, z21, z22, z23, by rw [← e18]; exact x_up_at.trans z24⟩)⟩
  obtain ⟨j25, f26, e27, c3, c4⟩ := q9
  have f28 := Fr.trans hF f26 (by decide)
  rcases e27 with rfl
  · refine ⟨12, fun _ _ => rfl, ?_⟩
    refine x_astE (np := 13) (x := 3) (lo' := [x_r 0, iv_c a1, x_r 97, 55340232221128654850]) (by decide +kernel) (Nat.le_of_ble_eq_true rfl) rfl ?_
    refine x_const (np := 14) (x := 9223372043297226753) (a := 2147483649) (by decide +kernel) (by decide) (by decide) ?_
    refine x_retI (np := 15) (x := 0) (by decide +kernel) (by decide) (Or.inl (by decide +kernel)) ⟨_, rfl, (by decide), ?_⟩
    exact ⟨j25, f28, (by first | decide | omega), (Or.inr ⟨by first | decide | omega, c3.2⟩)⟩
set_option maxHeartbeats 0 in
/-- LentNames$Town.knownBy(I)I -/
theorem c87_T0 {sc : Nat × Nat} {d ra0 a1 : Nat} {h : xh} (hJ : J h) (ta0 : tw ra0) (ba1 : 0 ≤ a1 ∧ a1 ≤ 4294967295) : X sc 87 (d + 1) (xI fun r h' => h' = h ∧ (0 ≤ r ∧ r ≤ 4294967295)) 0 0 0 [x_r ra0, iv_c a1, 147573952589676412928, 147573952589676412928] [] h := by
  have la1 : a1 < 4294967296 := by first | decide | omega
  refine x_const (np := 1) (x := 9223372039002259456) (a := 2147483648) (by decide +kernel) (by decide) (by decide) ?_
  refine x_istore (np := 2) (x := 2) (lo' := [x_r ra0, iv_c a1, iv_c 2147483648, 147573952589676412928]) (by decide +kernel) (by decide) (Nat.le_of_ble_eq_true rfl) rfl ?_
  refine x_const (np := 3) (x := 9223372039002259456) (a := 2147483648) (by decide +kernel) (by decide) (by decide) ?_
  refine x_istore (np := 4) (x := 3) (lo' := [x_r ra0, iv_c a1, iv_c 2147483648, iv_c 2147483648]) (by decide +kernel) (by decide) (Nat.le_of_ble_eq_true rfl) rfl ?_
  have p329 : ∀ (n : Nat) (v325 : Nat) (v327 : Nat), 4294967296 - v327 < n → (0 ≤ v325 ∧ v325 ≤ 4294967295) → (2147483648 ≤ v327 ∧ v327 ≤ 2147483658) → X sc 87 (d + 1) (xI fun r h' => h' = h ∧ (0 ≤ r ∧ r ≤ 4294967295)) 0 0 4 [x_r ra0, iv_c a1, iv_c v325, iv_c v327] [] h := by
    intro n
    induction n with
    | zero => intro v325 v327 q330; exact absurd q330 (Nat.not_lt_zero _)
    | succ n i331 =>
      intro v325 v327 q330 b326 b328
      refine x_iload (np := 5) (x := 3) (by decide +kernel) rfl (by first | decide | omega) ?_
      refine x_aload (np := 6) (x := 0) (by decide +kernel) rfl (x_nc_le (tn_0 ta0)) ?_
      have q332 : h ra0 3 = (ra0 + 7) := tf_0_3 hJ ta0
      refine x_getR (np := 9) (x := 515) (f := 3) (q := (ra0 + 7)) (by decide +kernel) (by decide) (tg_0_515_3_1 ta0) q332 ?_
      have b333 := jB (e := 2) 0 hJ (rg_T7_2_0_1 ta0) (by first | decide | omega) (by first | decide | omega)
      refine x_getC (np := 12) (x := 386) (f := 2) (q := (h (ra0 + 7) 2)) (by decide +kernel) (by decide) (tg_7_386_2_0 ta0) rfl (fun l334 => ?_)
      refine x_icmp (k := 3) (tg := 40) (np := 15) (by decide +kernel) (by decide) (by first | decide | omega) l334 (fun q335 => ?_) (fun q336 => ?_)
      · have q335 : (h (ra0 + 7) 2) ≤ v327 := q335
        refine x_iload (np := 41) (x := 2) (by decide +kernel) rfl (by first | decide | omega) ?_
        refine x_retI (np := 42) (x := 0) (by decide +kernel) (by first | decide | omega) (Or.inl (by decide +kernel)) ⟨_, rfl, (by first | decide | omega), ?_⟩
        exact ⟨rfl, (by first | decide | omega)⟩
      have q336 : ¬ ((h (ra0 + 7) 2) ≤ v327) := q336
      refine x_aload (np := 16) (x := 0) (by decide +kernel) rfl (x_nc_le (tn_0 ta0)) ?_
      have q337 : h ra0 3 = (ra0 + 7) := tf_0_3 hJ ta0
      refine x_getR (np := 19) (x := 515) (f := 3) (q := (ra0 + 7)) (by decide +kernel) (by decide) (tg_0_515_3_1 ta0) q337 ?_
      refine x_iload (np := 20) (x := 3) (by decide +kernel) rfl (by first | decide | omega) ?_
      refine x_const (np := 21) (x := 9223372051887161347) (a := 2147483651) (by decide +kernel) (by decide) (by decide) ?_
      refine x_nI (t := 6) (mj := 68) (n := 3) (rc := 7) (ml := 4) (nr := 0) (np := 24) (as := [x_r (ra0 + 7), iv_c v327, iv_c 2147483651]) (rest := []) (lo1 := [x_r (ra0 + 7), iv_c v327, iv_c 2147483651, 147573952589676412928]) (by decide +kernel) (by decide) (by decide +kernel) (x_rb_of (tr_7_7 ta0)) rfl rfl (x_wr (tn_7 ta0) (x_wi (by first | decide | omega) (x_wi (by decide) x_wn))) x_wn (by decide) rfl ?_
      refine x_iload (np := 1) (x := 1) (by decide +kernel) rfl (by first | decide | omega) ?_
      refine x_ifz (k := 2) (tg := 28) (np := 4) (by decide +kernel) (by decide) (by first | decide | omega) (fun q338 => ?_) (fun q339 => ?_)
      · have q338 : v327 < 2147483648 := q338
        exfalso; omega
      have q339 : ¬ (v327 < 2147483648) := q339
      refine x_iload (np := 5) (x := 1) (by decide +kernel) rfl (by first | decide | omega) ?_
      refine x_aload (np := 6) (x := 0) (by decide +kernel) rfl (x_nc_le (tn_7 ta0)) ?_
      refine x_getC (np := 9) (x := 386) (f := 2) (q := (h (ra0 + 7) 2)) (by decide +kernel) (by decide) (tg_7_386_2_0 ta0) rfl (fun l340 => ?_)
      refine x_icmp (k := 3) (tg := 28) (np := 12) (by decide +kernel) (by decide) (by first | decide | omega) l334 (fun q341 => ?_) (fun q342 => ?_)
      · have q341 : (h (ra0 + 7) 2) ≤ v327 := q341
        exfalso; omega
      have q342 : ¬ ((h (ra0 + 7) 2) ≤ v327) := q342
      refine x_iload (np := 13) (x := 2) (by decide +kernel) rfl (by decide) ?_
      refine x_ifz (k := 2) (tg := 28) (np := 16) (by decide +kernel) (by decide) (by decide) (fun q343 => ?_) (fun q344 => ?_)
      · have q343 : 2147483651 < 2147483648 := q343
        exfalso; omega
      have q344 : ¬ (2147483651 < 2147483648) := q344
      refine x_iload (np := 17) (x := 2) (by decide +kernel) rfl (by decide) ?_
      refine x_aload (np := 18) (x := 0) (by decide +kernel) rfl (x_nc_le (tn_7 ta0)) ?_
      have b345 := jB (e := 0) 0 hJ (rg_T7_0_0_1 ta0) (by first | decide | omega) (by first | decide | omega)
      have q346 : (h (ra0 + 7) 0) = 2147483652 := by first | decide | omega
      refine x_getC (np := 21) (x := 384) (f := 0) (q := 2147483652) (by decide +kernel) (by decide) (tg_7_384_0_0 ta0) q346 (fun l347 => ?_)
      refine x_icmp (k := 3) (tg := 28) (np := 24) (by decide +kernel) (by decide) (by decide) (by decide) (fun q348 => ?_) (fun q349 => ?_)
      · have q348 : 2147483652 ≤ 2147483651 := q348
        exfalso; omega
      have q349 : ¬ (2147483652 ≤ 2147483651) := q349
      refine x_const (np := 25) (x := 9223372043297226753) (a := 2147483649) (by decide +kernel) (by decide) (by decide) ?_
      refine x_goto (np := 28) (x := 29) (by decide +kernel) ?_
      refine x_istore (np := 30) (x := 3) (lo' := [x_r (ra0 + 7), iv_c v327, iv_c 2147483651, iv_c 2147483649]) (by decide +kernel) (by decide) (Nat.le_of_ble_eq_true rfl) rfl ?_
      refine x_iload (np := 31) (x := 3) (by decide +kernel) rfl (by decide) ?_
      refine x_ifz (k := 0) (tg := 50) (np := 34) (by decide +kernel) (by decide) (by decide) (fun q350 => ?_) (fun q351 => ?_)
      · have q350 : 2147483649 = 2147483648 := q350
        exfalso; omega
      have q351 : ¬ (2147483649 = 2147483648) := q351
      refine x_aload (np := 35) (x := 0) (by decide +kernel) rfl (x_nc_le (tn_7 ta0)) ?_
      have q352 : h (ra0 + 7) 1 = (ra0 + 8) := tf_7_1 hJ ta0
      refine x_getR (np := 38) (x := 385) (f := 1) (q := (ra0 + 8)) (by decide +kernel) (by decide) (tg_7_385_1_1 ta0) q352 ?_
      refine x_iload (np := 39) (x := 1) (by decide +kernel) rfl (by first | decide | omega) ?_
      refine x_aload (np := 40) (x := 0) (by decide +kernel) rfl (x_nc_le (tn_7 ta0)) ?_
      refine x_getC (np := 43) (x := 384) (f := 0) (q := 2147483652) (by decide +kernel) (by decide) (tg_7_384_0_0 ta0) q346 (fun l353 => ?_)
      obtain ⟨u354, q355⟩ : ∃ z, v327 = 2147483648 + z := ⟨v327 - 2147483648, by first | decide | omega⟩
      refine x_imul (np := 44) (x := 0) (i := u354) (j := 4) (v := (2147483648 + 4 * u354)) (by decide +kernel) (by first | decide | omega) (by first | decide | omega) (by first | decide | omega) (by first | decide | omega) (by first | decide | omega) (by decide) ?_
      refine x_iload (np := 45) (x := 2) (by decide +kernel) rfl (by decide) ?_
      refine x_iadd (np := 46) (x := 0) (v := (2147483651 + 4 * u354)) (by decide +kernel) (by first | decide | omega) (by decide) (by first | decide | omega) (by first | decide | omega) ?_
      refine x_aldC (np := 47) (x := 0) (n := 40) (i := (3 + 4 * u354)) (q := ((h (ra0 + 8) (3 + 4 * u354)))) (by decide +kernel) (ta_8_40 ta0) (by first | decide | omega) (by first | decide | omega) (by decide) rfl (fun l357 => ?_)
      refine x_goto (np := 50) (x := 51) (by decide +kernel) ?_
      refine x_retI (np := 52) (x := 0) (by decide +kernel) l357 (Or.inl (by decide +kernel)) ⟨_, rfl, l357, ?_⟩
      refine x_iload (np := 25) (x := 1) (by decide +kernel) rfl la1 ?_
      refine x_icmp (k := 4) (tg := 34) (np := 28) (by decide +kernel) (by decide) l357 la1 (fun q358 => ?_) (fun q359 => ?_)
      · have q358 : a1 < ((h (ra0 + 8) (3 + 4 * u354))) := q358
        refine x_iinc (np := 37) (i := 3) (j := 2147483649) (v := (1 + v327)) (lo' := [x_r ra0, iv_c a1, iv_c v325, iv_c (1 + v327)]) (by decide +kernel) (by decide) (by decide) rfl (by first | decide | omega) (by first | decide | omega) (by first | decide | omega) rfl ?_
        refine x_goto (np := 40) (x := 4) (by decide +kernel) ?_
        exact i331 v325 (1 + v327) (by first | decide | omega) (by first | decide | omega) (by first | decide | omega)
      have q359 : ¬ (a1 < ((h (ra0 + 8) (3 + 4 * u354)))) := q359
      refine x_iload (np := 29) (x := 2) (by decide +kernel) rfl (by first | decide | omega) ?_
      refine x_const (np := 30) (x := 9223372043297226753) (a := 2147483649) (by decide +kernel) (by decide) (by decide) ?_
      refine x_iload (np := 31) (x := 3) (by decide +kernel) rfl (by first | decide | omega) ?_
      refine x_any (np := 32) (k9 := 3) (by decide +kernel) (by decide) (by decide) (by first | decide | omega) (fun v360 l361 => ?_)
      refine x_any (np := 33) (k9 := 1) (by decide +kernel) (by decide) (by first | decide | omega) l361 (fun v362 l363 => ?_)
      refine x_istore (np := 34) (x := 2) (lo' := [x_r ra0, iv_c a1, iv_c v362, iv_c v327]) (by decide +kernel) l363 (Nat.le_of_ble_eq_true rfl) rfl ?_
      refine x_iinc (np := 37) (i := 3) (j := 2147483649) (v := (1 + v327)) (lo' := [x_r ra0, iv_c a1, iv_c v362, iv_c (1 + v327)]) (by decide +kernel) (by decide) (by decide) rfl (by first | decide | omega) (by first | decide | omega) (by first | decide | omega) rfl ?_
      refine x_goto (np := 40) (x := 4) (by decide +kernel) ?_
      exact i331 v362 (1 + v327) (by first | decide | omega) (by first | decide | omega) (by first | decide | omega)
  exact p329 _ 2147483648 2147483648 (Nat.lt_succ_self _) (by first | decide | omega) (by first | decide | omega)
set_option maxHeartbeats 0 in
/-- LentNames$SecretSearch.setEnds()V -/
theorem c62_69 {sc : Nat × Nat} {d  : Nat} {h : xh} (hJ : J h) : X sc 62 (d + 2) (xV fun h' => J h' ∧ Fr 65537 h h') 0 0 0 [x_r 69, 147573952589676412928, 147573952589676412928] [] h := by
  have hF := Fr.refl 65537 h
  refine x_aload (np := 1) (x := 0) (by decide +kernel) rfl (x_nc_le (by decide)) ?_
  refine x_aload (np := 2) (x := 0) (by decide +kernel) rfl (x_nc_le (by decide)) ?_
  have t1 : tw (h 69 6) := hJ.2.2.2.2.2.2.1
  refine x_getR (np := 5) (x := 774) (f := 6) (q := (h 69 6)) (by decide +kernel) (by decide) (by decide +kernel) rfl ?_
  refine x_aload (np := 6) (x := 0) (by decide +kernel) rfl (x_nc_le (by decide)) ?_
  refine x_getC (np := 9) (x := 775) (f := 7) (q := (h 69 7)) (by decide +kernel) (by decide) (by decide +kernel) rfl (fun l2 => ?_)
  refine x_cP (t := 6) (mj := 87) (n := 2) (rc := 9) (ml := 4) (nr := 1) (np := 12) (as := [x_r (h 69 6), iv_c (h 69 7)]) (rest := [x_r 69]) (lo1 := [x_r (h 69 6), iv_c (h 69 7), 147573952589676412928, 147573952589676412928]) (by decide +kernel) (by decide) (by decide +kernel) (x_rb_of (tr_0_9 t1)) rfl rfl (x_wr (tn_0 t1) (x_wi l2 x_wn)) (x_wr (by decide) x_wn) (by decide) rfl (c87_T0 hJ t1 (by first | decide | omega)) (fun v3 l4 q5 => ?_)
  refine x_putI (np := 15) (x := 338) (f := 18) (by decide +kernel) (by decide +kernel) l4 (Or.inl (by decide)) ?_
  have j7 := jU (e := 18) (v := v3) 0 hJ rg_69_18_0_1 (by first | decide | omega) (by first | decide | omega) (by first | decide | omega)
  have f9 := jF (e := 18) (v := v3) 0 hF rg_69_18_0_1 (by first | decide | omega) (by first | decide | omega) (by decide)
  generalize e8 : x_up h 69 18 v3 = h6 at j7 f9 ⊢
  refine x_const (np := 16) (x := 9223372039002259456) (a := 2147483648) (by decide +kernel) (by decide) (by decide) ?_
  refine x_istore (np := 17) (x := 1) (lo' := [x_r 69, iv_c 2147483648, 147573952589676412928]) (by decide +kernel) (by decide) (Nat.le_of_ble_eq_true rfl) rfl ?_
  have p6938 : ∀ (n : Nat) (v6932 : Nat) (w6934 : Nat) (h6935 : xh), 4294967296 - v6932 < n → (2147483648 ≤ v6932 ∧ v6932 ≤ 2147483654) → J h6935 → Fr 65536 h6 h6935 → X sc 62 (d + 2) (xV fun h' => J h' ∧ Fr 65537 h h') 0 0 17 [x_r 69, iv_c v6932, w6934] [] h6935 := by
    intro n
    induction n with
    | zero => intro v6932 w6934 h6935 q6939; exact absurd q6939 (Nat.not_lt_zero _)
    | succ n i6940 =>
      intro v6932 w6934 h6935 q6939 b6933 j6937 f6936
      have f6941 := Fr.trans f9 f6936 (by decide)
      refine x_iload (np := 18) (x := 1) (by decide +kernel) rfl (by first | decide | omega) ?_
      refine x_const (np := 20) (x := 9223372064772063238) (a := 2147483654) (by decide +kernel) (by decide) (by decide) ?_
      refine x_icmp (k := 3) (tg := 108) (np := 23) (by decide +kernel) (by decide) (by first | decide | omega) (by decide) (fun q6942 => ?_) (fun q6943 => ?_)
      · have q6942 : 2147483654 ≤ v6932 := q6942
        refine x_retV (np := 109) (x := 0) (by decide +kernel) (by decide +kernel) ⟨rfl, ?_⟩
        exact ⟨j6937, f6941⟩
      have q6943 : ¬ (2147483654 ≤ v6932) := q6943
      refine x_aload (np := 24) (x := 0) (by decide +kernel) rfl (x_nc_le (by decide)) ?_
      have q6944 : h6935 69 1 = 71 := by have z := jB (e := 1) 0 j6937 rg_69_1_0_1 (by decide) (by decide); omega
      refine x_getR (np := 27) (x := 769) (f := 1) (q := 71) (by decide +kernel) (by decide) (by decide +kernel) q6944 ?_
      refine x_iload (np := 28) (x := 1) (by decide +kernel) rfl (by first | decide | omega) ?_
      refine x_const (np := 29) (x := 9223372039002259456) (a := 2147483648) (by decide +kernel) (by decide) (by decide) ?_
      obtain ⟨u6945, q6946⟩ : ∃ z, v6932 = 2147483648 + z := ⟨v6932 - 2147483648, by first | decide | omega⟩
      refine x_ast (np := 30) (x := 0) (kd := 1) (n := 6) (i := u6945) (by decide +kernel) (Or.inl rfl) (by decide +kernel) (by first | decide | omega) (by first | decide | omega) (by decide) (by decide) (fun z => absurd z (by decide)) ?_
      have j6948 := jU (e := u6945) (v := 2147483648) u6945 j6937 rg_71_0_1_6 (by first | decide | omega) (by first | decide | omega) (by first | decide | omega)
      have f6950 := jF (e := u6945) (v := 2147483648) u6945 f6941 rg_71_0_1_6 (by first | decide | omega) (by first | decide | omega) (by decide)
      have f6951 := jF (e := u6945) (v := 2147483648) u6945 f6936 rg_71_0_1_6 (by first | decide | omega) (by first | decide | omega) (by decide)
      generalize e6949 : x_up h6935 71 u6945 2147483648 = h6947 at j6948 f6950 f6951 ⊢
      refine x_const (np := 31) (x := 9223372039002259456) (a := 2147483648) (by decide +kernel) (by decide) (by decide) ?_
      refine x_istore (np := 32) (x := 2) (lo' := [x_r 69, iv_c v6932, iv_c 2147483648]) (by decide +kernel) (by decide) (Nat.le_of_ble_eq_true rfl) rfl ?_
      have p7992 : ∀ (n : Nat) (v7987 : Nat) (h7989 : xh), 4294967296 - v7987 < n → (2147483648 ≤ v7987 ∧ v7987 ≤ 2147483658) → J h7989 → Fr 65536 h6947 h7989 → X sc 62 (d + 2) (xV fun h' => J h' ∧ Fr 65537 h h') 0 0 32 [x_r 69, iv_c v6932, iv_c v7987] [] h7989 := by
        intro n
        induction n with
        | zero => intro v7987 h7989 q7993; exact absurd q7993 (Nat.not_lt_zero _)
        | succ n i7994 =>
          intro v7987 h7989 q7993 b7988 j7991 f7990
          have f7995 := Fr.trans f6950 f7990 (by decide)
          have f7996 := Fr.trans f6951 f7990 (by decide)
          refine x_iload (np := 33) (x := 2) (by decide +kernel) rfl (by first | decide | omega) ?_
          refine x_aload (np := 34) (x := 0) (by decide +kernel) rfl (x_nc_le (by decide)) ?_
          have t7997 : tw (h7989 69 6) := j7991.2.2.2.2.2.2.1
          refine x_getR (np := 37) (x := 774) (f := 6) (q := (h7989 69 6)) (by decide +kernel) (by decide) (by decide +kernel) rfl ?_
          have q7998 : h7989 (h7989 69 6) 3 = ((h7989 69 6) + 7) := tf_0_3 j7991 t7997
          refine x_getR (np := 40) (x := 515) (f := 3) (q := ((h7989 69 6) + 7)) (by decide +kernel) (by decide) (tg_0_515_3_1 t7997) q7998 ?_
          have q7999 : h7989 ((h7989 69 6) + 7) 2 = h6947 ((h7989 69 6) + 7) 2 := jK 0 f7990 (rg_T7_2_0_1 t7997) (by first | decide | omega) (by first | decide | omega) (by decide)
          have q8000 : h6947 ((h7989 69 6) + 7) 2 = h6935 ((h7989 69 6) + 7) 2 := by rw [← e6949]; exact x_up_k (tne_7_71 t7997)
          have q8001 : h6935 ((h7989 69 6) + 7) 2 = h6 ((h7989 69 6) + 7) 2 := jK 0 f6936 (rg_T7_2_0_1 t7997) (by first | decide | omega) (by first | decide | omega) (by decide)
          have q8002 : h6 ((h7989 69 6) + 7) 2 = h ((h7989 69 6) + 7) 2 := by rw [← e8]; exact x_up_k (tne_7_69 t7997)
          have b8003 := jB (e := 2) 0 hJ (rg_T7_2_0_1 t7997) (by first | decide | omega) (by first | decide | omega)
          refine x_getC (np := 43) (x := 386) (f := 2) (q := (h ((h7989 69 6) + 7) 2)) (by decide +kernel) (by decide) (tg_7_386_2_0 t7997) (((q7999.trans q8000).trans q8001).trans q8002) (fun l8004 => ?_)
          refine x_icmp (k := 3) (tg := 102) (np := 46) (by decide +kernel) (by decide) (by first | decide | omega) l8004 (fun q8005 => ?_) (fun q8006 => ?_)
          · have q8005 : (h ((h7989 69 6) + 7) 2) ≤ v7987 := q8005
            refine x_iinc (np := 105) (i := 1) (j := 2147483649) (v := (1 + v6932)) (lo' := [x_r 69, iv_c (1 + v6932), iv_c v7987]) (by decide +kernel) (by decide) (by decide) rfl (by first | decide | omega) (by first | decide | omega) (by first | decide | omega) rfl ?_
            refine x_goto (np := 108) (x := 17) (by decide +kernel) ?_
            exact i6940 (1 + v6932) (iv_c v7987) h7989 (by first | decide | omega) (by first | decide | omega) j7991 f7996
          have q8006 : ¬ ((h ((h7989 69 6) + 7) 2) ≤ v7987) := q8006
          refine x_aload (np := 47) (x := 0) (by decide +kernel) rfl (x_nc_le (by decide)) ?_
          refine x_getC (np := 50) (x := 338) (f := 18) (q := (h7989 69 18)) (by decide +kernel) (by decide) (by decide +kernel) rfl (fun l8007 => ?_)
          refine x_iload (np := 51) (x := 2) (by decide +kernel) rfl (by first | decide | omega) ?_
          refine x_cP (t := 7) (mj := 148) (n := 2) (rc := 0) (ml := 2) (nr := 0) (np := 54) (as := [iv_c (h7989 69 18), iv_c v7987]) (rest := []) (lo1 := [iv_c (h7989 69 18), iv_c v7987]) (by decide +kernel) (by decide) (by decide +kernel) (Or.inl rfl) rfl rfl (x_wi l8007 (x_wi (by first | decide | omega) x_wn)) x_wn (by decide) rfl (c148 j7991 (by first | decide | omega) (by first | decide | omega)) (fun v8008 l8009 q8010 => ?_)
          obtain ⟨b8012, c8011⟩ := q8010
          refine x_ifz (k := 0) (tg := 96) (np := 57) (by decide +kernel) (by decide) l8009 (fun q8013 => ?_) (fun q8014 => ?_)
          · have q8013 : v8008 = 2147483648 := q8013
            refine x_iinc (np := 99) (i := 2) (j := 2147483649) (v := (1 + v7987)) (lo' := [x_r 69, iv_c v6932, iv_c (1 + v7987)]) (by decide +kernel) (by decide) (by decide) rfl (by first | decide | omega) (by first | decide | omega) (by first | decide | omega) rfl ?_
            refine x_goto (np := 102) (x := 32) (by decide +kernel) ?_
            exact i7994 (1 + v7987) h7989 (by first | decide | omega) (by first | decide | omega) j7991 f7990
          have q8014 : ¬ (v8008 = 2147483648) := q8014
          refine x_aload (np := 58) (x := 0) (by decide +kernel) rfl (x_nc_le (by decide)) ?_
          refine x_getR (np := 61) (x := 774) (f := 6) (q := (h7989 69 6)) (by decide +kernel) (by decide) (by decide +kernel) rfl ?_
          have q8015 : h7989 (h7989 69 6) 3 = ((h7989 69 6) + 7) := tf_0_3 j7991 t7997
          refine x_getR (np := 64) (x := 515) (f := 3) (q := ((h7989 69 6) + 7)) (by decide +kernel) (by decide) (tg_0_515_3_1 t7997) q8015 ?_
          refine x_iload (np := 65) (x := 2) (by decide +kernel) rfl (by first | decide | omega) ?_
          refine x_const (np := 66) (x := 9223372039002259456) (a := 2147483648) (by decide +kernel) (by decide) (by decide) ?_
          refine x_nI (t := 6) (mj := 68) (n := 3) (rc := 7) (ml := 4) (nr := 0) (np := 69) (as := [x_r ((h7989 69 6) + 7), iv_c v7987, iv_c 2147483648]) (rest := []) (lo1 := [x_r ((h7989 69 6) + 7), iv_c v7987, iv_c 2147483648, 147573952589676412928]) (by decide +kernel) (by decide) (by decide +kernel) (x_rb_of (tr_7_7 t7997)) rfl rfl (x_wr (tn_7 t7997) (x_wi (by first | decide | omega) (x_wi (by decide) x_wn))) x_wn (by decide) rfl ?_
          refine x_iload (np := 1) (x := 1) (by decide +kernel) rfl (by first | decide | omega) ?_
          refine x_ifz (k := 2) (tg := 28) (np := 4) (by decide +kernel) (by decide) (by first | decide | omega) (fun q8020 => ?_) (fun q8021 => ?_)
          · have q8020 : v7987 < 2147483648 := q8020
            exfalso; omega
          have q8021 : ¬ (v7987 < 2147483648) := q8021
          refine x_iload (np := 5) (x := 1) (by decide +kernel) rfl (by first | decide | omega) ?_
          refine x_aload (np := 6) (x := 0) (by decide +kernel) rfl (x_nc_le (tn_7 t7997)) ?_
          have q8022 : h7989 ((h7989 69 6) + 7) 2 = h6947 ((h7989 69 6) + 7) 2 := jK 0 f7990 (rg_T7_2_0_1 t7997) (by first | decide | omega) (by first | decide | omega) (by decide)
          have q8023 : h6947 ((h7989 69 6) + 7) 2 = h6935 ((h7989 69 6) + 7) 2 := by rw [← e6949]; exact x_up_k (tne_7_71 t7997)
          have q8024 : h6935 ((h7989 69 6) + 7) 2 = h6 ((h7989 69 6) + 7) 2 := jK 0 f6936 (rg_T7_2_0_1 t7997) (by first | decide | omega) (by first | decide | omega) (by decide)
          have q8025 : h6 ((h7989 69 6) + 7) 2 = h ((h7989 69 6) + 7) 2 := by rw [← e8]; exact x_up_k (tne_7_69 t7997)
          refine x_getC (np := 9) (x := 386) (f := 2) (q := (h ((h7989 69 6) + 7) 2)) (by decide +kernel) (by decide) (tg_7_386_2_0 t7997) (((q8022.trans q8023).trans q8024).trans q8025) (fun l8026 => ?_)
          refine x_icmp (k := 3) (tg := 28) (np := 12) (by decide +kernel) (by decide) (by first | decide | omega) l8004 (fun q8027 => ?_) (fun q8028 => ?_)
          · have q8027 : (h ((h7989 69 6) + 7) 2) ≤ v7987 := q8027
            exfalso; omega
          have q8028 : ¬ ((h ((h7989 69 6) + 7) 2) ≤ v7987) := q8028
          refine x_iload (np := 13) (x := 2) (by decide +kernel) rfl (by decide) ?_
          refine x_ifz (k := 2) (tg := 28) (np := 16) (by decide +kernel) (by decide) (by decide) (fun q8029 => ?_) (fun q8030 => ?_)
          · have q8029 : 2147483648 < 2147483648 := q8029
            exfalso; omega
          have q8030 : ¬ (2147483648 < 2147483648) := q8030
          refine x_iload (np := 17) (x := 2) (by decide +kernel) rfl (by decide) ?_
          refine x_aload (np := 18) (x := 0) (by decide +kernel) rfl (x_nc_le (tn_7 t7997)) ?_
          have q8031 : h7989 ((h7989 69 6) + 7) 0 = h6947 ((h7989 69 6) + 7) 0 := jK 0 f7990 (rg_T7_0_0_1 t7997) (by first | decide | omega) (by first | decide | omega) (by decide)
          have q8032 : h6947 ((h7989 69 6) + 7) 0 = h6935 ((h7989 69 6) + 7) 0 := by rw [← e6949]; exact x_up_k (tne_7_71 t7997)
          have q8033 : h6935 ((h7989 69 6) + 7) 0 = h6 ((h7989 69 6) + 7) 0 := jK 0 f6936 (rg_T7_0_0_1 t7997) (by first | decide | omega) (by first | decide | omega) (by decide)
          have q8034 : h6 ((h7989 69 6) + 7) 0 = h ((h7989 69 6) + 7) 0 := by rw [← e8]; exact x_up_k (tne_7_69 t7997)
          have b8035 := jB (e := 0) 0 hJ (rg_T7_0_0_1 t7997) (by first | decide | omega) (by first | decide | omega)
          have q8036 : (h ((h7989 69 6) + 7) 0) = 2147483652 := by first | decide | omega
          refine x_getC (np := 21) (x := 384) (f := 0) (q := 2147483652) (by decide +kernel) (by decide) (tg_7_384_0_0 t7997) ((((q8031.trans q8032).trans q8033).trans q8034).trans q8036) (fun l8037 => ?_)
          refine x_icmp (k := 3) (tg := 28) (np := 24) (by decide +kernel) (by decide) (by decide) (by decide) (fun q8038 => ?_) (fun q8039 => ?_)
          · have q8038 : 2147483652 ≤ 2147483648 := q8038
            exfalso; omega
          have q8039 : ¬ (2147483652 ≤ 2147483648) := q8039
          refine x_const (np := 25) (x := 9223372043297226753) (a := 2147483649) (by decide +kernel) (by decide) (by decide) ?_
          refine x_goto (np := 28) (x := 29) (by decide +kernel) ?_
          refine x_istore (np := 30) (x := 3) (lo' := [x_r ((h7989 69 6) + 7), iv_c v7987, iv_c 2147483648, iv_c 2147483649]) (by decide +kernel) (by decide) (Nat.le_of_ble_eq_true rfl) rfl ?_
          refine x_iload (np := 31) (x := 3) (by decide +kernel) rfl (by decide) ?_
          refine x_ifz (k := 0) (tg := 50) (np := 34) (by decide +kernel) (by decide) (by decide) (fun q8040 => ?_) (fun q8041 => ?_)
          · have q8040 : 2147483649 = 2147483648 := q8040
            exfalso; omega
          have q8041 : ¬ (2147483649 = 2147483648) := q8041
          refine x_aload (np := 35) (x := 0) (by decide +kernel) rfl (x_nc_le (tn_7 t7997)) ?_
          have q8042 : h7989 ((h7989 69 6) + 7) 1 = ((h7989 69 6) + 8) := tf_7_1 j7991 t7997
          refine x_getR (np := 38) (x := 385) (f := 1) (q := ((h7989 69 6) + 8)) (by decide +kernel) (by decide) (tg_7_385_1_1 t7997) q8042 ?_
          refine x_iload (np := 39) (x := 1) (by decide +kernel) rfl (by first | decide | omega) ?_
          refine x_aload (np := 40) (x := 0) (by decide +kernel) rfl (x_nc_le (tn_7 t7997)) ?_
          have q8043 : h7989 ((h7989 69 6) + 7) 0 = h6947 ((h7989 69 6) + 7) 0 := jK 0 f7990 (rg_T7_0_0_1 t7997) (by first | decide | omega) (by first | decide | omega) (by decide)
          have q8044 : h6947 ((h7989 69 6) + 7) 0 = h6935 ((h7989 69 6) + 7) 0 := by rw [← e6949]; exact x_up_k (tne_7_71 t7997)
          have q8045 : h6935 ((h7989 69 6) + 7) 0 = h6 ((h7989 69 6) + 7) 0 := jK 0 f6936 (rg_T7_0_0_1 t7997) (by first | decide | omega) (by first | decide | omega) (by decide)
          have q8046 : h6 ((h7989 69 6) + 7) 0 = h ((h7989 69 6) + 7) 0 := by rw [← e8]; exact x_up_k (tne_7_69 t7997)
          refine x_getC (np := 43) (x := 384) (f := 0) (q := 2147483652) (by decide +kernel) (by decide) (tg_7_384_0_0 t7997) ((((q8043.trans q8044).trans q8045).trans q8046).trans q8036) (fun l8047 => ?_)
          obtain ⟨u8048, q8049⟩ : ∃ z, v7987 = 2147483648 + z := ⟨v7987 - 2147483648, by first | decide | omega⟩
          refine x_imul (np := 44) (x := 0) (i := u8048) (j := 4) (v := (2147483648 + 4 * u8048)) (by decide +kernel) (by first | decide | omega) (by first | decide | omega) (by first | decide | omega) (by first | decide | omega) (by first | decide | omega) (by decide) ?_
          refine x_iload (np := 45) (x := 2) (by decide +kernel) rfl (by decide) ?_
          refine x_iadd (np := 46) (x := 0) (v := (2147483648 + 4 * u8048)) (by decide +kernel) (by first | decide | omega) (by decide) (by first | decide | omega) (by first | decide | omega) ?_
          have q8051 : h7989 ((h7989 69 6) + 8) (4 * u8048) = h6947 ((h7989 69 6) + 8) (4 * u8048) := jK u8048 f7990 (rg_T8_0_4_10 t7997) (by first | decide | omega) (by first | decide | omega) (by decide)
          have q8052 : h6947 ((h7989 69 6) + 8) (4 * u8048) = h6935 ((h7989 69 6) + 8) (4 * u8048) := by rw [← e6949]; exact x_up_k (tne_8_71 t7997)
          have q8053 : h6935 ((h7989 69 6) + 8) (4 * u8048) = h6 ((h7989 69 6) + 8) (4 * u8048) := jK u8048 f6936 (rg_T8_0_4_10 t7997) (by first | decide | omega) (by first | decide | omega) (by decide)
          have q8054 : h6 ((h7989 69 6) + 8) (4 * u8048) = h ((h7989 69 6) + 8) (4 * u8048) := by rw [← e8]; exact x_up_k (tne_8_69 t7997)
          have b8055 := jB (e := (4 * u8048)) u8048 hJ (rg_T8_0_4_10 t7997) (by first | decide | omega) (by first | decide | omega)
          refine x_aldC (np := 47) (x := 0) (n := 40) (i := (4 * u8048)) (q := ((h ((h7989 69 6) + 8) (4 * u8048)))) (by decide +kernel) (ta_8_40 t7997) (by first | decide | omega) (by first | decide | omega) (by decide) (((q8051.trans q8052).trans q8053).trans q8054) (fun l8056 => ?_)
          refine x_goto (np := 50) (x := 51) (by decide +kernel) ?_
          refine x_retI (np := 52) (x := 0) (by decide +kernel) l8056 (Or.inl (by decide +kernel)) ⟨_, rfl, l8056, ?_⟩
          refine x_iload (np := 70) (x := 1) (by decide +kernel) rfl (by first | decide | omega) ?_
          refine x_icmp (k := 1) (tg := 96) (np := 73) (by decide +kernel) (by decide) l8056 (by first | decide | omega) (fun q8057 => ?_) (fun q8058 => ?_)
          · have q8057 : ((h ((h7989 69 6) + 8) (4 * u8048))) ≠ v6932 := q8057
            refine x_iinc (np := 99) (i := 2) (j := 2147483649) (v := (1 + v7987)) (lo' := [x_r 69, iv_c v6932, iv_c (1 + v7987)]) (by decide +kernel) (by decide) (by decide) rfl (by first | decide | omega) (by first | decide | omega) (by first | decide | omega) rfl ?_
            refine x_goto (np := 102) (x := 32) (by decide +kernel) ?_
            exact i7994 (1 + v7987) h7989 (by first | decide | omega) (by first | decide | omega) j7991 f7990
          have q8058 : ¬ (((h ((h7989 69 6) + 8) (4 * u8048))) ≠ v6932) := q8058
          refine x_aload (np := 74) (x := 0) (by decide +kernel) rfl (x_nc_le (by decide)) ?_
          have q8059 : h7989 69 1 = 71 := by have z := jB (e := 1) 0 j7991 rg_69_1_0_1 (by decide) (by decide); omega
          refine x_getR (np := 77) (x := 769) (f := 1) (q := 71) (by decide +kernel) (by decide) (by decide +kernel) q8059 ?_
          refine x_iload (np := 78) (x := 1) (by decide +kernel) rfl (by first | decide | omega) ?_
          refine x_dup2 (np := 79) (x := 0) (by decide +kernel) (by have z := (iw_c_lt (a := v6932) (by first | decide | omega)).1; omega) (by have z := x_nc_le (k := 71) (by decide); unfold x_r; omega) ?_
          refine x_aldC (np := 80) (x := 0) (n := 6) (i := u6945) (q := (h7989 71 u6945)) (by decide +kernel) (by decide +kernel) (by first | decide | omega) (by first | decide | omega) (by decide) rfl (fun l8060 => ?_)
          refine x_const (np := 81) (x := 9223372043297226753) (a := 2147483649) (by decide +kernel) (by decide) (by decide) ?_
          refine x_aload (np := 82) (x := 0) (by decide +kernel) rfl (x_nc_le (by decide)) ?_
          refine x_getR (np := 85) (x := 774) (f := 6) (q := (h7989 69 6)) (by decide +kernel) (by decide) (by decide +kernel) rfl ?_
          have q8061 : h7989 (h7989 69 6) 3 = ((h7989 69 6) + 7) := tf_0_3 j7991 t7997
          refine x_getR (np := 88) (x := 515) (f := 3) (q := ((h7989 69 6) + 7)) (by decide +kernel) (by decide) (tg_0_515_3_1 t7997) q8061 ?_
          refine x_iload (np := 89) (x := 2) (by decide +kernel) rfl (by first | decide | omega) ?_
          refine x_const (np := 90) (x := 9223372043297226753) (a := 2147483649) (by decide +kernel) (by decide) (by decide) ?_
          refine x_nI (t := 6) (mj := 68) (n := 3) (rc := 7) (ml := 4) (nr := 4) (np := 93) (as := [x_r ((h7989 69 6) + 7), iv_c v7987, iv_c 2147483649]) (rest := [iv_c 2147483649, iv_c (h7989 71 u6945), iv_c v6932, x_r 71]) (lo1 := [x_r ((h7989 69 6) + 7), iv_c v7987, iv_c 2147483649, 147573952589676412928]) (by decide +kernel) (by decide) (by decide +kernel) (x_rb_of (tr_7_7 t7997)) rfl rfl (x_wr (tn_7 t7997) (x_wi (by first | decide | omega) (x_wi (by decide) x_wn))) (x_wi (by decide) (x_wi l8060 (x_wi (by first | decide | omega) (x_wr (by decide) x_wn)))) (by decide) rfl ?_
          refine x_iload (np := 1) (x := 1) (by decide +kernel) rfl (by first | decide | omega) ?_
          refine x_ifz (k := 2) (tg := 28) (np := 4) (by decide +kernel) (by decide) (by first | decide | omega) (fun q8066 => ?_) (fun q8067 => ?_)
          · have q8066 : v7987 < 2147483648 := q8066
            exfalso; omega
          have q8067 : ¬ (v7987 < 2147483648) := q8067
          refine x_iload (np := 5) (x := 1) (by decide +kernel) rfl (by first | decide | omega) ?_
          refine x_aload (np := 6) (x := 0) (by decide +kernel) rfl (x_nc_le (tn_7 t7997)) ?_
          have q8068 : h7989 ((h7989 69 6) + 7) 2 = h6947 ((h7989 69 6) + 7) 2 := jK 0 f7990 (rg_T7_2_0_1 t7997) (by first | decide | omega) (by first | decide | omega) (by decide)
          have q8069 : h6947 ((h7989 69 6) + 7) 2 = h6935 ((h7989 69 6) + 7) 2 := by rw [← e6949]; exact x_up_k (tne_7_71 t7997)
          have q8070 : h6935 ((h7989 69 6) + 7) 2 = h6 ((h7989 69 6) + 7) 2 := jK 0 f6936 (rg_T7_2_0_1 t7997) (by first | decide | omega) (by first | decide | omega) (by decide)
          have q8071 : h6 ((h7989 69 6) + 7) 2 = h ((h7989 69 6) + 7) 2 := by rw [← e8]; exact x_up_k (tne_7_69 t7997)
          refine x_getC (np := 9) (x := 386) (f := 2) (q := (h ((h7989 69 6) + 7) 2)) (by decide +kernel) (by decide) (tg_7_386_2_0 t7997) (((q8068.trans q8069).trans q8070).trans q8071) (fun l8072 => ?_)
          refine x_icmp (k := 3) (tg := 28) (np := 12) (by decide +kernel) (by decide) (by first | decide | omega) l8004 (fun q8073 => ?_) (fun q8074 => ?_)
          · have q8073 : (h ((h7989 69 6) + 7) 2) ≤ v7987 := q8073
            exfalso; omega
          have q8074 : ¬ ((h ((h7989 69 6) + 7) 2) ≤ v7987) := q8074
          refine x_iload (np := 13) (x := 2) (by decide +kernel) rfl (by decide) ?_
          refine x_ifz (k := 2) (tg := 28) (np := 16) (by decide +kernel) (by decide) (by decide) (fun q8075 => ?_) (fun q8076 => ?_)
          · have q8075 : 2147483649 < 2147483648 := q8075
            exfalso; omega
          have q8076 : ¬ (2147483649 < 2147483648) := q8076
          refine x_iload (np := 17) (x := 2) (by decide +kernel) rfl (by decide) ?_
          refine x_aload (np := 18) (x := 0) (by decide +kernel) rfl (x_nc_le (tn_7 t7997)) ?_
          have q8077 : h7989 ((h7989 69 6) + 7) 0 = h6947 ((h7989 69 6) + 7) 0 := jK 0 f7990 (rg_T7_0_0_1 t7997) (by first | decide | omega) (by first | decide | omega) (by decide)
          have q8078 : h6947 ((h7989 69 6) + 7) 0 = h6935 ((h7989 69 6) + 7) 0 := by rw [← e6949]; exact x_up_k (tne_7_71 t7997)
          have q8079 : h6935 ((h7989 69 6) + 7) 0 = h6 ((h7989 69 6) + 7) 0 := jK 0 f6936 (rg_T7_0_0_1 t7997) (by first | decide | omega) (by first | decide | omega) (by decide)
          have q8080 : h6 ((h7989 69 6) + 7) 0 = h ((h7989 69 6) + 7) 0 := by rw [← e8]; exact x_up_k (tne_7_69 t7997)
          refine x_getC (np := 21) (x := 384) (f := 0) (q := 2147483652) (by decide +kernel) (by decide) (tg_7_384_0_0 t7997) ((((q8077.trans q8078).trans q8079).trans q8080).trans q8036) (fun l8081 => ?_)
          refine x_icmp (k := 3) (tg := 28) (np := 24) (by decide +kernel) (by decide) (by decide) (by decide) (fun q8082 => ?_) (fun q8083 => ?_)
          · have q8082 : 2147483652 ≤ 2147483649 := q8082
            exfalso; omega
          have q8083 : ¬ (2147483652 ≤ 2147483649) := q8083
          refine x_const (np := 25) (x := 9223372043297226753) (a := 2147483649) (by decide +kernel) (by decide) (by decide) ?_
          refine x_goto (np := 28) (x := 29) (by decide +kernel) ?_
          refine x_istore (np := 30) (x := 3) (lo' := [x_r ((h7989 69 6) + 7), iv_c v7987, iv_c 2147483649, iv_c 2147483649]) (by decide +kernel) (by decide) (Nat.le_of_ble_eq_true rfl) rfl ?_
          refine x_iload (np := 31) (x := 3) (by decide +kernel) rfl (by decide) ?_
          refine x_ifz (k := 0) (tg := 50) (np := 34) (by decide +kernel) (by decide) (by decide) (fun q8084 => ?_) (fun q8085 => ?_)
          · have q8084 : 2147483649 = 2147483648 := q8084
            exfalso; omega
          have q8085 : ¬ (2147483649 = 2147483648) := q8085
          refine x_aload (np := 35) (x := 0) (by decide +kernel) rfl (x_nc_le (tn_7 t7997)) ?_
          have q8086 : h7989 ((h7989 69 6) + 7) 1 = ((h7989 69 6) + 8) := tf_7_1 j7991 t7997
          refine x_getR (np := 38) (x := 385) (f := 1) (q := ((h7989 69 6) + 8)) (by decide +kernel) (by decide) (tg_7_385_1_1 t7997) q8086 ?_
          refine x_iload (np := 39) (x := 1) (by decide +kernel) rfl (by first | decide | omega) ?_
          refine x_aload (np := 40) (x := 0) (by decide +kernel) rfl (x_nc_le (tn_7 t7997)) ?_
          have q8087 : h7989 ((h7989 69 6) + 7) 0 = h6947 ((h7989 69 6) + 7) 0 := jK 0 f7990 (rg_T7_0_0_1 t7997) (by first | decide | omega) (by first | decide | omega) (by decide)
          have q8088 : h6947 ((h7989 69 6) + 7) 0 = h6935 ((h7989 69 6) + 7) 0 := by rw [← e6949]; exact x_up_k (tne_7_71 t7997)
          have q8089 : h6935 ((h7989 69 6) + 7) 0 = h6 ((h7989 69 6) + 7) 0 := jK 0 f6936 (rg_T7_0_0_1 t7997) (by first | decide | omega) (by first | decide | omega) (by decide)
          have q8090 : h6 ((h7989 69 6) + 7) 0 = h ((h7989 69 6) + 7) 0 := by rw [← e8]; exact x_up_k (tne_7_69 t7997)
          refine x_getC (np := 43) (x := 384) (f := 0) (q := 2147483652) (by decide +kernel) (by decide) (tg_7_384_0_0 t7997) ((((q8087.trans q8088).trans q8089).trans q8090).trans q8036) (fun l8091 => ?_)
          refine x_imul (np := 44) (x := 0) (i := u8048) (j := 4) (v := (2147483648 + 4 * u8048)) (by decide +kernel) (by first | decide | omega) (by first | decide | omega) (by first | decide | omega) (by first | decide | omega) (by first | decide | omega) (by decide) ?_
          refine x_iload (np := 45) (x := 2) (by decide +kernel) rfl (by decide) ?_
          refine x_iadd (np := 46) (x := 0) (v := (2147483649 + 4 * u8048)) (by decide +kernel) (by first | decide | omega) (by decide) (by first | decide | omega) (by first | decide | omega) ?_
          have q8093 : h7989 ((h7989 69 6) + 8) (1 + 4 * u8048) = h6947 ((h7989 69 6) + 8) (1 + 4 * u8048) := jK u8048 f7990 (rg_T8_1_4_10 t7997) (by first | decide | omega) (by first | decide | omega) (by decide)
          have q8094 : h6947 ((h7989 69 6) + 8) (1 + 4 * u8048) = h6935 ((h7989 69 6) + 8) (1 + 4 * u8048) := by rw [← e6949]; exact x_up_k (tne_8_71 t7997)
          have q8095 : h6935 ((h7989 69 6) + 8) (1 + 4 * u8048) = h6 ((h7989 69 6) + 8) (1 + 4 * u8048) := jK u8048 f6936 (rg_T8_1_4_10 t7997) (by first | decide | omega) (by first | decide | omega) (by decide)
          have q8096 : h6 ((h7989 69 6) + 8) (1 + 4 * u8048) = h ((h7989 69 6) + 8) (1 + 4 * u8048) := by rw [← e8]; exact x_up_k (tne_8_69 t7997)
          refine x_aldC (np := 47) (x := 0) (n := 40) (i := (1 + 4 * u8048)) (q := ((h ((h7989 69 6) + 8) (1 + 4 * u8048)))) (by decide +kernel) (ta_8_40 t7997) (by first | decide | omega) (by first | decide | omega) (by decide) (((q8093.trans q8094).trans q8095).trans q8096) (fun l8097 => ?_)
          refine x_goto (np := 50) (x := 51) (by decide +kernel) ?_
          refine x_retI (np := 52) (x := 0) (by decide +kernel) l8097 (Or.inl (by decide +kernel)) ⟨_, rfl, l8097, ?_⟩
          refine x_any (np := 94) (k9 := 3) (by decide +kernel) (by decide) (by decide) l8097 (fun v8098 l8099 => ?_)
          refine x_any (np := 95) (k9 := 1) (by decide +kernel) (by decide) l8060 l8099 (fun v8100 l8101 => ?_)
          refine x_ast (np := 96) (x := 0) (kd := 1) (n := 6) (i := u6945) (by decide +kernel) (Or.inl rfl) (by decide +kernel) (by first | decide | omega) (by first | decide | omega) (by decide) l8101 (fun z => absurd z (by decide)) ?_
          have j8103 := jU (e := u6945) (v := v8100) u6945 j7991 rg_71_0_1_6 (by first | decide | omega) (by first | decide | omega) (by first | decide | omega)
          have f8105 := jF (e := u6945) (v := v8100) u6945 f7995 rg_71_0_1_6 (by first | decide | omega) (by first | decide | omega) (by decide)
          have f8106 := jF (e := u6945) (v := v8100) u6945 f7996 rg_71_0_1_6 (by first | decide | omega) (by first | decide | omega) (by decide)
          have f8107 := jF (e := u6945) (v := v8100) u6945 f7990 rg_71_0_1_6 (by first | decide | omega) (by first | decide | omega) (by decide)
          generalize e8104 : x_up h7989 71 u6945 v8100 = h8102 at j8103 f8105 f8106 f8107 ⊢
          refine x_iinc (np := 99) (i := 2) (j := 2147483649) (v := (1 + v7987)) (lo' := [x_r 69, iv_c v6932, iv_c (1 + v7987)]) (by decide +kernel) (by decide) (by decide) rfl (by first | decide | omega) (by first | decide | omega) (by first | decide | omega) rfl ?_
          refine x_goto (np := 102) (x := 32) (by decide +kernel) ?_
          exact i7994 (1 + v7987) h8102 (by first | decide | omega) (by first | decide | omega) j8103 f8107
      exact p7992 _ 2147483648 h6947 (Nat.lt_succ_self _) (by first | decide | omega) j6948 (Fr.refl _ _)
  exact p6938 _ 2147483648 147573952589676412928 h6 (Nat.lt_succ_self _) (by first | decide | omega) j7 (Fr.refl _ _)
set_option maxHeartbeats 0 in
/-- LentNames$SecretSearch.isMet(I)Z -/
theorem c64_69 {sc : Nat × Nat} {d a1 : Nat} {h : xh} (hJ : J h) (ba1 : 2147483648 ≤ a1 ∧ a1 ≤ 2147483657) (hr0 : a1 < (h ((h 69 6) + 7) 2)) : X sc 64 (d + 1) (xI fun r h' => h' = h ∧ (2147483648 ≤ r ∧ r ≤ 2147483649)) 0 0 0 [x_r 69, iv_c a1, 147573952589676412928, 147573952589676412928, 147573952589676412928] [] h := by
  have la1 : a1 < 4294967296 := by first | decide | omega
  have t1 : tw (h 69 6) := hJ.2.2.2.2.2.2.1
  have b2 := jB (e := 2) 0 hJ (rg_T7_2_0_1 t1) (by first | decide | omega) (by first | decide | omega)
  refine x_aload (np := 1) (x := 0) (by decide +kernel) rfl (x_nc_le (by decide)) ?_
  refine x_getR (np := 4) (x := 774) (f := 6) (q := (h 69 6)) (by decide +kernel) (by decide) (by decide +kernel) rfl ?_
  have q3 : h (h 69 6) 3 = ((h 69 6) + 7) := tf_0_3 hJ t1
  refine x_getR (np := 7) (x := 515) (f := 3) (q := ((h 69 6) + 7)) (by decide +kernel) (by decide) (tg_0_515_3_1 t1) q3 ?_
  refine x_iload (np := 8) (x := 1) (by decide +kernel) rfl la1 ?_
  refine x_const (np := 9) (x := 9223372039002259456) (a := 2147483648) (by decide +kernel) (by decide) (by decide) ?_
  refine x_nI (t := 6) (mj := 68) (n := 3) (rc := 7) (ml := 4) (nr := 0) (np := 12) (as := [x_r ((h 69 6) + 7), iv_c a1, iv_c 2147483648]) (rest := []) (lo1 := [x_r ((h 69 6) + 7), iv_c a1, iv_c 2147483648, 147573952589676412928]) (by decide +kernel) (by decide) (by decide +kernel) (x_rb_of (tr_7_7 t1)) rfl rfl (x_wr (tn_7 t1) (x_wi la1 (x_wi (by decide) x_wn))) x_wn (by decide) rfl ?_
  refine x_iload (np := 1) (x := 1) (by decide +kernel) rfl la1 ?_
  refine x_ifz (k := 2) (tg := 28) (np := 4) (by decide +kernel) (by decide) la1 (fun q4 => ?_) (fun q5 => ?_)
  · have q4 : a1 < 2147483648 := q4
    exfalso; omega
  have q5 : ¬ (a1 < 2147483648) := q5
  refine x_iload (np := 5) (x := 1) (by decide +kernel) rfl la1 ?_
  refine x_aload (np := 6) (x := 0) (by decide +kernel) rfl (x_nc_le (tn_7 t1)) ?_
  refine x_getC (np := 9) (x := 386) (f := 2) (q := (h ((h 69 6) + 7) 2)) (by decide +kernel) (by decide) (tg_7_386_2_0 t1) rfl (fun l6 => ?_)
  refine x_icmp (k := 3) (tg := 28) (np := 12) (by decide +kernel) (by decide) la1 l6 (fun q7 => ?_) (fun q8 => ?_)
  · have q7 : (h ((h 69 6) + 7) 2) ≤ a1 := q7
    exfalso; omega
  have q8 : ¬ ((h ((h 69 6) + 7) 2) ≤ a1) := q8
  refine x_iload (np := 13) (x := 2) (by decide +kernel) rfl (by decide) ?_
  refine x_ifz (k := 2) (tg := 28) (np := 16) (by decide +kernel) (by decide) (by decide) (fun q9 => ?_) (fun q10 => ?_)
  · have q9 : 2147483648 < 2147483648 := q9
    exfalso; omega
  have q10 : ¬ (2147483648 < 2147483648) := q10
  refine x_iload (np := 17) (x := 2) (by decide +kernel) rfl (by decide) ?_
  refine x_aload (np := 18) (x := 0) (by decide +kernel) rfl (x_nc_le (tn_7 t1)) ?_
  have b11 := jB (e := 0) 0 hJ (rg_T7_0_0_1 t1) (by first | decide | omega) (by first | decide | omega)
  have q12 : (h ((h 69 6) + 7) 0) = 2147483652 := by first | decide | omega
  refine x_getC (np := 21) (x := 384) (f := 0) (q := 2147483652) (by decide +kernel) (by decide) (tg_7_384_0_0 t1) q12 (fun l13 => ?_)
  refine x_icmp (k := 3) (tg := 28) (np := 24) (by decide +kernel) (by decide) (by decide) (by decide) (fun q14 => ?_) (fun q15 => ?_)
  · have q14 : 2147483652 ≤ 2147483648 := q14
    exfalso; omega
  have q15 : ¬ (2147483652 ≤ 2147483648) := q15
  refine x_const (np := 25) (x := 9223372043297226753) (a := 2147483649) (by decide +kernel) (by decide) (by decide) ?_
  refine x_goto (np := 28) (x := 29) (by decide +kernel) ?_
  refine x_istore (np := 30) (x := 3) (lo' := [x_r ((h 69 6) + 7), iv_c a1, iv_c 2147483648, iv_c 2147483649]) (by decide +kernel) (by decide) (Nat.le_of_ble_eq_true rfl) rfl ?_
  refine x_iload (np := 31) (x := 3) (by decide +kernel) rfl (by decide) ?_
  refine x_ifz (k := 0) (tg := 50) (np := 34) (by decide +kernel) (by decide) (by decide) (fun q16 => ?_) (fun q17 => ?_)
  · have q16 : 2147483649 = 2147483648 := q16
    exfalso; omega
  have q17 : ¬ (2147483649 = 2147483648) := q17
  refine x_aload (np := 35) (x := 0) (by decide +kernel) rfl (x_nc_le (tn_7 t1)) ?_
  have q18 : h ((h 69 6) + 7) 1 = ((h 69 6) + 8) := tf_7_1 hJ t1
  refine x_getR (np := 38) (x := 385) (f := 1) (q := ((h 69 6) + 8)) (by decide +kernel) (by decide) (tg_7_385_1_1 t1) q18 ?_
  refine x_iload (np := 39) (x := 1) (by decide +kernel) rfl la1 ?_
  refine x_aload (np := 40) (x := 0) (by decide +kernel) rfl (x_nc_le (tn_7 t1)) ?_
  refine x_getC (np := 43) (x := 384) (f := 0) (q := 2147483652) (by decide +kernel) (by decide) (tg_7_384_0_0 t1) q12 (fun l19 => ?_)
  obtain ⟨u20, q21⟩ : ∃ z, a1 = 2147483648 + z := ⟨a1 - 2147483648, by first | decide | omega⟩
  refine x_imul (np := 44) (x := 0) (i := u20) (j := 4) (v := (2147483648 + 4 * u20)) (by decide +kernel) (by first | decide | omega) (by first | decide | omega) (by first | decide | omega) (by first | decide | omega) la1 (by decide) ?_
  refine x_iload (np := 45) (x := 2) (by decide +kernel) rfl (by decide) ?_
  refine x_iadd (np := 46) (x := 0) (v := (2147483648 + 4 * u20)) (by decide +kernel) (by first | decide | omega) (by decide) (by first | decide | omega) (by first | decide | omega) ?_
  have b23 := jB (e := (4 * u20)) u20 hJ (rg_T8_0_4_10 t1) (by first | decide | omega) (by first | decide | omega)
  refine x_aldC (np := 47) (x := 0) (n := 40) (i := (4 * u20)) (q := ((h ((h 69 6) + 8) (4 * u20)))) (by decide +kernel) (ta_8_40 t1) (by first | decide | omega) (by first | decide | omega) (by decide) rfl (fun l24 => ?_)
  refine x_goto (np := 50) (x := 51) (by decide +kernel) ?_
  refine x_retI (np := 52) (x := 0) (by decide +kernel) l24 (Or.inl (by decide +kernel)) ⟨_, rfl, l24, ?_⟩
  refine x_istore (np := 13) (x := 2) (lo' := [x_r 69, iv_c a1, iv_c ((h ((h 69 6) + 8) (4 * u20))), 147573952589676412928, 147573952589676412928]) (by decide +kernel) l24 (Nat.le_of_ble_eq_true rfl) rfl ?_
  refine x_aload (np := 14) (x := 0) (by decide +kernel) rfl (x_nc_le (by decide)) ?_
  refine x_getR (np := 17) (x := 774) (f := 6) (q := (h 69 6)) (by decide +kernel) (by decide) (by decide +kernel) rfl ?_
  have q25 : h (h 69 6) 3 = ((h 69 6) + 7) := tf_0_3 hJ t1
  refine x_getR (np := 20) (x := 515) (f := 3) (q := ((h 69 6) + 7)) (by decide +kernel) (by decide) (tg_0_515_3_1 t1) q25 ?_
  refine x_iload (np := 21) (x := 1) (by decide +kernel) rfl la1 ?_
  refine x_const (np := 22) (x := 9223372047592194050) (a := 2147483650) (by decide +kernel) (by decide) (by decide) ?_
  refine x_nI (t := 6) (mj := 68) (n := 3) (rc := 7) (ml := 4) (nr := 0) (np := 25) (as := [x_r ((h 69 6) + 7), iv_c a1, iv_c 2147483650]) (rest := []) (lo1 := [x_r ((h 69 6) + 7), iv_c a1, iv_c 2147483650, 147573952589676412928]) (by decide +kernel) (by decide) (by decide +kernel) (x_rb_of (tr_7_7 t1)) rfl rfl (x_wr (tn_7 t1) (x_wi la1 (x_wi (by decide) x_wn))) x_wn (by decide) rfl ?_
  refine x_iload (np := 1) (x := 1) (by decide +kernel) rfl la1 ?_
  refine x_ifz (k := 2) (tg := 28) (np := 4) (by decide +kernel) (by decide) la1 (fun q26 => ?_) (fun q27 => ?_)
  · have q26 : a1 < 2147483648 := q26
    exfalso; omega
  have q27 : ¬ (a1 < 2147483648) := q27
  refine x_iload (np := 5) (x := 1) (by decide +kernel) rfl la1 ?_
  refine x_aload (np := 6) (x := 0) (by decide +kernel) rfl (x_nc_le (tn_7 t1)) ?_
  refine x_getC (np := 9) (x := 386) (f := 2) (q := (h ((h 69 6) + 7) 2)) (by decide +kernel) (by decide) (tg_7_386_2_0 t1) rfl (fun l28 => ?_)
  refine x_icmp (k := 3) (tg := 28) (np := 12) (by decide +kernel) (by decide) la1 l6 (fun q29 => ?_) (fun q30 => ?_)
  · have q29 : (h ((h 69 6) + 7) 2) ≤ a1 := q29
    exfalso; omega
  have q30 : ¬ ((h ((h 69 6) + 7) 2) ≤ a1) := q30
  refine x_iload (np := 13) (x := 2) (by decide +kernel) rfl (by decide) ?_
  refine x_ifz (k := 2) (tg := 28) (np := 16) (by decide +kernel) (by decide) (by decide) (fun q31 => ?_) (fun q32 => ?_)
  · have q31 : 2147483650 < 2147483648 := q31
    exfalso; omega
  have q32 : ¬ (2147483650 < 2147483648) := q32
  refine x_iload (np := 17) (x := 2) (by decide +kernel) rfl (by decide) ?_
  refine x_aload (np := 18) (x := 0) (by decide +kernel) rfl (x_nc_le (tn_7 t1)) ?_
  refine x_getC (np := 21) (x := 384) (f := 0) (q := 2147483652) (by decide +kernel) (by decide) (tg_7_384_0_0 t1) q12 (fun l33 => ?_)
  refine x_icmp (k := 3) (tg := 28) (np := 24) (by decide +kernel) (by decide) (by decide) (by decide) (fun q34 => ?_) (fun q35 => ?_)
  · have q34 : 2147483652 ≤ 2147483650 := q34
    exfalso; omega
  have q35 : ¬ (2147483652 ≤ 2147483650) := q35
  refine x_const (np := 25) (x := 9223372043297226753) (a := 2147483649) (by decide +kernel) (by decide) (by decide) ?_
  refine x_goto (np := 28) (x := 29) (by decide +kernel) ?_
  refine x_istore (np := 30) (x := 3) (lo' := [x_r ((h 69 6) + 7), iv_c a1, iv_c 2147483650, iv_c 2147483649]) (by decide +kernel) (by decide) (Nat.le_of_ble_eq_true rfl) rfl ?_
  refine x_iload (np := 31) (x := 3) (by decide +kernel) rfl (by decide) ?_
  refine x_ifz (k := 0) (tg := 50) (np := 34) (by decide +kernel) (by decide) (by decide) (fun q36 => ?_) (fun q37 => ?_)
  · have q36 : 2147483649 = 2147483648 := q36
    exfalso; omega
  have q37 : ¬ (2147483649 = 2147483648) := q37
  refine x_aload (np := 35) (x := 0) (by decide +kernel) rfl (x_nc_le (tn_7 t1)) ?_
  have q38 : h ((h 69 6) + 7) 1 = ((h 69 6) + 8) := tf_7_1 hJ t1
  refine x_getR (np := 38) (x := 385) (f := 1) (q := ((h 69 6) + 8)) (by decide +kernel) (by decide) (tg_7_385_1_1 t1) q38 ?_
  refine x_iload (np := 39) (x := 1) (by decide +kernel) rfl la1 ?_
  refine x_aload (np := 40) (x := 0) (by decide +kernel) rfl (x_nc_le (tn_7 t1)) ?_
  refine x_getC (np := 43) (x := 384) (f := 0) (q := 2147483652) (by decide +kernel) (by decide) (tg_7_384_0_0 t1) q12 (fun l39 => ?_)
  refine x_imul (np := 44) (x := 0) (i := u20) (j := 4) (v := (2147483648 + 4 * u20)) (by decide +kernel) (by first | decide | omega) (by first | decide | omega) (by first | decide | omega) (by first | decide | omega) la1 (by decide) ?_
  refine x_iload (np := 45) (x := 2) (by decide +kernel) rfl (by decide) ?_
  refine x_iadd (np := 46) (x := 0) (v := (2147483650 + 4 * u20)) (by decide +kernel) (by first | decide | omega) (by decide) (by first | decide | omega) (by first | decide | omega) ?_
  refine x_aldC (np := 47) (x := 0) (n := 40) (i := (2 + 4 * u20)) (q := ((h ((h 69 6) + 8) (2 + 4 * u20)))) (by decide +kernel) (ta_8_40 t1) (by first | decide | omega) (by first | decide | omega) (by decide) rfl (fun l41 => ?_)
  refine x_goto (np := 50) (x := 51) (by decide +kernel) ?_
  refine x_retI (np := 52) (x := 0) (by decide +kernel) l41 (Or.inl (by decide +kernel)) ⟨_, rfl, l41, ?_⟩
  refine x_istore (np := 26) (x := 3) (lo' := [x_r 69, iv_c a1, iv_c ((h ((h 69 6) + 8) (4 * u20))), iv_c ((h ((h 69 6) + 8) (2 + 4 * u20))), 147573952589676412928]) (by decide +kernel) l41 (Nat.le_of_ble_eq_true rfl) rfl ?_
  refine x_const (np := 27) (x := 9223372039002259456) (a := 2147483648) (by decide +kernel) (by decide) (by decide) ?_
  refine x_istore (np := 29) (x := 4) (lo' := [x_r 69, iv_c a1, iv_c ((h ((h 69 6) + 8) (4 * u20))), iv_c ((h ((h 69 6) + 8) (2 + 4 * u20))), iv_c 2147483648]) (by decide +kernel) (by decide) (Nat.le_of_ble_eq_true rfl) rfl ?_
  have p308 : ∀ (n : Nat) (v306 : Nat), 4294967296 - v306 < n → (2147483648 ≤ v306 ∧ v306 ≤ 2147483654) → X sc 64 (d + 1) (xI fun r h' => h' = h ∧ (2147483648 ≤ r ∧ r ≤ 2147483649)) 0 0 29 [x_r 69, iv_c a1, iv_c ((h ((h 69 6) + 8) (4 * u20))), iv_c ((h ((h 69 6) + 8) (2 + 4 * u20))), iv_c v306] [] h := by
    intro n
    induction n with
    | zero => intro v306 q309; exact absurd q309 (Nat.not_lt_zero _)
    | succ n i310 =>
      intro v306 q309 b307
      refine x_iload (np := 31) (x := 4) (by decide +kernel) rfl (by first | decide | omega) ?_
      refine x_aload (np := 32) (x := 0) (by decide +kernel) rfl (x_nc_le (by decide)) ?_
      refine x_getR (np := 35) (x := 774) (f := 6) (q := (h 69 6)) (by decide +kernel) (by decide) (by decide +kernel) rfl ?_
      have b311 := jB (e := 7) 0 hJ (rg_T0_7_0_1 t1) (by first | decide | omega) (by first | decide | omega)
      refine x_getC (np := 38) (x := 519) (f := 7) (q := (h (h 69 6) 7)) (by decide +kernel) (by decide) (tg_0_519_7_0 t1) rfl (fun l312 => ?_)
      refine x_icmp (k := 3) (tg := 87) (np := 41) (by decide +kernel) (by decide) (by first | decide | omega) l312 (fun q313 => ?_) (fun q314 => ?_)
      · have q313 : (h (h 69 6) 7) ≤ v306 := q313
        refine x_const (np := 88) (x := 9223372039002259456) (a := 2147483648) (by decide +kernel) (by decide) (by decide) ?_
        refine x_retI (np := 89) (x := 0) (by decide +kernel) (by decide) (Or.inr ⟨by decide +kernel, by first | decide | omega, by first | decide | omega⟩) ⟨_, rfl, (by decide), ?_⟩
        exact ⟨rfl, (by first | decide | omega)⟩
      have q314 : ¬ ((h (h 69 6) 7) ≤ v306) := q314
      refine x_iload (np := 42) (x := 3) (by decide +kernel) rfl l41 ?_
      refine x_iload (np := 44) (x := 4) (by decide +kernel) rfl (by first | decide | omega) ?_
      refine x_cP (t := 7) (mj := 148) (n := 2) (rc := 0) (ml := 2) (nr := 0) (np := 47) (as := [iv_c ((h ((h 69 6) + 8) (2 + 4 * u20))), iv_c v306]) (rest := []) (lo1 := [iv_c ((h ((h 69 6) + 8) (2 + 4 * u20))), iv_c v306]) (by decide +kernel) (by decide) (by decide +kernel) (Or.inl rfl) rfl rfl (x_wi l41 (x_wi (by first | decide | omega) x_wn)) x_wn (by decide) rfl (c148 hJ (by first | decide | omega) (by first | decide | omega)) (fun v315 l316 q317 => ?_)
      obtain ⟨b319, c318⟩ := q317
      refine x_ifz (k := 0) (tg := 81) (np := 50) (by decide +kernel) (by decide) l316 (fun q320 => ?_) (fun q321 => ?_)
      · have q320 : v315 = 2147483648 := q320
        refine x_iinc (np := 84) (i := 4) (j := 2147483649) (v := (1 + v306)) (lo' := [x_r 69, iv_c a1, iv_c ((h ((h 69 6) + 8) (4 * u20))), iv_c ((h ((h 69 6) + 8) (2 + 4 * u20))), iv_c (1 + v306)]) (by decide +kernel) (by decide) (by decide) rfl (by first | decide | omega) (by first | decide | omega) (by first | decide | omega) rfl ?_
        refine x_goto (np := 87) (x := 29) (by decide +kernel) ?_
        exact i310 (1 + v306) (by first | decide | omega) (by first | decide | omega)
      have q321 : ¬ (v315 = 2147483648) := q321
      refine x_aload (np := 51) (x := 0) (by decide +kernel) rfl (x_nc_le (by decide)) ?_
      have q322 : h 69 0 = 70 := by have z := jB (e := 0) 0 hJ rg_69_0_0_1 (by decide) (by decide); omega
      refine x_getR (np := 54) (x := 768) (f := 0) (q := 70) (by decide +kernel) (by decide) (by decide +kernel) q322 ?_
      refine x_iload (np := 55) (x := 2) (by decide +kernel) rfl l24 ?_
      refine x_iload (np := 57) (x := 4) (by decide +kernel) rfl (by first | decide | omega) ?_
      refine x_nI (t := 7) (mj := 149) (n := 2) (rc := 0) (ml := 2) (nr := 1) (np := 60) (as := [iv_c ((h ((h 69 6) + 8) (4 * u20))), iv_c v306]) (rest := [x_r 70]) (lo1 := [iv_c ((h ((h 69 6) + 8) (4 * u20))), iv_c v306]) (by decide +kernel) (by decide) (by decide +kernel) (Or.inl rfl) rfl rfl (x_wi l24 (x_wi (by first | decide | omega) x_wn)) (x_wr (by decide) x_wn) (by decide) rfl ?_
      refine x_iload (np := 1) (x := 0) (by decide +kernel) rfl l24 ?_
      refine x_const (np := 3) (x := 9223372064772063238) (a := 2147483654) (by decide +kernel) (by decide) (by decide) ?_
      obtain ⟨u323, q324⟩ : ∃ z, ((h ((h 69 6) + 8) (4 * u20))) = 2147483648 + z := ⟨((h ((h 69 6) + 8) (4 * u20))) - 2147483648, by first | decide | omega⟩
      refine x_imul (np := 4) (x := 0) (i := u323) (j := 6) (v := (2147483648 + 6 * u323)) (by decide +kernel) (by first | decide | omega) (by first | decide | omega) (by first | decide | omega) (by first | decide | omega) l24 (by decide) ?_
      refine x_iload (np := 5) (x := 1) (by decide +kernel) rfl (by first | decide | omega) ?_
      refine x_iadd (np := 6) (x := 0) (v := (6 * u323 + v306)) (by decide +kernel) (by first | decide | omega) (by first | decide | omega) (by first | decide | omega) (by first | decide | omega) ?_
      refine x_retI (np := 7) (x := 0) (by decide +kernel) (by first | decide | omega) (Or.inl (by decide +kernel)) ⟨_, rfl, (by first | decide | omega), ?_⟩
      obtain ⟨u326, q327⟩ : ∃ z, v306 = 2147483648 + z := ⟨v306 - 2147483648, by first | decide | omega⟩
      refine x_aldC (np := 61) (x := 0) (n := 36) (i := (6 * u323 + u326)) (q := ((h 70 (6 * u323 + u326)))) (by decide +kernel) (by decide +kernel) (by first | decide | omega) (by first | decide | omega) (by decide) rfl (fun l328 => ?_)
      refine x_aload (np := 62) (x := 0) (by decide +kernel) rfl (x_nc_le (by decide)) ?_
      refine x_getR (np := 65) (x := 774) (f := 6) (q := (h 69 6)) (by decide +kernel) (by decide) (by decide +kernel) rfl ?_
      have q329 : h (h 69 6) 3 = ((h 69 6) + 7) := tf_0_3 hJ t1
      refine x_getR (np := 68) (x := 515) (f := 3) (q := ((h 69 6) + 7)) (by decide +kernel) (by decide) (tg_0_515_3_1 t1) q329 ?_
      refine x_iload (np := 69) (x := 1) (by decide +kernel) rfl la1 ?_
      refine x_const (np := 70) (x := 9223372043297226753) (a := 2147483649) (by decide +kernel) (by decide) (by decide) ?_
      refine x_nI (t := 6) (mj := 68) (n := 3) (rc := 7) (ml := 4) (nr := 1) (np := 73) (as := [x_r ((h 69 6) + 7), iv_c a1, iv_c 2147483649]) (rest := [iv_c ((h 70 (6 * u323 + u326)))]) (lo1 := [x_r ((h 69 6) + 7), iv_c a1, iv_c 2147483649, 147573952589676412928]) (by decide +kernel) (by decide) (by decide +kernel) (x_rb_of (tr_7_7 t1)) rfl rfl (x_wr (tn_7 t1) (x_wi la1 (x_wi (by decide) x_wn))) (x_wi l328 x_wn) (by decide) rfl ?_
      refine x_iload (np := 1) (x := 1) (by decide +kernel) rfl la1 ?_
      refine x_ifz (k := 2) (tg := 28) (np := 4) (by decide +kernel) (by decide) la1 (fun q330 => ?_) (fun q331 => ?_)
      · have q330 : a1 < 2147483648 := q330
        exfalso; omega
      have q331 : ¬ (a1 < 2147483648) := q331
      refine x_iload (np := 5) (x := 1) (by decide +kernel) rfl la1 ?_
      refine x_aload (np := 6) (x := 0) (by decide +kernel) rfl (x_nc_le (tn_7 t1)) ?_
      refine x_getC (np := 9) (x := 386) (f := 2) (q := (h ((h 69 6) + 7) 2)) (by decide +kernel) (by decide) (tg_7_386_2_0 t1) rfl (fun l332 => ?_)
      refine x_icmp (k := 3) (tg := 28) (np := 12) (by decide +kernel) (by decide) la1 l6 (fun q333 => ?_) (fun q334 => ?_)
      · have q333 : (h ((h 69 6) + 7) 2) ≤ a1 := q333
        exfalso; omega
      have q334 : ¬ ((h ((h 69 6) + 7) 2) ≤ a1) := q334
      refine x_iload (np := 13) (x := 2) (by decide +kernel) rfl (by decide) ?_
      refine x_ifz (k := 2) (tg := 28) (np := 16) (by decide +kernel) (by decide) (by decide) (fun q335 => ?_) (fun q336 => ?_)
      · have q335 : 2147483649 < 2147483648 := q335
        exfalso; omega
      have q336 : ¬ (2147483649 < 2147483648) := q336
      refine x_iload (np := 17) (x := 2) (by decide +kernel) rfl (by decide) ?_
      refine x_aload (np := 18) (x := 0) (by decide +kernel) rfl (x_nc_le (tn_7 t1)) ?_
      refine x_getC (np := 21) (x := 384) (f := 0) (q := 2147483652) (by decide +kernel) (by decide) (tg_7_384_0_0 t1) q12 (fun l337 => ?_)
      refine x_icmp (k := 3) (tg := 28) (np := 24) (by decide +kernel) (by decide) (by decide) (by decide) (fun q338 => ?_) (fun q339 => ?_)
      · have q338 : 2147483652 ≤ 2147483649 := q338
        exfalso; omega
      have q339 : ¬ (2147483652 ≤ 2147483649) := q339
      refine x_const (np := 25) (x := 9223372043297226753) (a := 2147483649) (by decide +kernel) (by decide) (by decide) ?_
      refine x_goto (np := 28) (x := 29) (by decide +kernel) ?_
      refine x_istore (np := 30) (x := 3) (lo' := [x_r ((h 69 6) + 7), iv_c a1, iv_c 2147483649, iv_c 2147483649]) (by decide +kernel) (by decide) (Nat.le_of_ble_eq_true rfl) rfl ?_
      refine x_iload (np := 31) (x := 3) (by decide +kernel) rfl (by decide) ?_
      refine x_ifz (k := 0) (tg := 50) (np := 34) (by decide +kernel) (by decide) (by decide) (fun q340 => ?_) (fun q341 => ?_)
      · have q340 : 2147483649 = 2147483648 := q340
        exfalso; omega
      have q341 : ¬ (2147483649 = 2147483648) := q341
      refine x_aload (np := 35) (x := 0) (by decide +kernel) rfl (x_nc_le (tn_7 t1)) ?_
      have q342 : h ((h 69 6) + 7) 1 = ((h 69 6) + 8) := tf_7_1 hJ t1
      refine x_getR (np := 38) (x := 385) (f := 1) (q := ((h 69 6) + 8)) (by decide +kernel) (by decide) (tg_7_385_1_1 t1) q342 ?_
      refine x_iload (np := 39) (x := 1) (by decide +kernel) rfl la1 ?_
      refine x_aload (np := 40) (x := 0) (by decide +kernel) rfl (x_nc_le (tn_7 t1)) ?_
      refine x_getC (np := 43) (x := 384) (f := 0) (q := 2147483652) (by decide +kernel) (by decide) (tg_7_384_0_0 t1) q12 (fun l343 => ?_)
      refine x_imul (np := 44) (x := 0) (i := u20) (j := 4) (v := (2147483648 + 4 * u20)) (by decide +kernel) (by first | decide | omega) (by first | decide | omega) (by first | decide | omega) (by first | decide | omega) la1 (by decide) ?_
      refine x_iload (np := 45) (x := 2) (by decide +kernel) rfl (by decide) ?_
      refine x_iadd (np := 46) (x := 0) (v := (2147483649 + 4 * u20)) (by decide +kernel) (by first | decide | omega) (by decide) (by first | decide | omega) (by first | decide | omega) ?_
      refine x_aldC (np := 47) (x := 0) (n := 40) (i := (1 + 4 * u20)) (q := ((h ((h 69 6) + 8) (1 + 4 * u20)))) (by decide +kernel) (ta_8_40 t1) (by first | decide | omega) (by first | decide | omega) (by decide) rfl (fun l345 => ?_)
      refine x_goto (np := 50) (x := 51) (by decide +kernel) ?_
      refine x_retI (np := 52) (x := 0) (by decide +kernel) l345 (Or.inl (by decide +kernel)) ⟨_, rfl, l345, ?_⟩
      refine x_cP (t := 7) (mj := 148) (n := 2) (rc := 0) (ml := 2) (nr := 0) (np := 76) (as := [iv_c ((h 70 (6 * u323 + u326))), iv_c ((h ((h 69 6) + 8) (1 + 4 * u20)))]) (rest := []) (lo1 := [iv_c ((h 70 (6 * u323 + u326))), iv_c ((h ((h 69 6) + 8) (1 + 4 * u20)))]) (by decide +kernel) (by decide) (by decide +kernel) (Or.inl rfl) rfl rfl (x_wi l328 (x_wi l345 x_wn)) x_wn (by decide) rfl (c148 hJ (by first | decide | omega) (by first | decide | omega)) (fun v346 l347 q348 => ?_)
      obtain ⟨b350, c349⟩ := q348
      refine x_ifz (k := 0) (tg := 81) (np := 79) (by decide +kernel) (by decide) l347 (fun q351 => ?_) (fun q352 => ?_)
      · have q351 : v346 = 2147483648 := q351
        refine x_iinc (np := 84) (i := 4) (j := 2147483649) (v := (1 + v306)) (lo' := [x_r 69, iv_c a1, iv_c ((h ((h 69 6) + 8) (4 * u20))), iv_c ((h ((h 69 6) + 8) (2 + 4 * u20))), iv_c (1 + v306)]) (by decide +kernel) (by decide) (by decide) rfl (by first | decide | omega) (by first | decide | omega) (by first | decide | omega) rfl ?_
        refine x_goto (np := 87) (x := 29) (by decide +kernel) ?_
        exact i310 (1 + v306) (by first | decide | omega) (by first | decide | omega)
      have q352 : ¬ (v346 = 2147483648) := q352
      refine x_const (np := 80) (x := 9223372043297226753) (a := 2147483649) (by decide +kernel) (by decide) (by decide) ?_
      refine x_retI (np := 81) (x := 0) (by decide +kernel) (by decide) (Or.inr ⟨by decide +kernel, by first | decide | omega, by first | decide | omega⟩) ⟨_, rfl, (by decide), ?_⟩
      exact ⟨rfl, (by first | decide | omega)⟩
  exact p308 _ 2147483648 (Nat.lt_succ_self _) (by first | decide | omega)
