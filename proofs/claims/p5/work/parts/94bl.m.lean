/-! ===== methods ===== -/
set_option maxHeartbeats 0 in
/-- LentNames$Search.come(I)V -/
theorem c274_63_c1 {sc : Nat × Nat} {d  : Nat} {h : xh} (hJ : J h) : X sc 274 (d + 19) (xV fun h' => J h' ∧ Fr 32769 h h') 0 0 0 [x_r 63, iv_c 2147483649] [] h := by
  have hF := Fr.refl 32769 h
  refine x_aload (np := 1) (x := 0) (by decide +kernel) rfl (x_nc_le (by decide)) ?_
  refine x_dup (np := 2) (x := 0) (by decide +kernel) (by have z := x_nc_le (k := 63) (by decide); unfold x_r; omega) ?_
  refine x_getC (np := 5) (x := 785) (f := 17) (q := (h 63 17)) (by decide +kernel) (by decide) (by decide +kernel) rfl (fun l1 => ?_)
  refine x_const (np := 6) (x := 9223372043297226753) (a := 2147483649) (by decide +kernel) (by decide) (by decide) ?_
  refine x_addA (by rw [tb_b274]; decide +kernel) l1 (by decide) (fun v2 l3 => ?_)
  refine x_putI (np := 10) (x := 785) (f := 17) (by decide +kernel) (by decide +kernel) l3 (Or.inl (by decide)) ?_
  have j5 := jU (e := 17) (v := v2) 0 hJ rg_63_17_0_1 (by first | decide | omega) (by first | decide | omega) (by first | decide | omega)
  have f7 := jF (e := 17) (v := v2) 0 hF rg_63_17_0_1 (by first | decide | omega) (by first | decide | omega) (by decide)
  generalize e6 : x_up h 63 17 v2 = h4 at j5 f7 ⊢
  refine x_aload (np := 11) (x := 0) (by decide +kernel) rfl (x_nc_le (by decide)) ?_
  have q8 : h4 63 17 = v2 := by rw [← e6]; exact x_up_at
  refine x_getC (np := 14) (x := 785) (f := 17) (q := v2) (by decide +kernel) (by decide) (by decide +kernel) q8 (fun l9 => ?_)
  refine x_const (np := 17) (x := 9223457938348199456) (a := 2147503648) (by decide +kernel) (by decide) (by decide) ?_
  refine x_icmp (k := 5) (tg := 28) (np := 20) (by decide +kernel) (by decide) l3 (by decide) (fun q10 => ?_) (fun q11 => ?_)
  · have q10 : v2 ≤ 2147503648 := q10
    refine x_aload (np := 29) (x := 0) (by decide +kernel) rfl (x_nc_le (by decide)) ?_
    refine x_vI (P := fun r9 h9 => X sc 274 _ _ 0 0 32 [x_r 63, iv_c 2147483649] (iv_c r9 :: []) h9) (np := 32) (x := 5246979) (kk := 3) (cls := 4) (mj := 56) (ml := 1) (nr := 0) (rest := []) (lo1 := [x_r 63]) (by decide +kernel) (by decide) (by decide) (by decide) (by decide +kernel) (by decide +kernel) (by decide) (by decide +kernel) (by decide +kernel) x_wn (by decide) rfl ?_ (fun _ _ _ z => z)
    refine x_aload (np := 1) (x := 0) (by decide +kernel) rfl (x_nc_le (by decide)) ?_
    refine x_cI (t := 6) (mj := 57) (n := 1) (rc := 5) (ml := 5) (nr := 0) (np := 4) (as := [x_r 63]) (rest := []) (lo1 := [x_r 63, 147573952589676412928, 147573952589676412928, 147573952589676412928, 147573952589676412928]) (by decide +kernel) (by decide) (by decide +kernel) (x_rb_of (by decide +kernel)) rfl rfl (x_wr (by decide) x_wn) x_wn (by decide) rfl (c57_63 j5 ) (fun v12 h15 l13 q14 => ?_)
    obtain ⟨j16, f17, b18⟩ := q14
    have f19 := Fr.trans f7 f17 (by decide)
    refine x_ifz (k := 1) (tg := 14) (np := 7) (by decide +kernel) (by decide) l13 (fun q20 => ?_) (fun q21 => ?_)
    · have q20 : v12 ≠ 2147483648 := q20
      refine x_const (np := 15) (x := 9223372043297226753) (a := 2147483649) (by decide +kernel) (by decide) (by decide) ?_
      refine x_goto (np := 18) (x := 19) (by decide +kernel) ?_
      refine x_retI (np := 20) (x := 0) (by decide +kernel) (by decide) (Or.inr ⟨by decide +kernel, by first | decide | omega, by first | decide | omega⟩) ⟨_, rfl, (by decide), ?_⟩
      refine x_ifz (k := 1) (tg := 43) (np := 35) (by decide +kernel) (by decide) (by decide) (fun q22 => ?_) (fun q23 => ?_)
      · have q22 : 2147483649 ≠ 2147483648 := q22
        refine x_iload (np := 44) (x := 1) (by decide +kernel) rfl (by decide) ?_
        refine x_aload (np := 45) (x := 0) (by decide +kernel) rfl (x_nc_le (by decide)) ?_
        refine x_getC (np := 48) (x := 784) (f := 16) (q := (h15 63 16)) (by decide +kernel) (by decide) (by decide +kernel) rfl (fun l24 => ?_)
        refine x_icmp (k := 3) (tg := 61) (np := 51) (by decide +kernel) (by decide) (by decide) l24 (fun q25 => ?_) (fun q26 => ?_)
        · have q25 : (h15 63 16) ≤ 2147483649 := q25
          refine x_retV (np := 62) (x := 0) (by decide +kernel) (by decide +kernel) ⟨rfl, ?_⟩
          exact ⟨j16, f19⟩
        have q26 : ¬ ((h15 63 16) ≤ 2147483649) := q26
        refine x_iload (np := 52) (x := 1) (by decide +kernel) rfl (by decide) ?_
        refine x_const (np := 53) (x := 9223372060477095941) (a := 2147483653) (by decide +kernel) (by decide) (by decide) ?_
        refine x_icmp (k := 3) (tg := 61) (np := 56) (by decide +kernel) (by decide) (by decide) (by decide) (fun q27 => ?_) (fun q28 => ?_)
        · have q27 : 2147483653 ≤ 2147483649 := q27
          exfalso; omega
        have q28 : ¬ (2147483653 ≤ 2147483649) := q28
        refine x_aload (np := 57) (x := 0) (by decide +kernel) rfl (x_nc_le (by decide)) ?_
        refine x_iload (np := 58) (x := 1) (by decide +kernel) rfl (by decide) ?_
        refine x_cV (t := 8) (mj := 275) (n := 2) (rc := 13) (ml := 8) (nr := 0) (np := 61) (as := [x_r 63, iv_c 2147483649]) (rest := []) (lo1 := [x_r 63, iv_c 2147483649, 147573952589676412928, 147573952589676412928, 147573952589676412928, 147573952589676412928, 147573952589676412928, 147573952589676412928]) (by decide +kernel) (by decide) (by decide +kernel) (x_rb_of (by decide +kernel)) rfl rfl (x_wr (by decide) (x_wi (by decide) x_wn)) x_wn (by decide) rfl (c275_63_c1 j16  ) (fun h32 q31 => ?_)
        obtain ⟨j33, f34⟩ := q31
        have f37 := Fr.trans f19 f34 (by decide)
        refine x_retV (np := 62) (x := 0) (by decide +kernel) (by decide +kernel) ⟨rfl, ?_⟩
        exact ⟨j33, f37⟩
      have q23 : ¬ (2147483649 ≠ 2147483648) := q23
      exfalso; omega
    have q21 : ¬ (v12 ≠ 2147483648) := q21
    refine x_aload (np := 8) (x := 0) (by decide +kernel) rfl (x_nc_le (by decide)) ?_
    refine x_cI (t := 6) (mj := 58) (n := 1) (rc := 5) (ml := 4) (nr := 0) (np := 11) (as := [x_r 63]) (rest := []) (lo1 := [x_r 63, 147573952589676412928, 147573952589676412928, 147573952589676412928]) (by decide +kernel) (by decide) (by decide +kernel) (x_rb_of (by decide +kernel)) rfl rfl (x_wr (by decide) x_wn) x_wn (by decide) rfl (c58_63 j16 ) (fun v38 h41 l39 q40 => ?_)
    obtain ⟨j42, f43, b44⟩ := q40
    have f45 := Fr.trans f19 f43 (by decide)
    refine x_ifz (k := 0) (tg := 18) (np := 14) (by decide +kernel) (by decide) l39 (fun q46 => ?_) (fun q47 => ?_)
    · have q46 : v38 = 2147483648 := q46
      refine x_const (np := 19) (x := 9223372039002259456) (a := 2147483648) (by decide +kernel) (by decide) (by decide) ?_
      refine x_retI (np := 20) (x := 0) (by decide +kernel) (by decide) (Or.inr ⟨by decide +kernel, by first | decide | omega, by first | decide | omega⟩) ⟨_, rfl, (by decide), ?_⟩
      refine x_ifz (k := 1) (tg := 43) (np := 35) (by decide +kernel) (by decide) (by decide) (fun q48 => ?_) (fun q49 => ?_)
      · have q48 : 2147483648 ≠ 2147483648 := q48
        exfalso; omega
      have q49 : ¬ (2147483648 ≠ 2147483648) := q49
      refine x_aload (np := 36) (x := 0) (by decide +kernel) rfl (x_nc_le (by decide)) ?_
      refine x_iload (np := 37) (x := 1) (by decide +kernel) rfl (by decide) ?_
      refine x_cV (t := 8) (mj := 279) (n := 2) (rc := 13) (ml := 4) (nr := 0) (np := 40) (as := [x_r 63, iv_c 2147483649]) (rest := []) (lo1 := [x_r 63, iv_c 2147483649, 147573952589676412928, 147573952589676412928]) (by decide +kernel) (by decide) (by decide +kernel) (x_rb_of (by decide +kernel)) rfl rfl (x_wr (by decide) (x_wi (by decide) x_wn)) x_wn (by decide) rfl (c279_63_c1 j42  ) (fun h53 q52 => ?_)
      obtain ⟨j54, f55⟩ := q52
      have f58 := Fr.trans f45 f55 (by decide)
      refine x_goto (np := 43) (x := 61) (by decide +kernel) ?_
      refine x_retV (np := 62) (x := 0) (by decide +kernel) (by decide +kernel) ⟨rfl, ?_⟩
      exact ⟨j54, f58⟩
    have q47 : ¬ (v38 = 2147483648) := q47
    refine x_const (np := 15) (x := 9223372043297226753) (a := 2147483649) (by decide +kernel) (by decide) (by decide) ?_
    refine x_goto (np := 18) (x := 19) (by decide +kernel) ?_
    refine x_retI (np := 20) (x := 0) (by decide +kernel) (by decide) (Or.inr ⟨by decide +kernel, by first | decide | omega, by first | decide | omega⟩) ⟨_, rfl, (by decide), ?_⟩
    refine x_ifz (k := 1) (tg := 43) (np := 35) (by decide +kernel) (by decide) (by decide) (fun q59 => ?_) (fun q60 => ?_)
    · have q59 : 2147483649 ≠ 2147483648 := q59
      refine x_iload (np := 44) (x := 1) (by decide +kernel) rfl (by decide) ?_
      refine x_aload (np := 45) (x := 0) (by decide +kernel) rfl (x_nc_le (by decide)) ?_
      refine x_getC (np := 48) (x := 784) (f := 16) (q := (h41 63 16)) (by decide +kernel) (by decide) (by decide +kernel) rfl (fun l61 => ?_)
      refine x_icmp (k := 3) (tg := 61) (np := 51) (by decide +kernel) (by decide) (by decide) l61 (fun q62 => ?_) (fun q63 => ?_)
      · have q62 : (h41 63 16) ≤ 2147483649 := q62
        refine x_retV (np := 62) (x := 0) (by decide +kernel) (by decide +kernel) ⟨rfl, ?_⟩
        exact ⟨j42, f45⟩
      have q63 : ¬ ((h41 63 16) ≤ 2147483649) := q63
      refine x_iload (np := 52) (x := 1) (by decide +kernel) rfl (by decide) ?_
      refine x_const (np := 53) (x := 9223372060477095941) (a := 2147483653) (by decide +kernel) (by decide) (by decide) ?_
      refine x_icmp (k := 3) (tg := 61) (np := 56) (by decide +kernel) (by decide) (by decide) (by decide) (fun q64 => ?_) (fun q65 => ?_)
      · have q64 : 2147483653 ≤ 2147483649 := q64
        exfalso; omega
      have q65 : ¬ (2147483653 ≤ 2147483649) := q65
      refine x_aload (np := 57) (x := 0) (by decide +kernel) rfl (x_nc_le (by decide)) ?_
      refine x_iload (np := 58) (x := 1) (by decide +kernel) rfl (by decide) ?_
      refine x_cV (t := 8) (mj := 275) (n := 2) (rc := 13) (ml := 8) (nr := 0) (np := 61) (as := [x_r 63, iv_c 2147483649]) (rest := []) (lo1 := [x_r 63, iv_c 2147483649, 147573952589676412928, 147573952589676412928, 147573952589676412928, 147573952589676412928, 147573952589676412928, 147573952589676412928]) (by decide +kernel) (by decide) (by decide +kernel) (x_rb_of (by decide +kernel)) rfl rfl (x_wr (by decide) (x_wi (by decide) x_wn)) x_wn (by decide) rfl (c275_63_c1 j42  ) (fun h69 q68 => ?_)
      obtain ⟨j70, f71⟩ := q68
      have f74 := Fr.trans f45 f71 (by decide)
      refine x_retV (np := 62) (x := 0) (by decide +kernel) (by decide +kernel) ⟨rfl, ?_⟩
      exact ⟨j70, f74⟩
    have q60 : ¬ (2147483649 ≠ 2147483648) := q60
    exfalso; omega
  have q11 : ¬ (v2 ≤ 2147503648) := q11
  refine x_aload (np := 21) (x := 0) (by decide +kernel) rfl (x_nc_le (by decide)) ?_
  refine x_const (np := 22) (x := 9223372043297226753) (a := 2147483649) (by decide +kernel) (by decide) (by decide) ?_
  refine x_putI (np := 25) (x := 4873) (f := 9) (by decide +kernel) (by decide +kernel) (by decide) (Or.inr ⟨by decide, by first | decide | omega, by first | decide | omega⟩) ?_
  have j76 := jU (e := 9) (v := 2147483649) 0 j5 rg_63_9_0_1 (by first | decide | omega) (by first | decide | omega) (by first | decide | omega)
  have f78 := jF (e := 9) (v := 2147483649) 0 f7 rg_63_9_0_1 (by first | decide | omega) (by first | decide | omega) (by decide)
  generalize e77 : x_up h4 63 9 2147483649 = h75 at j76 f78 ⊢
  refine x_goto (np := 28) (x := 61) (by decide +kernel) ?_
  refine x_retV (np := 62) (x := 0) (by decide +kernel) (by decide +kernel) ⟨rfl, ?_⟩
  exact ⟨j76, f78⟩
set_option maxHeartbeats 0 in
/-- LentNames$Search.tryLoan(IIIII)V -/
theorem c277_63_c0 {sc : Nat × Nat} {d a2 a3 a4 a5 : Nat} {h : xh} (hJ : J h) (ba2 : 2147483648 ≤ a2 ∧ a2 ≤ 2147483653) (ba3 : 2147483648 ≤ a3 ∧ a3 ≤ 2147483653) (ba4 : 2147483648 ≤ a4 ∧ a4 ≤ 2147483659) (ba5 : 2147483648 ≤ a5 ∧ a5 ≤ 2147483659) : X sc 277 (d + 20) (xV fun h' => J h' ∧ Fr 32769 h h') 0 0 0 [x_r 63, iv_c 2147483648, iv_c a2, iv_c a3, iv_c a4, iv_c a5, 147573952589676412928] [] h := by
  have la2 : a2 < 4294967296 := by first | decide | omega
  have la3 : a3 < 4294967296 := by first | decide | omega
  have la4 : a4 < 4294967296 := by first | decide | omega
  have la5 : a5 < 4294967296 := by first | decide | omega
  have hF := Fr.refl 32769 h
  refine x_const (np := 1) (x := 9223372043297226753) (a := 2147483649) (by decide +kernel) (by decide) (by decide) ?_
  refine x_iload (np := 3) (x := 5) (by decide +kernel) rfl la5 ?_
  refine x_const (np := 4) (x := 9223372043297226753) (a := 2147483649) (by decide +kernel) (by decide) (by decide) ?_
  refine x_iadd (np := 5) (x := 0) (v := (1 + a5)) (by decide +kernel) la5 (by decide) (by first | decide | omega) (by first | decide | omega) ?_
  refine x_any (np := 6) (k9 := 3) (by decide +kernel) (by decide) (by decide) (by first | decide | omega) (fun v1 l2 => ?_)
  refine x_const (np := 7) (x := 9223372043297226753) (a := 2147483649) (by decide +kernel) (by decide) (by decide) ?_
  refine x_iload (np := 9) (x := 4) (by decide +kernel) rfl la4 ?_
  refine x_any (np := 10) (k9 := 3) (by decide +kernel) (by decide) (by decide) la4 (fun v3 l4 => ?_)
  refine x_subA (by rw [tb_b277]; decide +kernel) l2 l4 (fun v5 l6 => ?_)
  refine x_istore (np := 13) (x := 6) (lo' := [x_r 63, iv_c 2147483648, iv_c a2, iv_c a3, iv_c a4, iv_c a5, iv_c v5]) (by decide +kernel) l6 (Nat.le_of_ble_eq_true rfl) rfl ?_
  refine x_aload (np := 14) (x := 0) (by decide +kernel) rfl (x_nc_le (by decide)) ?_
  have q7 : h 63 3 = 67 := by have z := jB (e := 3) 0 hJ rg_63_3_0_1 (by decide) (by decide); omega
  refine x_getR (np := 17) (x := 771) (f := 3) (q := 67) (by decide +kernel) (by decide) (by decide +kernel) q7 ?_
  refine x_iload (np := 18) (x := 1) (by decide +kernel) rfl (by decide) ?_
  refine x_const (np := 21) (x := 9223414988675229456) (a := 2147493648) (by decide +kernel) (by decide) (by decide) ?_
  refine x_iload (np := 22) (x := 2) (by decide +kernel) rfl la2 ?_
  obtain ⟨u8, q9⟩ : ∃ z, a2 = 2147483648 + z := ⟨a2 - 2147483648, by first | decide | omega⟩
  refine x_imul (np := 23) (x := 0) (i := 10000) (j := u8) (v := (2147483648 + 10000 * u8)) (by decide +kernel) (by first | decide | omega) (by first | decide | omega) (by first | decide | omega) (by first | decide | omega) (by decide) la2 ?_
  refine x_const (np := 26) (x := 9223376333969556456) (a := 2147484648) (by decide +kernel) (by decide) (by decide) ?_
  refine x_iload (np := 27) (x := 3) (by decide +kernel) rfl la3 ?_
  obtain ⟨u11, q12⟩ : ∃ z, a3 = 2147483648 + z := ⟨a3 - 2147483648, by first | decide | omega⟩
  refine x_imul (np := 28) (x := 0) (i := 1000) (j := u11) (v := (2147483648 + 1000 * u11)) (by decide +kernel) (by first | decide | omega) (by first | decide | omega) (by first | decide | omega) (by first | decide | omega) (by decide) la3 ?_
  refine x_iadd (np := 29) (x := 0) (v := (2147483648 + 10000 * u8 + 1000 * u11)) (by decide +kernel) (by first | decide | omega) (by first | decide | omega) (by first | decide | omega) (by first | decide | omega) ?_
  refine x_const (np := 31) (x := 9223372124901605396) (a := 2147483668) (by decide +kernel) (by decide) (by decide) ?_
  refine x_iload (np := 33) (x := 4) (by decide +kernel) rfl la4 ?_
  obtain ⟨u14, q15⟩ : ∃ z, a4 = 2147483648 + z := ⟨a4 - 2147483648, by first | decide | omega⟩
  refine x_imul (np := 34) (x := 0) (i := 20) (j := u14) (v := (2147483648 + 20 * u14)) (by decide +kernel) (by first | decide | omega) (by first | decide | omega) (by first | decide | omega) (by first | decide | omega) (by decide) la4 ?_
  refine x_iadd (np := 35) (x := 0) (v := (2147483648 + 10000 * u8 + 1000 * u11 + 20 * u14)) (by decide +kernel) (by first | decide | omega) (by first | decide | omega) (by first | decide | omega) (by first | decide | omega) ?_
  refine x_iload (np := 37) (x := 5) (by decide +kernel) rfl la5 ?_
  refine x_iadd (np := 38) (x := 0) (v := (10000 * u8 + 1000 * u11 + 20 * u14 + a5)) (by decide +kernel) (by first | decide | omega) la5 (by first | decide | omega) (by first | decide | omega) ?_
  refine x_ast (np := 39) (x := 0) (kd := 1) (n := 5) (i := 0) (by decide +kernel) (Or.inl rfl) (by decide +kernel) (by first | decide | omega) (by first | decide | omega) (by decide) (by first | decide | omega) (fun z => absurd z (by decide)) ?_
  have j18 := jU (e := 0) (v := (10000 * u8 + 1000 * u11 + 20 * u14 + a5)) 0 hJ rg_67_0_1_5 (by first | decide | omega) (by first | decide | omega) (by first | decide | omega)
  have f20 := jF (e := 0) (v := (10000 * u8 + 1000 * u11 + 20 * u14 + a5)) 0 hF rg_67_0_1_5 (by first | decide | omega) (by first | decide | omega) (by decide)
  generalize e19 : x_up h 67 0 (10000 * u8 + 1000 * u11 + 20 * u14 + a5) = h17 at j18 f20 ⊢
  refine x_aload (np := 40) (x := 0) (by decide +kernel) rfl (x_nc_le (by decide)) ?_
  refine x_iload (np := 41) (x := 2) (by decide +kernel) rfl la2 ?_
  refine x_iload (np := 42) (x := 3) (by decide +kernel) rfl la3 ?_
  refine x_iload (np := 44) (x := 6) (by decide +kernel) rfl l6 ?_
  refine x_cV (t := 8) (mj := 280) (n := 4) (rc := 13) (ml := 5) (nr := 0) (np := 47) (as := [x_r 63, iv_c a2, iv_c a3, iv_c v5]) (rest := []) (lo1 := [x_r 63, iv_c a2, iv_c a3, iv_c v5, 147573952589676412928]) (by decide +kernel) (by decide) (by decide +kernel) (x_rb_of (by decide +kernel)) rfl rfl (x_wr (by decide) (x_wi la2 (x_wi la3 (x_wi l6 x_wn)))) x_wn (by decide) rfl (c280_63 j18  (by first | decide | omega) (by first | decide | omega) (by first | decide | omega)) (fun h24 q23 => ?_)
  obtain ⟨j25, f26⟩ := q23
  have f29 := Fr.trans f20 f26 (by decide)
  refine x_aload (np := 48) (x := 0) (by decide +kernel) rfl (x_nc_le (by decide)) ?_
  refine x_iload (np := 49) (x := 1) (by decide +kernel) rfl (by decide) ?_
  refine x_const (np := 50) (x := 9223372043297226753) (a := 2147483649) (by decide +kernel) (by decide) (by decide) ?_
  refine x_iadd (np := 51) (x := 0) (v := 2147483649) (by decide +kernel) (by decide) (by decide) (by first | decide | omega) (by first | decide | omega) ?_
  refine x_cV (t := 8) (mj := 274) (n := 2) (rc := 13) (ml := 2) (nr := 0) (np := 54) (as := [x_r 63, iv_c 2147483649]) (rest := []) (lo1 := [x_r 63, iv_c 2147483649]) (by decide +kernel) (by decide) (by decide +kernel) (x_rb_of (by decide +kernel)) rfl rfl (x_wr (by decide) (x_wi (by decide) x_wn)) x_wn (by decide) rfl (c274_63_c1 j25  ) (fun h33 q32 => ?_)
  obtain ⟨j34, f35⟩ := q32
  have f38 := Fr.trans f29 f35 (by decide)
  refine x_aload (np := 55) (x := 0) (by decide +kernel) rfl (x_nc_le (by decide)) ?_
  refine x_iload (np := 56) (x := 2) (by decide +kernel) rfl la2 ?_
  refine x_iload (np := 58) (x := 6) (by decide +kernel) rfl l6 ?_
  refine x_cV (t := 8) (mj := 281) (n := 3) (rc := 13) (ml := 5) (nr := 0) (np := 61) (as := [x_r 63, iv_c a2, iv_c v5]) (rest := []) (lo1 := [x_r 63, iv_c a2, iv_c v5, 147573952589676412928, 147573952589676412928]) (by decide +kernel) (by decide) (by decide +kernel) (x_rb_of (by decide +kernel)) rfl rfl (x_wr (by decide) (x_wi la2 (x_wi l6 x_wn))) x_wn (by decide) rfl (c281_63 j34  (by first | decide | omega) (by first | decide | omega)) (fun h42 q41 => ?_)
  obtain ⟨j43, f44⟩ := q41
  have f47 := Fr.trans f38 f44 (by decide)
  refine x_retV (np := 62) (x := 0) (by decide +kernel) (by decide +kernel) ⟨rfl, ?_⟩
  exact ⟨j43, f47⟩
set_option maxHeartbeats 0 in
/-- LentNames$Search.tryLoans(IIIII)V -/
theorem c276_63_c0 {sc : Nat × Nat} {d a2 a3 a4 a5 : Nat} {h : xh} (hJ : J h) (ba2 : 2147483648 ≤ a2 ∧ a2 ≤ 2147483653) (ba3 : 2147483648 ≤ a3 ∧ a3 ≤ 2147483653) (ba4 : 0 ≤ a4 ∧ a4 ≤ 4294967295) (ba5 : 0 ≤ a5 ∧ a5 ≤ 4294967295) : X sc 276 (d + 21) (xV fun h' => J h' ∧ Fr 32769 h h') 0 0 0 [x_r 63, iv_c 2147483648, iv_c a2, iv_c a3, iv_c a4, iv_c a5, 147573952589676412928, 147573952589676412928, 147573952589676412928, 147573952589676412928] [] h := by
  have la2 : a2 < 4294967296 := by first | decide | omega
  have la3 : a3 < 4294967296 := by first | decide | omega
  have la4 : a4 < 4294967296 := by first | decide | omega
  have la5 : a5 < 4294967296 := by first | decide | omega
  have hF := Fr.refl 32769 h
  refine x_aload (np := 1) (x := 0) (by decide +kernel) rfl (x_nc_le (by decide)) ?_
  have q1 : h 63 5 = 45 := by have z := jB (e := 5) 0 hJ rg_63_5_0_1 (by decide) (by decide); omega
  refine x_getR (np := 4) (x := 773) (f := 5) (q := 45) (by decide +kernel) (by decide) (by decide +kernel) q1 ?_
  have q2 : h 45 0 = 46 := by have z := jB (e := 0) 0 hJ rg_45_0_0_1 (by decide) (by decide); omega
  refine x_getR (np := 7) (x := 64) (f := 0) (q := 46) (by decide +kernel) (by decide) (by decide +kernel) q2 ?_
  refine x_iload (np := 8) (x := 3) (by decide +kernel) rfl la3 ?_
  obtain ⟨u3, q4⟩ : ∃ z, a3 = 2147483648 + z := ⟨a3 - 2147483648, by first | decide | omega⟩
  refine x_aldC (np := 9) (x := 0) (n := 6) (i := u3) (q := (h 46 u3)) (by decide +kernel) (by decide +kernel) (by first | decide | omega) (by first | decide | omega) (by decide) rfl (fun l5 => ?_)
  refine x_aload (np := 10) (x := 0) (by decide +kernel) rfl (x_nc_le (by decide)) ?_
  have q6 : h 63 5 = 45 := by have z := jB (e := 5) 0 hJ rg_63_5_0_1 (by decide) (by decide); omega
  refine x_getR (np := 13) (x := 773) (f := 5) (q := 45) (by decide +kernel) (by decide) (by decide +kernel) q6 ?_
  have q7 : h 45 1 = 47 := by have z := jB (e := 1) 0 hJ rg_45_1_0_1 (by decide) (by decide); omega
  refine x_getR (np := 16) (x := 65) (f := 1) (q := 47) (by decide +kernel) (by decide) (by decide +kernel) q7 ?_
  refine x_iload (np := 17) (x := 2) (by decide +kernel) rfl la2 ?_
  refine x_iload (np := 18) (x := 3) (by decide +kernel) rfl la3 ?_
  refine x_nI (t := 7) (mj := 149) (n := 2) (rc := 0) (ml := 2) (nr := 2) (np := 21) (as := [iv_c a2, iv_c a3]) (rest := [x_r 47, iv_c (h 46 u3)]) (lo1 := [iv_c a2, iv_c a3]) (by decide +kernel) (by decide) (by decide +kernel) (Or.inl rfl) rfl rfl (x_wi la2 (x_wi la3 x_wn)) (x_wr (by decide) (x_wi l5 x_wn)) (by decide) rfl ?_
  refine x_iload (np := 1) (x := 0) (by decide +kernel) rfl la2 ?_
  refine x_const (np := 3) (x := 9223372064772063238) (a := 2147483654) (by decide +kernel) (by decide) (by decide) ?_
  obtain ⟨u8, q9⟩ : ∃ z, a2 = 2147483648 + z := ⟨a2 - 2147483648, by first | decide | omega⟩
  refine x_imul (np := 4) (x := 0) (i := u8) (j := 6) (v := (2147483648 + 6 * u8)) (by decide +kernel) (by first | decide | omega) (by first | decide | omega) (by first | decide | omega) (by first | decide | omega) la2 (by decide) ?_
  refine x_iload (np := 5) (x := 1) (by decide +kernel) rfl la3 ?_
  refine x_iadd (np := 6) (x := 0) (v := (6 * u8 + a3)) (by decide +kernel) (by first | decide | omega) la3 (by first | decide | omega) (by first | decide | omega) ?_
  refine x_retI (np := 7) (x := 0) (by decide +kernel) (by first | decide | omega) (Or.inl (by decide +kernel)) ⟨_, rfl, (by first | decide | omega), ?_⟩
  refine x_aldC (np := 22) (x := 0) (n := 36) (i := (6 * u8 + u3)) (q := ((h 47 (6 * u8 + u3)))) (by decide +kernel) (by decide +kernel) (by first | decide | omega) (by first | decide | omega) (by decide) rfl (fun l11 => ?_)
  refine x_const (np := 23) (x := 9223372034707292159) (a := 2147483647) (by decide +kernel) (by decide) (by decide) ?_
  refine x_any (np := 24) (k9 := 2) (by decide +kernel) (by decide) l11 (by decide) (fun v12 l13 => ?_)
  refine x_any (np := 25) (k9 := 0) (by decide +kernel) (by decide) l5 l13 (fun v14 l15 => ?_)
  refine x_aload (np := 26) (x := 0) (by decide +kernel) rfl (x_nc_le (by decide)) ?_
  have q16 : h 63 2 = 66 := by have z := jB (e := 2) 0 hJ rg_63_2_0_1 (by decide) (by decide); omega
  refine x_getR (np := 29) (x := 770) (f := 2) (q := 66) (by decide +kernel) (by decide) (by decide +kernel) q16 ?_
  refine x_iload (np := 30) (x := 2) (by decide +kernel) rfl la2 ?_
  refine x_aldC (np := 31) (x := 0) (n := 6) (i := u8) (q := (h 66 u8)) (by decide +kernel) (by decide +kernel) (by first | decide | omega) (by first | decide | omega) (by decide) rfl (fun l17 => ?_)
  refine x_const (np := 32) (x := 9223372034707292159) (a := 2147483647) (by decide +kernel) (by decide) (by decide) ?_
  refine x_any (np := 33) (k9 := 2) (by decide +kernel) (by decide) l17 (by decide) (fun v18 l19 => ?_)
  refine x_any (np := 34) (k9 := 0) (by decide +kernel) (by decide) l15 l19 (fun v20 l21 => ?_)
  refine x_istore (np := 36) (x := 6) (lo' := [x_r 63, iv_c 2147483648, iv_c a2, iv_c a3, iv_c a4, iv_c a5, iv_c v20, 147573952589676412928, 147573952589676412928, 147573952589676412928]) (by decide +kernel) l21 (Nat.le_of_ble_eq_true rfl) rfl ?_
  refine x_aload (np := 37) (x := 0) (by decide +kernel) rfl (x_nc_le (by decide)) ?_
  have q22 : h 63 1 = 65 := by have z := jB (e := 1) 0 hJ rg_63_1_0_1 (by decide) (by decide); omega
  refine x_getR (np := 40) (x := 769) (f := 1) (q := 65) (by decide +kernel) (by decide) (by decide +kernel) q22 ?_
  refine x_iload (np := 41) (x := 2) (by decide +kernel) rfl la2 ?_
  refine x_aldC (np := 42) (x := 0) (n := 6) (i := u8) (q := (h 65 u8)) (by decide +kernel) (by decide +kernel) (by first | decide | omega) (by first | decide | omega) (by decide) rfl (fun l23 => ?_)
  refine x_iload (np := 44) (x := 6) (by decide +kernel) rfl l21 ?_
  refine x_any (np := 45) (k9 := 0) (by decide +kernel) (by decide) l23 l21 (fun v24 l25 => ?_)
  refine x_istore (np := 47) (x := 7) (lo' := [x_r 63, iv_c 2147483648, iv_c a2, iv_c a3, iv_c a4, iv_c a5, iv_c v20, iv_c v24, 147573952589676412928, 147573952589676412928]) (by decide +kernel) l25 (Nat.le_of_ble_eq_true rfl) rfl ?_
  refine x_const (np := 48) (x := 9223372039002259456) (a := 2147483648) (by decide +kernel) (by decide) (by decide) ?_
  refine x_istore (np := 50) (x := 8) (lo' := [x_r 63, iv_c 2147483648, iv_c a2, iv_c a3, iv_c a4, iv_c a5, iv_c v20, iv_c v24, iv_c 2147483648, 147573952589676412928]) (by decide +kernel) (by decide) (Nat.le_of_ble_eq_true rfl) rfl ?_
  have p3726 : ∀ (n : Nat) (v3720 : Nat) (w3722 : Nat) (h3723 : xh), 4294967296 - v3720 < n → (2147483648 ≤ v3720 ∧ v3720 ≤ 2147483660) → J h3723 → Fr 32769 h h3723 → X sc 276 (d + 21) (xV fun h' => J h' ∧ Fr 32769 h h') 0 0 50 [x_r 63, iv_c 2147483648, iv_c a2, iv_c a3, iv_c a4, iv_c a5, iv_c v20, iv_c v24, iv_c v3720, w3722] [] h3723 := by
    intro n
    induction n with
    | zero => intro v3720 w3722 h3723 q3727; exact absurd q3727 (Nat.not_lt_zero _)
    | succ n i3728 =>
      intro v3720 w3722 h3723 q3727 b3721 j3725 f3724
      have f3729 := Fr.trans hF f3724 (by decide)
      refine x_iload (np := 52) (x := 8) (by decide +kernel) rfl (by first | decide | omega) ?_
      refine x_iload (np := 54) (x := 5) (by decide +kernel) rfl la5 ?_
      refine x_icmp (k := 4) (tg := 145) (np := 57) (by decide +kernel) (by decide) (by first | decide | omega) la5 (fun q3730 => ?_) (fun q3731 => ?_)
      · have q3730 : a5 < v3720 := q3730
        refine x_retV (np := 146) (x := 0) (by decide +kernel) (by decide +kernel) ⟨rfl, ?_⟩
        exact ⟨j3725, f3729⟩
      have q3731 : ¬ (a5 < v3720) := q3731
      refine x_iload (np := 59) (x := 8) (by decide +kernel) rfl (by first | decide | omega) ?_
      refine x_const (np := 61) (x := 9223372090541867020) (a := 2147483660) (by decide +kernel) (by decide) (by decide) ?_
      refine x_icmp (k := 3) (tg := 145) (np := 64) (by decide +kernel) (by decide) (by first | decide | omega) (by decide) (fun q3732 => ?_) (fun q3733 => ?_)
      · have q3732 : 2147483660 ≤ v3720 := q3732
        refine x_retV (np := 146) (x := 0) (by decide +kernel) (by decide +kernel) ⟨rfl, ?_⟩
        exact ⟨j3725, f3729⟩
      have q3733 : ¬ (2147483660 ≤ v3720) := q3733
      refine x_iload (np := 66) (x := 7) (by decide +kernel) rfl l25 ?_
      refine x_iload (np := 68) (x := 8) (by decide +kernel) rfl (by first | decide | omega) ?_
      refine x_cP (t := 7) (mj := 148) (n := 2) (rc := 0) (ml := 2) (nr := 0) (np := 71) (as := [iv_c v24, iv_c v3720]) (rest := []) (lo1 := [iv_c v24, iv_c v3720]) (by decide +kernel) (by decide) (by decide +kernel) (Or.inl rfl) rfl rfl (x_wi l25 (x_wi (by first | decide | omega) x_wn)) x_wn (by decide) rfl (c148 j3725 (by first | decide | omega) (by first | decide | omega)) (fun v3734 l3735 q3736 => ?_)
      refine x_ifz (k := 1) (tg := 77) (np := 74) (by decide +kernel) (by decide) l3735 (fun q3737 => ?_) (fun q3738 => ?_)
      · have q3737 : v3734 ≠ 2147483648 := q3737
        refine x_iload (np := 79) (x := 8) (by decide +kernel) rfl (by first | decide | omega) ?_
        refine x_istore (np := 81) (x := 9) (lo' := [x_r 63, iv_c 2147483648, iv_c a2, iv_c a3, iv_c a4, iv_c a5, iv_c v20, iv_c v24, iv_c v3720, iv_c v3720]) (by decide +kernel) (by first | decide | omega) (Nat.le_of_ble_eq_true rfl) rfl ?_
        have p3831 : ∀ (n : Nat) (v3826 : Nat) (h3828 : xh), 4294967296 - v3826 < n → (2147483648 ≤ v3826 ∧ v3826 ≤ 2147483660) → J h3828 → Fr 32769 h3723 h3828 → X sc 276 (d + 21) (xV fun h' => J h' ∧ Fr 32769 h h') 0 0 81 [x_r 63, iv_c 2147483648, iv_c a2, iv_c a3, iv_c a4, iv_c a5, iv_c v20, iv_c v24, iv_c v3720, iv_c v3826] [] h3828 := by
          intro n
          induction n with
          | zero => intro v3826 h3828 q3832; exact absurd q3832 (Nat.not_lt_zero _)
          | succ n i3833 =>
            intro v3826 h3828 q3832 b3827 j3830 f3829
            have f3834 := Fr.trans f3729 f3829 (by decide)
            have f3835 := Fr.trans f3724 f3829 (by decide)
            refine x_iload (np := 83) (x := 9) (by decide +kernel) rfl (by first | decide | omega) ?_
            refine x_const (np := 85) (x := 9223372090541867020) (a := 2147483660) (by decide +kernel) (by decide) (by decide) ?_
            refine x_icmp (k := 3) (tg := 139) (np := 88) (by decide +kernel) (by decide) (by first | decide | omega) (by decide) (fun q3836 => ?_) (fun q3837 => ?_)
            · have q3836 : 2147483660 ≤ v3826 := q3836
              refine x_iinc (np := 142) (i := 8) (j := 2147483649) (v := (1 + v3720)) (lo' := [x_r 63, iv_c 2147483648, iv_c a2, iv_c a3, iv_c a4, iv_c a5, iv_c v20, iv_c v24, iv_c (1 + v3720), iv_c v3826]) (by decide +kernel) (by decide) (by decide) rfl (by first | decide | omega) (by first | decide | omega) (by first | decide | omega) rfl ?_
              refine x_goto (np := 145) (x := 50) (by decide +kernel) ?_
              exact i3728 (1 + v3720) (iv_c v3826) h3828 (by first | decide | omega) (by first | decide | omega) j3830 f3835
            have q3837 : ¬ (2147483660 ≤ v3826) := q3837
            refine x_iload (np := 90) (x := 6) (by decide +kernel) rfl l21 ?_
            refine x_iload (np := 92) (x := 9) (by decide +kernel) rfl (by first | decide | omega) ?_
            refine x_cP (t := 7) (mj := 148) (n := 2) (rc := 0) (ml := 2) (nr := 0) (np := 95) (as := [iv_c v20, iv_c v3826]) (rest := []) (lo1 := [iv_c v20, iv_c v3826]) (by decide +kernel) (by decide) (by decide +kernel) (Or.inl rfl) rfl rfl (x_wi l21 (x_wi (by first | decide | omega) x_wn)) x_wn (by decide) rfl (c148 j3830 (by first | decide | omega) (by first | decide | omega)) (fun v3838 l3839 q3840 => ?_)
            refine x_ifz (k := 0) (tg := 139) (np := 98) (by decide +kernel) (by decide) l3839 (fun q3841 => ?_) (fun q3842 => ?_)
            · have q3841 : v3838 = 2147483648 := q3841
              refine x_iinc (np := 142) (i := 8) (j := 2147483649) (v := (1 + v3720)) (lo' := [x_r 63, iv_c 2147483648, iv_c a2, iv_c a3, iv_c a4, iv_c a5, iv_c v20, iv_c v24, iv_c (1 + v3720), iv_c v3826]) (by decide +kernel) (by decide) (by decide) rfl (by first | decide | omega) (by first | decide | omega) (by first | decide | omega) rfl ?_
              refine x_goto (np := 145) (x := 50) (by decide +kernel) ?_
              exact i3728 (1 + v3720) (iv_c v3826) h3828 (by first | decide | omega) (by first | decide | omega) j3830 f3835
            have q3842 : ¬ (v3838 = 2147483648) := q3842
            refine x_aload (np := 99) (x := 0) (by decide +kernel) rfl (x_nc_le (by decide)) ?_
            refine x_nI (t := 8) (mj := 278) (n := 1) (rc := 13) (ml := 1) (nr := 0) (np := 102) (as := [x_r 63]) (rest := []) (lo1 := [x_r 63]) (by decide +kernel) (by decide) (by decide +kernel) (x_rb_of (by decide +kernel)) rfl rfl (x_wr (by decide) x_wn) x_wn (by decide) rfl ?_
            refine x_aload (np := 1) (x := 0) (by decide +kernel) rfl (x_nc_le (by decide)) ?_
            have b3843 := jB (e := 9) 0 j3830 rg_63_9_0_1 (by first | decide | omega) (by first | decide | omega)
            refine x_getC (np := 4) (x := 777) (f := 9) (q := (h3828 63 9)) (by decide +kernel) (by decide) (by decide +kernel) rfl (fun l3844 => ?_)
            refine x_ifz (k := 1) (tg := 21) (np := 7) (by decide +kernel) (by decide) l3844 (fun q3845 => ?_) (fun q3846 => ?_)
            · have q3845 : (h3828 63 9) ≠ 2147483648 := q3845
              refine x_const (np := 22) (x := 9223372043297226753) (a := 2147483649) (by decide +kernel) (by decide) (by decide) ?_
              refine x_goto (np := 25) (x := 26) (by decide +kernel) ?_
              refine x_retI (np := 27) (x := 0) (by decide +kernel) (by decide) (Or.inr ⟨by decide +kernel, by first | decide | omega, by first | decide | omega⟩) ⟨_, rfl, (by decide), ?_⟩
              refine x_ifz (k := 1) (tg := 139) (np := 105) (by decide +kernel) (by decide) (by decide) (fun q3847 => ?_) (fun q3848 => ?_)
              · have q3847 : 2147483649 ≠ 2147483648 := q3847
                refine x_iinc (np := 142) (i := 8) (j := 2147483649) (v := (1 + v3720)) (lo' := [x_r 63, iv_c 2147483648, iv_c a2, iv_c a3, iv_c a4, iv_c a5, iv_c v20, iv_c v24, iv_c (1 + v3720), iv_c v3826]) (by decide +kernel) (by decide) (by decide) rfl (by first | decide | omega) (by first | decide | omega) (by first | decide | omega) rfl ?_
                refine x_goto (np := 145) (x := 50) (by decide +kernel) ?_
                exact i3728 (1 + v3720) (iv_c v3826) h3828 (by first | decide | omega) (by first | decide | omega) j3830 f3835
              have q3848 : ¬ (2147483649 ≠ 2147483648) := q3848
              exfalso; omega
            have q3846 : ¬ ((h3828 63 9) ≠ 2147483648) := q3846
            refine x_aload (np := 8) (x := 0) (by decide +kernel) rfl (x_nc_le (by decide)) ?_
            refine x_getC (np := 11) (x := 776) (f := 8) (q := (h3828 63 8)) (by decide +kernel) (by decide) (by decide +kernel) rfl (fun l3849 => ?_)
            refine x_ifz (k := 5) (tg := 25) (np := 14) (by decide +kernel) (by decide) l3849 (fun q3850 => ?_) (fun q3851 => ?_)
            · have q3850 : (h3828 63 8) ≤ 2147483648 := q3850
              refine x_const (np := 26) (x := 9223372039002259456) (a := 2147483648) (by decide +kernel) (by decide) (by decide) ?_
              refine x_retI (np := 27) (x := 0) (by decide +kernel) (by decide) (Or.inr ⟨by decide +kernel, by first | decide | omega, by first | decide | omega⟩) ⟨_, rfl, (by decide), ?_⟩
              refine x_ifz (k := 1) (tg := 139) (np := 105) (by decide +kernel) (by decide) (by decide) (fun q3852 => ?_) (fun q3853 => ?_)
              · have q3852 : 2147483648 ≠ 2147483648 := q3852
                exfalso; omega
              have q3853 : ¬ (2147483648 ≠ 2147483648) := q3853
              refine x_iload (np := 107) (x := 9) (by decide +kernel) rfl (by first | decide | omega) ?_
              refine x_iload (np := 109) (x := 4) (by decide +kernel) rfl la4 ?_
              refine x_icmp (k := 2) (tg := 133) (np := 112) (by decide +kernel) (by decide) (by first | decide | omega) la4 (fun q3854 => ?_) (fun q3855 => ?_)
              · have q3854 : v3826 < a4 := q3854
                refine x_iinc (np := 136) (i := 9) (j := 2147483649) (v := (1 + v3826)) (lo' := [x_r 63, iv_c 2147483648, iv_c a2, iv_c a3, iv_c a4, iv_c a5, iv_c v20, iv_c v24, iv_c v3720, iv_c (1 + v3826)]) (by decide +kernel) (by decide) (by decide) rfl (by first | decide | omega) (by first | decide | omega) (by first | decide | omega) rfl ?_
                refine x_goto (np := 139) (x := 81) (by decide +kernel) ?_
                exact i3833 (1 + v3826) h3828 (by first | decide | omega) (by first | decide | omega) j3830 f3829
              have q3855 : ¬ (v3826 < a4) := q3855
              refine x_iload (np := 114) (x := 7) (by decide +kernel) rfl l25 ?_
              refine x_iload (np := 116) (x := 9) (by decide +kernel) rfl (by first | decide | omega) ?_
              refine x_cP (t := 7) (mj := 148) (n := 2) (rc := 0) (ml := 2) (nr := 0) (np := 119) (as := [iv_c v24, iv_c v3826]) (rest := []) (lo1 := [iv_c v24, iv_c v3826]) (by decide +kernel) (by decide) (by decide +kernel) (Or.inl rfl) rfl rfl (x_wi l25 (x_wi (by first | decide | omega) x_wn)) x_wn (by decide) rfl (c148 j3830 (by first | decide | omega) (by first | decide | omega)) (fun v3856 l3857 q3858 => ?_)
              refine x_ifz (k := 0) (tg := 133) (np := 122) (by decide +kernel) (by decide) l3857 (fun q3859 => ?_) (fun q3860 => ?_)
              · have q3859 : v3856 = 2147483648 := q3859
                refine x_iinc (np := 136) (i := 9) (j := 2147483649) (v := (1 + v3826)) (lo' := [x_r 63, iv_c 2147483648, iv_c a2, iv_c a3, iv_c a4, iv_c a5, iv_c v20, iv_c v24, iv_c v3720, iv_c (1 + v3826)]) (by decide +kernel) (by decide) (by decide) rfl (by first | decide | omega) (by first | decide | omega) (by first | decide | omega) rfl ?_
                refine x_goto (np := 139) (x := 81) (by decide +kernel) ?_
                exact i3833 (1 + v3826) h3828 (by first | decide | omega) (by first | decide | omega) j3830 f3829
              have q3860 : ¬ (v3856 = 2147483648) := q3860
              refine x_aload (np := 123) (x := 0) (by decide +kernel) rfl (x_nc_le (by decide)) ?_
              refine x_iload (np := 124) (x := 1) (by decide +kernel) rfl (by decide) ?_
              refine x_iload (np := 125) (x := 2) (by decide +kernel) rfl la2 ?_
              refine x_iload (np := 126) (x := 3) (by decide +kernel) rfl la3 ?_
              refine x_iload (np := 128) (x := 8) (by decide +kernel) rfl (by first | decide | omega) ?_
              refine x_iload (np := 130) (x := 9) (by decide +kernel) rfl (by first | decide | omega) ?_
              refine x_cV (t := 8) (mj := 277) (n := 6) (rc := 13) (ml := 7) (nr := 0) (np := 133) (as := [x_r 63, iv_c 2147483648, iv_c a2, iv_c a3, iv_c v3720, iv_c v3826]) (rest := []) (lo1 := [x_r 63, iv_c 2147483648, iv_c a2, iv_c a3, iv_c v3720, iv_c v3826, 147573952589676412928]) (by decide +kernel) (by decide) (by decide +kernel) (x_rb_of (by decide +kernel)) rfl rfl (x_wr (by decide) (x_wi (by decide) (x_wi la2 (x_wi la3 (x_wi (by first | decide | omega) (x_wi (by first | decide | omega) x_wn)))))) x_wn (by decide) rfl (c277_63_c0 j3830   (by first | decide | omega) (by first | decide | omega) (by first | decide | omega) (by first | decide | omega)) (fun h3864 q3863 => ?_)
              obtain ⟨j3865, f3866⟩ := q3863
              have f3869 := Fr.trans f3834 f3866 (by decide)
              have f3870 := Fr.trans f3835 f3866 (by decide)
              have f3871 := Fr.trans f3829 f3866 (by decide)
              refine x_iinc (np := 136) (i := 9) (j := 2147483649) (v := (1 + v3826)) (lo' := [x_r 63, iv_c 2147483648, iv_c a2, iv_c a3, iv_c a4, iv_c a5, iv_c v20, iv_c v24, iv_c v3720, iv_c (1 + v3826)]) (by decide +kernel) (by decide) (by decide) rfl (by first | decide | omega) (by first | decide | omega) (by first | decide | omega) rfl ?_
              refine x_goto (np := 139) (x := 81) (by decide +kernel) ?_
              exact i3833 (1 + v3826) h3864 (by first | decide | omega) (by first | decide | omega) j3865 f3871
            have q3851 : ¬ ((h3828 63 8) ≤ 2147483648) := q3851
            refine x_aload (np := 15) (x := 0) (by decide +kernel) rfl (x_nc_le (by decide)) ?_
            refine x_vI (P := fun r9 h9 => X sc 278 _ _ 0 0 18 [x_r 63] (iv_c r9 :: []) h9) (np := 18) (x := 5246977) (kk := 1) (cls := 4) (mj := 54) (ml := 1) (nr := 0) (rest := []) (lo1 := [x_r 63]) (by decide +kernel) (by decide) (by decide) (by decide) (by decide +kernel) (by decide +kernel) (by decide) (by decide +kernel) (by decide +kernel) x_wn (by decide) rfl ?_ (fun _ _ _ z => z)
            refine x_const (np := 1) (x := 9223372043297226753) (a := 2147483649) (by decide +kernel) (by decide) (by decide) ?_
            refine x_retI (np := 2) (x := 0) (by decide +kernel) (by decide) (Or.inr ⟨by decide +kernel, by first | decide | omega, by first | decide | omega⟩) ⟨_, rfl, (by decide), ?_⟩
            refine x_ifz (k := 0) (tg := 25) (np := 21) (by decide +kernel) (by decide) (by decide) (fun q3872 => ?_) (fun q3873 => ?_)
            · have q3872 : 2147483649 = 2147483648 := q3872
              exfalso; omega
            have q3873 : ¬ (2147483649 = 2147483648) := q3873
            refine x_const (np := 22) (x := 9223372043297226753) (a := 2147483649) (by decide +kernel) (by decide) (by decide) ?_
            refine x_goto (np := 25) (x := 26) (by decide +kernel) ?_
            refine x_retI (np := 27) (x := 0) (by decide +kernel) (by decide) (Or.inr ⟨by decide +kernel, by first | decide | omega, by first | decide | omega⟩) ⟨_, rfl, (by decide), ?_⟩
            refine x_ifz (k := 1) (tg := 139) (np := 105) (by decide +kernel) (by decide) (by decide) (fun q3874 => ?_) (fun q3875 => ?_)
            · have q3874 : 2147483649 ≠ 2147483648 := q3874
              refine x_iinc (np := 142) (i := 8) (j := 2147483649) (v := (1 + v3720)) (lo' := [x_r 63, iv_c 2147483648, iv_c a2, iv_c a3, iv_c a4, iv_c a5, iv_c v20, iv_c v24, iv_c (1 + v3720), iv_c v3826]) (by decide +kernel) (by decide) (by decide) rfl (by first | decide | omega) (by first | decide | omega) (by first | decide | omega) rfl ?_
              refine x_goto (np := 145) (x := 50) (by decide +kernel) ?_
              exact i3728 (1 + v3720) (iv_c v3826) h3828 (by first | decide | omega) (by first | decide | omega) j3830 f3835
            have q3875 : ¬ (2147483649 ≠ 2147483648) := q3875
            exfalso; omega
        exact p3831 _ v3720 h3723 (Nat.lt_succ_self _) (by first | decide | omega) j3725 (Fr.refl _ _)
      have q3738 : ¬ (v3734 ≠ 2147483648) := q3738
      refine x_goto (np := 77) (x := 139) (by decide +kernel) ?_
      refine x_iinc (np := 142) (i := 8) (j := 2147483649) (v := (1 + v3720)) (lo' := [x_r 63, iv_c 2147483648, iv_c a2, iv_c a3, iv_c a4, iv_c a5, iv_c v20, iv_c v24, iv_c (1 + v3720), w3722]) (by decide +kernel) (by decide) (by decide) rfl (by first | decide | omega) (by first | decide | omega) (by first | decide | omega) rfl ?_
      refine x_goto (np := 145) (x := 50) (by decide +kernel) ?_
      exact i3728 (1 + v3720) w3722 h3723 (by first | decide | omega) (by first | decide | omega) j3725 f3724
  exact p3726 _ 2147483648 147573952589676412928 h (Nat.lt_succ_self _) (by first | decide | omega) hJ (Fr.refl _ _)
set_option maxHeartbeats 0 in
/-- LentNames$Search.mend(I)V -/
theorem c275_63_c0 {sc : Nat × Nat} {d  : Nat} {h : xh} (hJ : J h) : X sc 275 (d + 22) (xV fun h' => J h' ∧ Fr 32769 h h') 0 0 0 [x_r 63, iv_c 2147483648, 147573952589676412928, 147573952589676412928, 147573952589676412928, 147573952589676412928, 147573952589676412928, 147573952589676412928] [] h := by
  have hF := Fr.refl 32769 h
  refine x_aload (np := 1) (x := 0) (by decide +kernel) rfl (x_nc_le (by decide)) ?_
  refine x_getC (np := 4) (x := 778) (f := 10) (q := (h 63 10)) (by decide +kernel) (by decide) (by decide +kernel) rfl (fun l1 => ?_)
  refine x_istore (np := 5) (x := 2) (lo' := [x_r 63, iv_c 2147483648, iv_c (h 63 10), 147573952589676412928, 147573952589676412928, 147573952589676412928, 147573952589676412928, 147573952589676412928]) (by decide +kernel) l1 (Nat.le_of_ble_eq_true rfl) rfl ?_
  refine x_aload (np := 6) (x := 0) (by decide +kernel) rfl (x_nc_le (by decide)) ?_
  refine x_getC (np := 9) (x := 779) (f := 11) (q := (h 63 11)) (by decide +kernel) (by decide) (by decide +kernel) rfl (fun l2 => ?_)
  refine x_istore (np := 10) (x := 3) (lo' := [x_r 63, iv_c 2147483648, iv_c (h 63 10), iv_c (h 63 11), 147573952589676412928, 147573952589676412928, 147573952589676412928, 147573952589676412928]) (by decide +kernel) l2 (Nat.le_of_ble_eq_true rfl) rfl ?_
  refine x_aload (np := 11) (x := 0) (by decide +kernel) rfl (x_nc_le (by decide)) ?_
  refine x_getC (np := 14) (x := 780) (f := 12) (q := (h 63 12)) (by decide +kernel) (by decide) (by decide +kernel) rfl (fun l3 => ?_)
  refine x_istore (np := 16) (x := 4) (lo' := [x_r 63, iv_c 2147483648, iv_c (h 63 10), iv_c (h 63 11), iv_c (h 63 12), 147573952589676412928, 147573952589676412928, 147573952589676412928]) (by decide +kernel) l3 (Nat.le_of_ble_eq_true rfl) rfl ?_
  refine x_aload (np := 17) (x := 0) (by decide +kernel) rfl (x_nc_le (by decide)) ?_
  refine x_getC (np := 20) (x := 781) (f := 13) (q := (h 63 13)) (by decide +kernel) (by decide) (by decide +kernel) rfl (fun l4 => ?_)
  refine x_istore (np := 22) (x := 5) (lo' := [x_r 63, iv_c 2147483648, iv_c (h 63 10), iv_c (h 63 11), iv_c (h 63 12), iv_c (h 63 13), 147573952589676412928, 147573952589676412928]) (by decide +kernel) l4 (Nat.le_of_ble_eq_true rfl) rfl ?_
  refine x_const (np := 23) (x := 9223372039002259456) (a := 2147483648) (by decide +kernel) (by decide) (by decide) ?_
  refine x_istore (np := 25) (x := 6) (lo' := [x_r 63, iv_c 2147483648, iv_c (h 63 10), iv_c (h 63 11), iv_c (h 63 12), iv_c (h 63 13), iv_c 2147483648, 147573952589676412928]) (by decide +kernel) (by decide) (Nat.le_of_ble_eq_true rfl) rfl ?_
  have p1452 : ∀ (n : Nat) (v1446 : Nat) (w1448 : Nat) (h1449 : xh), 4294967296 - v1446 < n → (2147483648 ≤ v1446 ∧ v1446 ≤ 2147483654) → J h1449 → Fr 32769 h h1449 → X sc 275 (d + 22) (xV fun h' => J h' ∧ Fr 32769 h h') 0 0 25 [x_r 63, iv_c 2147483648, iv_c (h 63 10), iv_c (h 63 11), iv_c (h 63 12), iv_c (h 63 13), iv_c v1446, w1448] [] h1449 := by
    intro n
    induction n with
    | zero => intro v1446 w1448 h1449 q1453; exact absurd q1453 (Nat.not_lt_zero _)
    | succ n i1454 =>
      intro v1446 w1448 h1449 q1453 b1447 j1451 f1450
      have f1455 := Fr.trans hF f1450 (by decide)
      refine x_iload (np := 27) (x := 6) (by decide +kernel) rfl (by first | decide | omega) ?_
      refine x_aload (np := 28) (x := 0) (by decide +kernel) rfl (x_nc_le (by decide)) ?_
      have t1456 : tw (h1449 63 6) := j1451.2.2.2.2.2.1
      refine x_getR (np := 31) (x := 774) (f := 6) (q := (h1449 63 6)) (by decide +kernel) (by decide) (by decide +kernel) rfl ?_
      have q1457 : h1449 (h1449 63 6) 7 = h (h1449 63 6) 7 := jK 0 f1450 (rg_T0_7_0_1 t1456) (by first | decide | omega) (by first | decide | omega) (by decide)
      have b1458 := jB (e := 7) 0 hJ (rg_T0_7_0_1 t1456) (by first | decide | omega) (by first | decide | omega)
      refine x_getC (np := 34) (x := 519) (f := 7) (q := (h (h1449 63 6) 7)) (by decide +kernel) (by decide) (tg_0_519_7_0 t1456) q1457 (fun l1459 => ?_)
      refine x_icmp (k := 3) (tg := 95) (np := 37) (by decide +kernel) (by decide) (by first | decide | omega) l1459 (fun q1460 => ?_) (fun q1461 => ?_)
      · have q1460 : (h (h1449 63 6) 7) ≤ v1446 := q1460
        refine x_retV (np := 96) (x := 0) (by decide +kernel) (by decide +kernel) ⟨rfl, ?_⟩
        exact ⟨j1451, f1455⟩
      have q1461 : ¬ ((h (h1449 63 6) 7) ≤ v1446) := q1461
      refine x_const (np := 38) (x := 9223372039002259456) (a := 2147483648) (by decide +kernel) (by decide) (by decide) ?_
      refine x_istore (np := 40) (x := 7) (lo' := [x_r 63, iv_c 2147483648, iv_c (h 63 10), iv_c (h 63 11), iv_c (h 63 12), iv_c (h 63 13), iv_c v1446, iv_c 2147483648]) (by decide +kernel) (by decide) (Nat.le_of_ble_eq_true rfl) rfl ?_
      have p1659 : ∀ (n : Nat) (v1654 : Nat) (h1656 : xh), 4294967296 - v1654 < n → (2147483648 ≤ v1654 ∧ v1654 ≤ 2147483654) → J h1656 → Fr 32769 h1449 h1656 → X sc 275 (d + 22) (xV fun h' => J h' ∧ Fr 32769 h h') 0 0 40 [x_r 63, iv_c 2147483648, iv_c (h 63 10), iv_c (h 63 11), iv_c (h 63 12), iv_c (h 63 13), iv_c v1446, iv_c v1654] [] h1656 := by
        intro n
        induction n with
        | zero => intro v1654 h1656 q1660; exact absurd q1660 (Nat.not_lt_zero _)
        | succ n i1661 =>
          intro v1654 h1656 q1660 b1655 j1658 f1657
          have f1662 := Fr.trans f1455 f1657 (by decide)
          have f1663 := Fr.trans f1450 f1657 (by decide)
          refine x_iload (np := 42) (x := 7) (by decide +kernel) rfl (by first | decide | omega) ?_
          refine x_aload (np := 43) (x := 0) (by decide +kernel) rfl (x_nc_le (by decide)) ?_
          have t1664 : tw (h1656 63 6) := j1658.2.2.2.2.2.1
          refine x_getR (np := 46) (x := 774) (f := 6) (q := (h1656 63 6)) (by decide +kernel) (by decide) (by decide +kernel) rfl ?_
          have q1665 : h1656 (h1656 63 6) 7 = h1449 (h1656 63 6) 7 := jK 0 f1657 (rg_T0_7_0_1 t1664) (by first | decide | omega) (by first | decide | omega) (by decide)
          have q1666 : h1449 (h1656 63 6) 7 = h (h1656 63 6) 7 := jK 0 f1450 (rg_T0_7_0_1 t1664) (by first | decide | omega) (by first | decide | omega) (by decide)
          have b1667 := jB (e := 7) 0 hJ (rg_T0_7_0_1 t1664) (by first | decide | omega) (by first | decide | omega)
          refine x_getC (np := 49) (x := 519) (f := 7) (q := (h (h1656 63 6) 7)) (by decide +kernel) (by decide) (tg_0_519_7_0 t1664) (q1665.trans q1666) (fun l1668 => ?_)
          refine x_icmp (k := 3) (tg := 89) (np := 52) (by decide +kernel) (by decide) (by first | decide | omega) l1668 (fun q1669 => ?_) (fun q1670 => ?_)
          · have q1669 : (h (h1656 63 6) 7) ≤ v1654 := q1669
            refine x_iinc (np := 92) (i := 6) (j := 2147483649) (v := (1 + v1446)) (lo' := [x_r 63, iv_c 2147483648, iv_c (h 63 10), iv_c (h 63 11), iv_c (h 63 12), iv_c (h 63 13), iv_c (1 + v1446), iv_c v1654]) (by decide +kernel) (by decide) (by decide) rfl (by first | decide | omega) (by first | decide | omega) (by first | decide | omega) rfl ?_
            refine x_goto (np := 95) (x := 25) (by decide +kernel) ?_
            exact i1454 (1 + v1446) (iv_c v1654) h1656 (by first | decide | omega) (by first | decide | omega) j1658 f1663
          have q1670 : ¬ ((h (h1656 63 6) 7) ≤ v1654) := q1670
          refine x_iload (np := 53) (x := 2) (by decide +kernel) rfl l1 ?_
          refine x_iload (np := 55) (x := 6) (by decide +kernel) rfl (by first | decide | omega) ?_
          refine x_cP (t := 7) (mj := 148) (n := 2) (rc := 0) (ml := 2) (nr := 0) (np := 58) (as := [iv_c (h 63 10), iv_c v1446]) (rest := []) (lo1 := [iv_c (h 63 10), iv_c v1446]) (by decide +kernel) (by decide) (by decide +kernel) (Or.inl rfl) rfl rfl (x_wi l1 (x_wi (by first | decide | omega) x_wn)) x_wn (by decide) rfl (c148 j1658 (by first | decide | omega) (by first | decide | omega)) (fun v1671 l1672 q1673 => ?_)
          refine x_ifz (k := 0) (tg := 83) (np := 61) (by decide +kernel) (by decide) l1672 (fun q1674 => ?_) (fun q1675 => ?_)
          · have q1674 : v1671 = 2147483648 := q1674
            refine x_iinc (np := 86) (i := 7) (j := 2147483649) (v := (1 + v1654)) (lo' := [x_r 63, iv_c 2147483648, iv_c (h 63 10), iv_c (h 63 11), iv_c (h 63 12), iv_c (h 63 13), iv_c v1446, iv_c (1 + v1654)]) (by decide +kernel) (by decide) (by decide) rfl (by first | decide | omega) (by first | decide | omega) (by first | decide | omega) rfl ?_
            refine x_goto (np := 89) (x := 40) (by decide +kernel) ?_
            exact i1661 (1 + v1654) h1656 (by first | decide | omega) (by first | decide | omega) j1658 f1657
          have q1675 : ¬ (v1671 = 2147483648) := q1675
          refine x_iload (np := 62) (x := 3) (by decide +kernel) rfl l2 ?_
          refine x_iload (np := 64) (x := 7) (by decide +kernel) rfl (by first | decide | omega) ?_
          refine x_cP (t := 7) (mj := 148) (n := 2) (rc := 0) (ml := 2) (nr := 0) (np := 67) (as := [iv_c (h 63 11), iv_c v1654]) (rest := []) (lo1 := [iv_c (h 63 11), iv_c v1654]) (by decide +kernel) (by decide) (by decide +kernel) (Or.inl rfl) rfl rfl (x_wi l2 (x_wi (by first | decide | omega) x_wn)) x_wn (by decide) rfl (c148 j1658 (by first | decide | omega) (by first | decide | omega)) (fun v1676 l1677 q1678 => ?_)
          refine x_ifz (k := 0) (tg := 83) (np := 70) (by decide +kernel) (by decide) l1677 (fun q1679 => ?_) (fun q1680 => ?_)
          · have q1679 : v1676 = 2147483648 := q1679
            refine x_iinc (np := 86) (i := 7) (j := 2147483649) (v := (1 + v1654)) (lo' := [x_r 63, iv_c 2147483648, iv_c (h 63 10), iv_c (h 63 11), iv_c (h 63 12), iv_c (h 63 13), iv_c v1446, iv_c (1 + v1654)]) (by decide +kernel) (by decide) (by decide) rfl (by first | decide | omega) (by first | decide | omega) (by first | decide | omega) rfl ?_
            refine x_goto (np := 89) (x := 40) (by decide +kernel) ?_
            exact i1661 (1 + v1654) h1656 (by first | decide | omega) (by first | decide | omega) j1658 f1657
          have q1680 : ¬ (v1676 = 2147483648) := q1680
          refine x_aload (np := 71) (x := 0) (by decide +kernel) rfl (x_nc_le (by decide)) ?_
          refine x_iload (np := 72) (x := 1) (by decide +kernel) rfl (by decide) ?_
          refine x_iload (np := 74) (x := 6) (by decide +kernel) rfl (by first | decide | omega) ?_
          refine x_iload (np := 76) (x := 7) (by decide +kernel) rfl (by first | decide | omega) ?_
          refine x_iload (np := 78) (x := 4) (by decide +kernel) rfl l3 ?_
          refine x_iload (np := 80) (x := 5) (by decide +kernel) rfl l4 ?_
          refine x_cV (t := 8) (mj := 276) (n := 6) (rc := 13) (ml := 10) (nr := 0) (np := 83) (as := [x_r 63, iv_c 2147483648, iv_c v1446, iv_c v1654, iv_c (h 63 12), iv_c (h 63 13)]) (rest := []) (lo1 := [x_r 63, iv_c 2147483648, iv_c v1446, iv_c v1654, iv_c (h 63 12), iv_c (h 63 13), 147573952589676412928, 147573952589676412928, 147573952589676412928, 147573952589676412928]) (by decide +kernel) (by decide) (by decide +kernel) (x_rb_of (by decide +kernel)) rfl rfl (x_wr (by decide) (x_wi (by decide) (x_wi (by first | decide | omega) (x_wi (by first | decide | omega) (x_wi l3 (x_wi l4 x_wn)))))) x_wn (by decide) rfl (c276_63_c0 j1658   (by first | decide | omega) (by first | decide | omega) (by first | decide | omega) (by first | decide | omega)) (fun h1684 q1683 => ?_)
          obtain ⟨j1685, f1686⟩ := q1683
          have f1689 := Fr.trans f1662 f1686 (by decide)
          have f1690 := Fr.trans f1663 f1686 (by decide)
          have f1691 := Fr.trans f1657 f1686 (by decide)
          refine x_iinc (np := 86) (i := 7) (j := 2147483649) (v := (1 + v1654)) (lo' := [x_r 63, iv_c 2147483648, iv_c (h 63 10), iv_c (h 63 11), iv_c (h 63 12), iv_c (h 63 13), iv_c v1446, iv_c (1 + v1654)]) (by decide +kernel) (by decide) (by decide) rfl (by first | decide | omega) (by first | decide | omega) (by first | decide | omega) rfl ?_
          refine x_goto (np := 89) (x := 40) (by decide +kernel) ?_
          exact i1661 (1 + v1654) h1684 (by first | decide | omega) (by first | decide | omega) j1685 f1691
      exact p1659 _ 2147483648 h1449 (Nat.lt_succ_self _) (by first | decide | omega) j1451 (Fr.refl _ _)
  exact p1452 _ 2147483648 147573952589676412928 h (Nat.lt_succ_self _) (by first | decide | omega) hJ (Fr.refl _ _)
set_option maxHeartbeats 0 in
/-- LentNames$Search.keepSet(I)V -/
theorem c279_63_c0 {sc : Nat × Nat} {d  : Nat} {h : xh} (hJ : J h) : X sc 279 d (xV fun h' => J h' ∧ Fr 32769 h h') 0 0 0 [x_r 63, iv_c 2147483648, 147573952589676412928, 147573952589676412928] [] h := by
  have hF := Fr.refl 32769 h
  refine x_aload (np := 1) (x := 0) (by decide +kernel) rfl (x_nc_le (by decide)) ?_
  refine x_dup (np := 2) (x := 0) (by decide +kernel) (by have z := x_nc_le (k := 63) (by decide); unfold x_r; omega) ?_
  refine x_getC (np := 5) (x := 776) (f := 8) (q := (h 63 8)) (by decide +kernel) (by decide) (by decide +kernel) rfl (fun l1 => ?_)
  refine x_const (np := 6) (x := 9223372043297226753) (a := 2147483649) (by decide +kernel) (by decide) (by decide) ?_
  refine x_addA (by rw [tb_b279]; decide +kernel) l1 (by decide) (fun v2 l3 => ?_)
  refine x_putI (np := 10) (x := 776) (f := 8) (by decide +kernel) (by decide +kernel) l3 (Or.inl (by decide)) ?_
  have j5 := jU (e := 8) (v := v2) 0 hJ rg_63_8_0_1 (by first | decide | omega) (by first | decide | omega) (by first | decide | omega)
  have f7 := jF (e := 8) (v := v2) 0 hF rg_63_8_0_1 (by first | decide | omega) (by first | decide | omega) (by decide)
  generalize e6 : x_up h 63 8 v2 = h4 at j5 f7 ⊢
  refine x_aload (np := 11) (x := 0) (by decide +kernel) rfl (x_nc_le (by decide)) ?_
  have q8 : h4 63 8 = v2 := by rw [← e6]; exact x_up_at
  refine x_getC (np := 14) (x := 776) (f := 8) (q := v2) (by decide +kernel) (by decide) (by decide +kernel) q8 (fun l9 => ?_)
  refine x_const (np := 15) (x := 9223372043297226753) (a := 2147483649) (by decide +kernel) (by decide) (by decide) ?_
  refine x_icmp (k := 5) (tg := 19) (np := 18) (by decide +kernel) (by decide) l3 (by decide) (fun q10 => ?_) (fun q11 => ?_)
  · have q10 : v2 ≤ 2147483649 := q10
    refine x_aload (np := 20) (x := 0) (by decide +kernel) rfl (x_nc_le (by decide)) ?_
    refine x_iload (np := 21) (x := 1) (by decide +kernel) rfl (by decide) ?_
    refine x_putI (np := 24) (x := 783) (f := 15) (by decide +kernel) (by decide +kernel) (by decide) (Or.inl (by decide)) ?_
    have j13 := jU (e := 15) (v := 2147483648) 0 j5 rg_63_15_0_1 (by first | decide | omega) (by first | decide | omega) (by first | decide | omega)
    have f15 := jF (e := 15) (v := 2147483648) 0 f7 rg_63_15_0_1 (by first | decide | omega) (by first | decide | omega) (by decide)
    generalize e14 : x_up h4 63 15 2147483648 = h12 at j13 f15 ⊢
    refine x_const (np := 25) (x := 9223372039002259456) (a := 2147483648) (by decide +kernel) (by decide) (by decide) ?_
    refine x_istore (np := 26) (x := 2) (lo' := [x_r 63, iv_c 2147483648, iv_c 2147483648, 147573952589676412928]) (by decide +kernel) (by decide) (Nat.le_of_ble_eq_true rfl) rfl ?_
    have p26 : ∀ (n : Nat) (v23 : Nat) (w25 : Nat), 0 < n → (2147483648 ≤ v23 ∧ v23 ≤ 2147483648) → X sc 279 d (xV fun h' => J h' ∧ Fr 32769 h h') 0 0 26 [x_r 63, iv_c 2147483648, iv_c v23, w25] [] h12 := by
      intro n
      induction n with
      | zero => intro v23 w25 q27; exact absurd q27 (Nat.not_lt_zero _)
      | succ n i28 =>
        intro v23 w25 q27 b24
        refine x_iload (np := 27) (x := 2) (by decide +kernel) rfl (by first | decide | omega) ?_
        refine x_aload (np := 28) (x := 0) (by decide +kernel) rfl (x_nc_le (by decide)) ?_
        have q29 : h12 63 15 = 2147483648 := by rw [← e14]; exact x_up_at
        refine x_getC (np := 31) (x := 783) (f := 15) (q := 2147483648) (by decide +kernel) (by decide) (by decide +kernel) q29 (fun l30 => ?_)
        refine x_icmp (k := 3) (tg := 95) (np := 34) (by decide +kernel) (by decide) (by first | decide | omega) (by decide) (fun q31 => ?_) (fun q32 => ?_)
        · have q31 : 2147483648 ≤ v23 := q31
          refine x_retV (np := 96) (x := 0) (by decide +kernel) (by decide +kernel) ⟨rfl, ?_⟩
          exact ⟨j13, f15⟩
        have q32 : ¬ (2147483648 ≤ v23) := q32
        exfalso; omega
    exact p26 _ 2147483648 147573952589676412928 (Nat.lt_succ_self _) (by first | decide | omega)
  have q11 : ¬ (v2 ≤ 2147483649) := q11
  refine x_retV (np := 19) (x := 0) (by decide +kernel) (by decide +kernel) ⟨rfl, ?_⟩
  exact ⟨j5, f7⟩
set_option maxHeartbeats 0 in
/-- LentNames$Search.come(I)V -/
theorem c274_63_c0 {sc : Nat × Nat} {d  : Nat} {h : xh} (hJ : J h) : X sc 274 (d + 23) (xV fun h' => J h' ∧ Fr 32769 h h') 0 0 0 [x_r 63, iv_c 2147483648] [] h := by
  have hF := Fr.refl 32769 h
  refine x_aload (np := 1) (x := 0) (by decide +kernel) rfl (x_nc_le (by decide)) ?_
  refine x_dup (np := 2) (x := 0) (by decide +kernel) (by have z := x_nc_le (k := 63) (by decide); unfold x_r; omega) ?_
  refine x_getC (np := 5) (x := 785) (f := 17) (q := (h 63 17)) (by decide +kernel) (by decide) (by decide +kernel) rfl (fun l1 => ?_)
  refine x_const (np := 6) (x := 9223372043297226753) (a := 2147483649) (by decide +kernel) (by decide) (by decide) ?_
  refine x_addA (by rw [tb_b274]; decide +kernel) l1 (by decide) (fun v2 l3 => ?_)
  refine x_putI (np := 10) (x := 785) (f := 17) (by decide +kernel) (by decide +kernel) l3 (Or.inl (by decide)) ?_
  have j5 := jU (e := 17) (v := v2) 0 hJ rg_63_17_0_1 (by first | decide | omega) (by first | decide | omega) (by first | decide | omega)
  have f7 := jF (e := 17) (v := v2) 0 hF rg_63_17_0_1 (by first | decide | omega) (by first | decide | omega) (by decide)
  generalize e6 : x_up h 63 17 v2 = h4 at j5 f7 ⊢
  refine x_aload (np := 11) (x := 0) (by decide +kernel) rfl (x_nc_le (by decide)) ?_
  have q8 : h4 63 17 = v2 := by rw [← e6]; exact x_up_at
  refine x_getC (np := 14) (x := 785) (f := 17) (q := v2) (by decide +kernel) (by decide) (by decide +kernel) q8 (fun l9 => ?_)
  refine x_const (np := 17) (x := 9223457938348199456) (a := 2147503648) (by decide +kernel) (by decide) (by decide) ?_
  refine x_icmp (k := 5) (tg := 28) (np := 20) (by decide +kernel) (by decide) l3 (by decide) (fun q10 => ?_) (fun q11 => ?_)
  · have q10 : v2 ≤ 2147503648 := q10
    refine x_aload (np := 29) (x := 0) (by decide +kernel) rfl (x_nc_le (by decide)) ?_
    refine x_vI (P := fun r9 h9 => X sc 274 _ _ 0 0 32 [x_r 63, iv_c 2147483648] (iv_c r9 :: []) h9) (np := 32) (x := 5246979) (kk := 3) (cls := 4) (mj := 56) (ml := 1) (nr := 0) (rest := []) (lo1 := [x_r 63]) (by decide +kernel) (by decide) (by decide) (by decide) (by decide +kernel) (by decide +kernel) (by decide) (by decide +kernel) (by decide +kernel) x_wn (by decide) rfl ?_ (fun _ _ _ z => z)
    refine x_aload (np := 1) (x := 0) (by decide +kernel) rfl (x_nc_le (by decide)) ?_
    refine x_cI (t := 6) (mj := 57) (n := 1) (rc := 5) (ml := 5) (nr := 0) (np := 4) (as := [x_r 63]) (rest := []) (lo1 := [x_r 63, 147573952589676412928, 147573952589676412928, 147573952589676412928, 147573952589676412928]) (by decide +kernel) (by decide) (by decide +kernel) (x_rb_of (by decide +kernel)) rfl rfl (x_wr (by decide) x_wn) x_wn (by decide) rfl (c57_63 j5 ) (fun v12 h15 l13 q14 => ?_)
    obtain ⟨j16, f17, b18⟩ := q14
    have f19 := Fr.trans f7 f17 (by decide)
    refine x_ifz (k := 1) (tg := 14) (np := 7) (by decide +kernel) (by decide) l13 (fun q20 => ?_) (fun q21 => ?_)
    · have q20 : v12 ≠ 2147483648 := q20
      refine x_const (np := 15) (x := 9223372043297226753) (a := 2147483649) (by decide +kernel) (by decide) (by decide) ?_
      refine x_goto (np := 18) (x := 19) (by decide +kernel) ?_
      refine x_retI (np := 20) (x := 0) (by decide +kernel) (by decide) (Or.inr ⟨by decide +kernel, by first | decide | omega, by first | decide | omega⟩) ⟨_, rfl, (by decide), ?_⟩
      refine x_ifz (k := 1) (tg := 43) (np := 35) (by decide +kernel) (by decide) (by decide) (fun q22 => ?_) (fun q23 => ?_)
      · have q22 : 2147483649 ≠ 2147483648 := q22
        refine x_iload (np := 44) (x := 1) (by decide +kernel) rfl (by decide) ?_
        refine x_aload (np := 45) (x := 0) (by decide +kernel) rfl (x_nc_le (by decide)) ?_
        refine x_getC (np := 48) (x := 784) (f := 16) (q := (h15 63 16)) (by decide +kernel) (by decide) (by decide +kernel) rfl (fun l24 => ?_)
        refine x_icmp (k := 3) (tg := 61) (np := 51) (by decide +kernel) (by decide) (by decide) l24 (fun q25 => ?_) (fun q26 => ?_)
        · have q25 : (h15 63 16) ≤ 2147483648 := q25
          refine x_retV (np := 62) (x := 0) (by decide +kernel) (by decide +kernel) ⟨rfl, ?_⟩
          exact ⟨j16, f19⟩
        have q26 : ¬ ((h15 63 16) ≤ 2147483648) := q26
        refine x_iload (np := 52) (x := 1) (by decide +kernel) rfl (by decide) ?_
        refine x_const (np := 53) (x := 9223372060477095941) (a := 2147483653) (by decide +kernel) (by decide) (by decide) ?_
        refine x_icmp (k := 3) (tg := 61) (np := 56) (by decide +kernel) (by decide) (by decide) (by decide) (fun q27 => ?_) (fun q28 => ?_)
        · have q27 : 2147483653 ≤ 2147483648 := q27
          exfalso; omega
        have q28 : ¬ (2147483653 ≤ 2147483648) := q28
        refine x_aload (np := 57) (x := 0) (by decide +kernel) rfl (x_nc_le (by decide)) ?_
        refine x_iload (np := 58) (x := 1) (by decide +kernel) rfl (by decide) ?_
        refine x_cV (t := 8) (mj := 275) (n := 2) (rc := 13) (ml := 8) (nr := 0) (np := 61) (as := [x_r 63, iv_c 2147483648]) (rest := []) (lo1 := [x_r 63, iv_c 2147483648, 147573952589676412928, 147573952589676412928, 147573952589676412928, 147573952589676412928, 147573952589676412928, 147573952589676412928]) (by decide +kernel) (by decide) (by decide +kernel) (x_rb_of (by decide +kernel)) rfl rfl (x_wr (by decide) (x_wi (by decide) x_wn)) x_wn (by decide) rfl (c275_63_c0 j16  ) (fun h32 q31 => ?_)
        obtain ⟨j33, f34⟩ := q31
        have f37 := Fr.trans f19 f34 (by decide)
        refine x_retV (np := 62) (x := 0) (by decide +kernel) (by decide +kernel) ⟨rfl, ?_⟩
        exact ⟨j33, f37⟩
      have q23 : ¬ (2147483649 ≠ 2147483648) := q23
      exfalso; omega
    have q21 : ¬ (v12 ≠ 2147483648) := q21
    refine x_aload (np := 8) (x := 0) (by decide +kernel) rfl (x_nc_le (by decide)) ?_
    refine x_cI (t := 6) (mj := 58) (n := 1) (rc := 5) (ml := 4) (nr := 0) (np := 11) (as := [x_r 63]) (rest := []) (lo1 := [x_r 63, 147573952589676412928, 147573952589676412928, 147573952589676412928]) (by decide +kernel) (by decide) (by decide +kernel) (x_rb_of (by decide +kernel)) rfl rfl (x_wr (by decide) x_wn) x_wn (by decide) rfl (c58_63 j16 ) (fun v38 h41 l39 q40 => ?_)
    obtain ⟨j42, f43, b44⟩ := q40
    have f45 := Fr.trans f19 f43 (by decide)
    refine x_ifz (k := 0) (tg := 18) (np := 14) (by decide +kernel) (by decide) l39 (fun q46 => ?_) (fun q47 => ?_)
    · have q46 : v38 = 2147483648 := q46
      refine x_const (np := 19) (x := 9223372039002259456) (a := 2147483648) (by decide +kernel) (by decide) (by decide) ?_
      refine x_retI (np := 20) (x := 0) (by decide +kernel) (by decide) (Or.inr ⟨by decide +kernel, by first | decide | omega, by first | decide | omega⟩) ⟨_, rfl, (by decide), ?_⟩
      refine x_ifz (k := 1) (tg := 43) (np := 35) (by decide +kernel) (by decide) (by decide) (fun q48 => ?_) (fun q49 => ?_)
      · have q48 : 2147483648 ≠ 2147483648 := q48
        exfalso; omega
      have q49 : ¬ (2147483648 ≠ 2147483648) := q49
      refine x_aload (np := 36) (x := 0) (by decide +kernel) rfl (x_nc_le (by decide)) ?_
      refine x_iload (np := 37) (x := 1) (by decide +kernel) rfl (by decide) ?_
      refine x_cV (t := 8) (mj := 279) (n := 2) (rc := 13) (ml := 4) (nr := 0) (np := 40) (as := [x_r 63, iv_c 2147483648]) (rest := []) (lo1 := [x_r 63, iv_c 2147483648, 147573952589676412928, 147573952589676412928]) (by decide +kernel) (by decide) (by decide +kernel) (x_rb_of (by decide +kernel)) rfl rfl (x_wr (by decide) (x_wi (by decide) x_wn)) x_wn (by decide) rfl (c279_63_c0 j42  ) (fun h53 q52 => ?_)
      obtain ⟨j54, f55⟩ := q52
      have f58 := Fr.trans f45 f55 (by decide)
      refine x_goto (np := 43) (x := 61) (by decide +kernel) ?_
      refine x_retV (np := 62) (x := 0) (by decide +kernel) (by decide +kernel) ⟨rfl, ?_⟩
      exact ⟨j54, f58⟩
    have q47 : ¬ (v38 = 2147483648) := q47
    refine x_const (np := 15) (x := 9223372043297226753) (a := 2147483649) (by decide +kernel) (by decide) (by decide) ?_
    refine x_goto (np := 18) (x := 19) (by decide +kernel) ?_
    refine x_retI (np := 20) (x := 0) (by decide +kernel) (by decide) (Or.inr ⟨by decide +kernel, by first | decide | omega, by first | decide | omega⟩) ⟨_, rfl, (by decide), ?_⟩
    refine x_ifz (k := 1) (tg := 43) (np := 35) (by decide +kernel) (by decide) (by decide) (fun q59 => ?_) (fun q60 => ?_)
    · have q59 : 2147483649 ≠ 2147483648 := q59
      refine x_iload (np := 44) (x := 1) (by decide +kernel) rfl (by decide) ?_
      refine x_aload (np := 45) (x := 0) (by decide +kernel) rfl (x_nc_le (by decide)) ?_
      refine x_getC (np := 48) (x := 784) (f := 16) (q := (h41 63 16)) (by decide +kernel) (by decide) (by decide +kernel) rfl (fun l61 => ?_)
      refine x_icmp (k := 3) (tg := 61) (np := 51) (by decide +kernel) (by decide) (by decide) l61 (fun q62 => ?_) (fun q63 => ?_)
      · have q62 : (h41 63 16) ≤ 2147483648 := q62
        refine x_retV (np := 62) (x := 0) (by decide +kernel) (by decide +kernel) ⟨rfl, ?_⟩
        exact ⟨j42, f45⟩
      have q63 : ¬ ((h41 63 16) ≤ 2147483648) := q63
      refine x_iload (np := 52) (x := 1) (by decide +kernel) rfl (by decide) ?_
      refine x_const (np := 53) (x := 9223372060477095941) (a := 2147483653) (by decide +kernel) (by decide) (by decide) ?_
      refine x_icmp (k := 3) (tg := 61) (np := 56) (by decide +kernel) (by decide) (by decide) (by decide) (fun q64 => ?_) (fun q65 => ?_)
      · have q64 : 2147483653 ≤ 2147483648 := q64
        exfalso; omega
      have q65 : ¬ (2147483653 ≤ 2147483648) := q65
      refine x_aload (np := 57) (x := 0) (by decide +kernel) rfl (x_nc_le (by decide)) ?_
      refine x_iload (np := 58) (x := 1) (by decide +kernel) rfl (by decide) ?_
      refine x_cV (t := 8) (mj := 275) (n := 2) (rc := 13) (ml := 8) (nr := 0) (np := 61) (as := [x_r 63, iv_c 2147483648]) (rest := []) (lo1 := [x_r 63, iv_c 2147483648, 147573952589676412928, 147573952589676412928, 147573952589676412928, 147573952589676412928, 147573952589676412928, 147573952589676412928]) (by decide +kernel) (by decide) (by decide +kernel) (x_rb_of (by decide +kernel)) rfl rfl (x_wr (by decide) (x_wi (by decide) x_wn)) x_wn (by decide) rfl (c275_63_c0 j42  ) (fun h69 q68 => ?_)
      obtain ⟨j70, f71⟩ := q68
      have f74 := Fr.trans f45 f71 (by decide)
      refine x_retV (np := 62) (x := 0) (by decide +kernel) (by decide +kernel) ⟨rfl, ?_⟩
      exact ⟨j70, f74⟩
    have q60 : ¬ (2147483649 ≠ 2147483648) := q60
    exfalso; omega
  have q11 : ¬ (v2 ≤ 2147503648) := q11
  refine x_aload (np := 21) (x := 0) (by decide +kernel) rfl (x_nc_le (by decide)) ?_
  refine x_const (np := 22) (x := 9223372043297226753) (a := 2147483649) (by decide +kernel) (by decide) (by decide) ?_
  refine x_putI (np := 25) (x := 4873) (f := 9) (by decide +kernel) (by decide +kernel) (by decide) (Or.inr ⟨by decide, by first | decide | omega, by first | decide | omega⟩) ?_
  have j76 := jU (e := 9) (v := 2147483649) 0 j5 rg_63_9_0_1 (by first | decide | omega) (by first | decide | omega) (by first | decide | omega)
  have f78 := jF (e := 9) (v := 2147483649) 0 f7 rg_63_9_0_1 (by first | decide | omega) (by first | decide | omega) (by decide)
  generalize e77 : x_up h4 63 9 2147483649 = h75 at j76 f78 ⊢
  refine x_goto (np := 28) (x := 61) (by decide +kernel) ?_
  refine x_retV (np := 62) (x := 0) (by decide +kernel) (by decide +kernel) ⟨rfl, ?_⟩
  exact ⟨j76, f78⟩
set_option maxHeartbeats 0 in
/-- LentNames$Search.ask(I)V -/
theorem c271_63 {sc : Nat × Nat} {d a1 : Nat} {h : xh} (hJ : J h) (ba1 : 2147483648 ≤ a1 ∧ a1 ≤ 2147483660) : X sc 271 (d + 24) (xV fun h' => J h' ∧ Fr 32769 h h') 0 0 0 [x_r 63, iv_c a1, 147573952589676412928] [] h := by
  have la1 : a1 < 4294967296 := by first | decide | omega
  have hF := Fr.refl 32769 h
  refine x_aload (np := 1) (x := 0) (by decide +kernel) rfl (x_nc_le (by decide)) ?_
  have b1 := jB (e := 14) 0 hJ rg_63_14_0_1 (by first | decide | omega) (by first | decide | omega)
  refine x_getC (np := 4) (x := 782) (f := 14) (q := (h 63 14)) (by decide +kernel) (by decide) (by decide +kernel) rfl (fun l2 => ?_)
  refine x_ifz (k := 0) (tg := 16) (np := 7) (by decide +kernel) (by decide) l2 (fun q3 => ?_) (fun q4 => ?_)
  · have q3 : (h 63 14) = 2147483648 := q3
    refine x_aload (np := 17) (x := 0) (by decide +kernel) rfl (x_nc_le (by decide)) ?_
    refine x_aload (np := 18) (x := 0) (by decide +kernel) rfl (x_nc_le (by decide)) ?_
    have q5 : h 63 5 = 45 := by have z := jB (e := 5) 0 hJ rg_63_5_0_1 (by decide) (by decide); omega
    refine x_getR (np := 21) (x := 773) (f := 5) (q := 45) (by decide +kernel) (by decide) (by decide +kernel) q5 ?_
    have t6 : tw (h 45 5) := hJ.2.2.2.1
    refine x_getR (np := 24) (x := 69) (f := 5) (q := (h 45 5)) (by decide +kernel) (by decide) (by decide +kernel) rfl ?_
    refine x_putR (np := 27) (x := 8966) (f := 6) (by decide +kernel) (by decide +kernel) (tn_0 t6) (by decide) ?_
    have j8 := J_upW (k := 63) (i := 6) hJ t6 (by decide)
    have f10 := Fr.up (k := 63) (i := 6) (v := (h 45 5)) hF (by decide +kernel)
    generalize e9 : x_up h 63 6 (h 45 5) = h7 at j8 f10 ⊢
    refine x_aload (np := 28) (x := 0) (by decide +kernel) rfl (x_nc_le (by decide)) ?_
    refine x_iload (np := 29) (x := 1) (by decide +kernel) rfl la1 ?_
    refine x_putI (np := 32) (x := 775) (f := 7) (by decide +kernel) (by decide +kernel) la1 (Or.inl (by decide)) ?_
    have j12 := jU (e := 7) (v := a1) 0 j8 rg_63_7_0_1 (by first | decide | omega) (by first | decide | omega) (by first | decide | omega)
    have f14 := jF (e := 7) (v := a1) 0 f10 rg_63_7_0_1 (by first | decide | omega) (by first | decide | omega) (by decide)
    generalize e13 : x_up h7 63 7 a1 = h11 at j12 f14 ⊢
    refine x_aload (np := 33) (x := 0) (by decide +kernel) rfl (x_nc_le (by decide)) ?_
    have q15 : h11 63 5 = 45 := by have z := jB (e := 5) 0 j12 rg_63_5_0_1 (by decide) (by decide); omega
    refine x_getR (np := 36) (x := 773) (f := 5) (q := 45) (by decide +kernel) (by decide) (by decide +kernel) q15 ?_
    have q16 : h11 45 1 = 47 := by have z := jB (e := 1) 0 j12 rg_45_1_0_1 (by decide) (by decide); omega
    refine x_getR (np := 39) (x := 65) (f := 1) (q := 47) (by decide +kernel) (by decide) (by decide +kernel) q16 ?_
    refine x_const (np := 40) (x := 9223372039002259456) (a := 2147483648) (by decide +kernel) (by decide) (by decide) ?_
    refine x_aload (np := 41) (x := 0) (by decide +kernel) rfl (x_nc_le (by decide)) ?_
    have q17 : h11 63 0 = 64 := by have z := jB (e := 0) 0 j12 rg_63_0_0_1 (by decide) (by decide); omega
    refine x_getR (np := 44) (x := 768) (f := 0) (q := 64) (by decide +kernel) (by decide) (by decide +kernel) q17 ?_
    refine x_const (np := 45) (x := 9223372039002259456) (a := 2147483648) (by decide +kernel) (by decide) (by decide) ?_
    refine x_aload (np := 46) (x := 0) (by decide +kernel) rfl (x_nc_le (by decide)) ?_
    have q18 : h11 63 0 = 64 := by have z := jB (e := 0) 0 j12 rg_63_0_0_1 (by decide) (by decide); omega
    refine x_getR (np := 49) (x := 768) (f := 0) (q := 64) (by decide +kernel) (by decide) (by decide +kernel) q18 ?_
    refine x_alen (np := 50) (x := 0) (n := 36) (by decide +kernel) (by decide) (by decide +kernel) (by decide +kernel) (by decide) ?_
    show X _ _ _ _ _ _ _ _ [iv_c 2147483684, iv_c 2147483648, x_r 64, iv_c 2147483648, x_r 47] _
    refine x_copy (np := 53) (q := 64) (r := 47) (N := 36) (nq := 36) (nr := 36) (n8 := 0) (by decide +kernel) (by decide +kernel) (by decide +kernel) (by decide) (by decide) (by decide) (by decide) x_wn (by decide) ?_
    have j20 := J_cp (q := 64) (r := 47) (N := 36) j12 (by decide) (by decide +kernel) (by decide +kernel) (by decide +kernel)
    have f21 := Fr_cp (q := 64) (r := 47) (N := 36) (Fr.refl 32768 h11) (fun i _ => show Nat.testBit 32768 15 = true by decide)
    generalize e22 : x_cp h11 64 47 36 = h19 at j20 f21 ⊢
    have f23 := Fr.trans f14 f21 (by decide)
    refine x_const (np := 54) (x := 9223372039002259456) (a := 2147483648) (by decide +kernel) (by decide) (by decide) ?_
    refine x_istore (np := 55) (x := 2) (lo' := [x_r 63, iv_c a1, iv_c 2147483648]) (by decide +kernel) (by decide) (Nat.le_of_ble_eq_true rfl) rfl ?_
    have p116 : ∀ (n : Nat) (v111 : Nat) (h113 : xh), 4294967296 - v111 < n → (2147483648 ≤ v111 ∧ v111 ≤ 2147483654) → J h113 → Fr 32768 h19 h113 → X sc 271 (d + 24) (xV fun h' => J h' ∧ Fr 32769 h h') 0 0 55 [x_r 63, iv_c a1, iv_c v111] [] h113 := by
      intro n
      induction n with
      | zero => intro v111 h113 q117; exact absurd q117 (Nat.not_lt_zero _)
      | succ n i118 =>
        intro v111 h113 q117 b112 j115 f114
        have f119 := Fr.trans f23 f114 (by decide)
        refine x_iload (np := 56) (x := 2) (by decide +kernel) rfl (by first | decide | omega) ?_
        refine x_const (np := 58) (x := 9223372064772063238) (a := 2147483654) (by decide +kernel) (by decide) (by decide) ?_
        refine x_icmp (k := 3) (tg := 74) (np := 61) (by decide +kernel) (by decide) (by first | decide | omega) (by decide) (fun q120 => ?_) (fun q121 => ?_)
        · have q120 : 2147483654 ≤ v111 := q120
          refine x_aload (np := 75) (x := 0) (by decide +kernel) rfl (x_nc_le (by decide)) ?_
          refine x_const (np := 76) (x := 9223372039002259456) (a := 2147483648) (by decide +kernel) (by decide) (by decide) ?_
          refine x_putI (np := 79) (x := 776) (f := 8) (by decide +kernel) (by decide +kernel) (by decide) (Or.inl (by decide)) ?_
          have j123 := jU (e := 8) (v := 2147483648) 0 j115 rg_63_8_0_1 (by first | decide | omega) (by first | decide | omega) (by first | decide | omega)
          have f125 := jF (e := 8) (v := 2147483648) 0 f119 rg_63_8_0_1 (by first | decide | omega) (by first | decide | omega) (by decide)
          generalize e124 : x_up h113 63 8 2147483648 = h122 at j123 f125 ⊢
          refine x_aload (np := 80) (x := 0) (by decide +kernel) rfl (x_nc_le (by decide)) ?_
          refine x_const (np := 81) (x := 9223372039002259456) (a := 2147483648) (by decide +kernel) (by decide) (by decide) ?_
          refine x_putI (np := 84) (x := 783) (f := 15) (by decide +kernel) (by decide +kernel) (by decide) (Or.inl (by decide)) ?_
          have j127 := jU (e := 15) (v := 2147483648) 0 j123 rg_63_15_0_1 (by first | decide | omega) (by first | decide | omega) (by first | decide | omega)
          have f129 := jF (e := 15) (v := 2147483648) 0 f125 rg_63_15_0_1 (by first | decide | omega) (by first | decide | omega) (by decide)
          generalize e128 : x_up h122 63 15 2147483648 = h126 at j127 f129 ⊢
          refine x_aload (np := 85) (x := 0) (by decide +kernel) rfl (x_nc_le (by decide)) ?_
          refine x_const (np := 86) (x := 9223372039002259456) (a := 2147483648) (by decide +kernel) (by decide) (by decide) ?_
          refine x_putI (np := 89) (x := 785) (f := 17) (by decide +kernel) (by decide +kernel) (by decide) (Or.inl (by decide)) ?_
          have j131 := jU (e := 17) (v := 2147483648) 0 j127 rg_63_17_0_1 (by first | decide | omega) (by first | decide | omega) (by first | decide | omega)
          have f133 := jF (e := 17) (v := 2147483648) 0 f129 rg_63_17_0_1 (by first | decide | omega) (by first | decide | omega) (by decide)
          generalize e132 : x_up h126 63 17 2147483648 = h130 at j131 f133 ⊢
          refine x_aload (np := 90) (x := 0) (by decide +kernel) rfl (x_nc_le (by decide)) ?_
          refine x_const (np := 91) (x := 9223372039002259456) (a := 2147483648) (by decide +kernel) (by decide) (by decide) ?_
          refine x_putI (np := 94) (x := 4873) (f := 9) (by decide +kernel) (by decide +kernel) (by decide) (Or.inr ⟨by decide, by first | decide | omega, by first | decide | omega⟩) ?_
          have j135 := jU (e := 9) (v := 2147483648) 0 j131 rg_63_9_0_1 (by first | decide | omega) (by first | decide | omega) (by first | decide | omega)
          have f137 := jF (e := 9) (v := 2147483648) 0 f133 rg_63_9_0_1 (by first | decide | omega) (by first | decide | omega) (by decide)
          generalize e136 : x_up h130 63 9 2147483648 = h134 at j135 f137 ⊢
          refine x_aload (np := 95) (x := 0) (by decide +kernel) rfl (x_nc_le (by decide)) ?_
          refine x_vV (np := 98) (x := 5246978) (kk := 2) (cls := 4) (mj := 55) (ml := 2) (nr := 0) (rest := []) (lo1 := [x_r 63, 147573952589676412928]) (by decide +kernel) (by decide) (by decide) (by decide) (by decide +kernel) (by decide +kernel) (by decide) (by decide +kernel) (by decide +kernel) x_wn (by decide) rfl (c55_63 j135) (fun h141 q140 => ?_)
          obtain ⟨j142, f143⟩ := q140
          have f144 := Fr.trans f137 f143 (by decide)
          refine x_const (np := 99) (x := 9223372039002259456) (a := 2147483648) (by decide +kernel) (by decide) (by decide) ?_
          refine x_istore (np := 100) (x := 2) (lo' := [x_r 63, iv_c a1, iv_c 2147483648]) (by decide +kernel) (by decide) (Nat.le_of_ble_eq_true rfl) rfl ?_
          have p321 : ∀ (n : Nat) (v316 : Nat) (h318 : xh), 4294967296 - v316 < n → (2147483648 ≤ v316 ∧ v316 ≤ 2147483654) → J h318 → Fr 32769 h141 h318 → X sc 271 (d + 24) (xV fun h' => J h' ∧ Fr 32769 h h') 0 0 100 [x_r 63, iv_c a1, iv_c v316] [] h318 := by
            intro n
            induction n with
            | zero => intro v316 h318 q322; exact absurd q322 (Nat.not_lt_zero _)
            | succ n i323 =>
              intro v316 h318 q322 b317 j320 f319
              have f324 := Fr.trans f144 f319 (by decide)
              refine x_iload (np := 101) (x := 2) (by decide +kernel) rfl (by first | decide | omega) ?_
              refine x_aload (np := 102) (x := 0) (by decide +kernel) rfl (x_nc_le (by decide)) ?_
              refine x_vI (P := fun r9 h9 => X sc 271 _ _ 0 0 105 [x_r 63, iv_c a1, iv_c v316] (iv_c r9 :: [iv_c v316]) h9) (np := 105) (x := 5246976) (kk := 0) (cls := 4) (mj := 53) (ml := 1) (nr := 1) (rest := [iv_c v316]) (lo1 := [x_r 63]) (by decide +kernel) (by decide) (by decide) (by decide) (by decide +kernel) (by decide +kernel) (by decide) (by decide +kernel) (by decide +kernel) (x_wi (by first | decide | omega) x_wn) (by decide) rfl ?_ (fun _ _ _ z => z)
              refine x_const (np := 1) (x := 9223372060477095941) (a := 2147483653) (by decide +kernel) (by decide) (by decide) ?_
              refine x_retI (np := 2) (x := 0) (by decide +kernel) (by decide) (Or.inl (by decide +kernel)) ⟨_, rfl, (by decide), ?_⟩
              refine x_icmp (k := 4) (tg := 138) (np := 108) (by decide +kernel) (by decide) (by first | decide | omega) (by decide) (fun q325 => ?_) (fun q326 => ?_)
              · have q325 : 2147483653 < v316 := q325
                refine x_aload (np := 139) (x := 0) (by decide +kernel) rfl (x_nc_le (by decide)) ?_
                refine x_const (np := 140) (x := 9223372043297226753) (a := 2147483649) (by decide +kernel) (by decide) (by decide) ?_
                refine x_putI (np := 143) (x := 4878) (f := 14) (by decide +kernel) (by decide +kernel) (by decide) (Or.inr ⟨by decide, by first | decide | omega, by first | decide | omega⟩) ?_
                have j328 := jU (e := 14) (v := 2147483649) 0 j320 rg_63_14_0_1 (by first | decide | omega) (by first | decide | omega) (by first | decide | omega)
                have f330 := jF (e := 14) (v := 2147483649) 0 f324 rg_63_14_0_1 (by first | decide | omega) (by first | decide | omega) (by decide)
                generalize e329 : x_up h318 63 14 2147483649 = h327 at j328 f330 ⊢
                refine x_retV (np := 144) (x := 0) (by decide +kernel) (by decide +kernel) ⟨rfl, ?_⟩
                exact ⟨j328, f330⟩
              have q326 : ¬ (2147483653 < v316) := q326
              refine x_aload (np := 109) (x := 0) (by decide +kernel) rfl (x_nc_le (by decide)) ?_
              refine x_getC (np := 112) (x := 776) (f := 8) (q := (h318 63 8)) (by decide +kernel) (by decide) (by decide +kernel) rfl (fun l331 => ?_)
              refine x_ifz (k := 1) (tg := 138) (np := 115) (by decide +kernel) (by decide) l331 (fun q332 => ?_) (fun q333 => ?_)
              · have q332 : (h318 63 8) ≠ 2147483648 := q332
                refine x_aload (np := 139) (x := 0) (by decide +kernel) rfl (x_nc_le (by decide)) ?_
                refine x_const (np := 140) (x := 9223372043297226753) (a := 2147483649) (by decide +kernel) (by decide) (by decide) ?_
                refine x_putI (np := 143) (x := 4878) (f := 14) (by decide +kernel) (by decide +kernel) (by decide) (Or.inr ⟨by decide, by first | decide | omega, by first | decide | omega⟩) ?_
                have j335 := jU (e := 14) (v := 2147483649) 0 j320 rg_63_14_0_1 (by first | decide | omega) (by first | decide | omega) (by first | decide | omega)
                have f337 := jF (e := 14) (v := 2147483649) 0 f324 rg_63_14_0_1 (by first | decide | omega) (by first | decide | omega) (by decide)
                generalize e336 : x_up h318 63 14 2147483649 = h334 at j335 f337 ⊢
                refine x_retV (np := 144) (x := 0) (by decide +kernel) (by decide +kernel) ⟨rfl, ?_⟩
                exact ⟨j335, f337⟩
              have q333 : ¬ ((h318 63 8) ≠ 2147483648) := q333
              refine x_aload (np := 116) (x := 0) (by decide +kernel) rfl (x_nc_le (by decide)) ?_
              have b338 := jB (e := 9) 0 j320 rg_63_9_0_1 (by first | decide | omega) (by first | decide | omega)
              refine x_getC (np := 119) (x := 777) (f := 9) (q := (h318 63 9)) (by decide +kernel) (by decide) (by decide +kernel) rfl (fun l339 => ?_)
              refine x_ifz (k := 1) (tg := 138) (np := 122) (by decide +kernel) (by decide) l339 (fun q340 => ?_) (fun q341 => ?_)
              · have q340 : (h318 63 9) ≠ 2147483648 := q340
                refine x_aload (np := 139) (x := 0) (by decide +kernel) rfl (x_nc_le (by decide)) ?_
                refine x_const (np := 140) (x := 9223372043297226753) (a := 2147483649) (by decide +kernel) (by decide) (by decide) ?_
                refine x_putI (np := 143) (x := 4878) (f := 14) (by decide +kernel) (by decide +kernel) (by decide) (Or.inr ⟨by decide, by first | decide | omega, by first | decide | omega⟩) ?_
                have j343 := jU (e := 14) (v := 2147483649) 0 j320 rg_63_14_0_1 (by first | decide | omega) (by first | decide | omega) (by first | decide | omega)
                have f345 := jF (e := 14) (v := 2147483649) 0 f324 rg_63_14_0_1 (by first | decide | omega) (by first | decide | omega) (by decide)
                generalize e344 : x_up h318 63 14 2147483649 = h342 at j343 f345 ⊢
                refine x_retV (np := 144) (x := 0) (by decide +kernel) (by decide +kernel) ⟨rfl, ?_⟩
                exact ⟨j343, f345⟩
              have q341 : ¬ ((h318 63 9) ≠ 2147483648) := q341
              refine x_aload (np := 123) (x := 0) (by decide +kernel) rfl (x_nc_le (by decide)) ?_
              refine x_iload (np := 124) (x := 2) (by decide +kernel) rfl (by first | decide | omega) ?_
              refine x_putI (np := 127) (x := 784) (f := 16) (by decide +kernel) (by decide +kernel) (by first | decide | omega) (Or.inl (by decide)) ?_
              have j347 := jU (e := 16) (v := v316) 0 j320 rg_63_16_0_1 (by first | decide | omega) (by first | decide | omega) (by first | decide | omega)
              have f349 := jF (e := 16) (v := v316) 0 f324 rg_63_16_0_1 (by first | decide | omega) (by first | decide | omega) (by decide)
              have f350 := jF (e := 16) (v := v316) 0 f319 rg_63_16_0_1 (by first | decide | omega) (by first | decide | omega) (by decide)
              generalize e348 : x_up h318 63 16 v316 = h346 at j347 f349 f350 ⊢
              refine x_aload (np := 128) (x := 0) (by decide +kernel) rfl (x_nc_le (by decide)) ?_
              refine x_const (np := 129) (x := 9223372039002259456) (a := 2147483648) (by decide +kernel) (by decide) (by decide) ?_
              refine x_cV (t := 8) (mj := 274) (n := 2) (rc := 13) (ml := 2) (nr := 0) (np := 132) (as := [x_r 63, iv_c 2147483648]) (rest := []) (lo1 := [x_r 63, iv_c 2147483648]) (by decide +kernel) (by decide) (by decide +kernel) (x_rb_of (by decide +kernel)) rfl rfl (x_wr (by decide) (x_wi (by decide) x_wn)) x_wn (by decide) rfl (c274_63_c0 j347  ) (fun h354 q353 => ?_)
              obtain ⟨j355, f356⟩ := q353
              have f359 := Fr.trans f349 f356 (by decide)
              have f360 := Fr.trans f350 f356 (by decide)
              refine x_iinc (np := 135) (i := 2) (j := 2147483649) (v := (1 + v316)) (lo' := [x_r 63, iv_c a1, iv_c (1 + v316)]) (by decide +kernel) (by decide) (by decide) rfl (by first | decide | omega) (by first | decide | omega) (by first | decide | omega) rfl ?_
              refine x_goto (np := 138) (x := 100) (by decide +kernel) ?_
              exact i323 (1 + v316) h354 (by first | decide | omega) (by first | decide | omega) j355 f360
          exact p321 _ 2147483648 h141 (Nat.lt_succ_self _) (by first | decide | omega) j142 (Fr.refl _ _)
        have q121 : ¬ (2147483654 ≤ v111) := q121
        refine x_aload (np := 62) (x := 0) (by decide +kernel) rfl (x_nc_le (by decide)) ?_
        have q361 : h113 63 2 = 66 := by have z := jB (e := 2) 0 j115 rg_63_2_0_1 (by decide) (by decide); omega
        refine x_getR (np := 65) (x := 770) (f := 2) (q := 66) (by decide +kernel) (by decide) (by decide +kernel) q361 ?_
        refine x_iload (np := 66) (x := 2) (by decide +kernel) rfl (by first | decide | omega) ?_
        refine x_const (np := 67) (x := 9223372039002259456) (a := 2147483648) (by decide +kernel) (by decide) (by decide) ?_
        obtain ⟨u362, q363⟩ : ∃ z, v111 = 2147483648 + z := ⟨v111 - 2147483648, by first | decide | omega⟩
        refine x_ast (np := 68) (x := 0) (kd := 1) (n := 6) (i := u362) (by decide +kernel) (Or.inl rfl) (by decide +kernel) (by first | decide | omega) (by first | decide | omega) (by decide) (by decide) (fun z => absurd z (by decide)) ?_
        have j365 := jU (e := u362) (v := 2147483648) u362 j115 rg_66_0_1_6 (by first | decide | omega) (by first | decide | omega) (by first | decide | omega)
        have f367 := jF (e := u362) (v := 2147483648) u362 f119 rg_66_0_1_6 (by first | decide | omega) (by first | decide | omega) (by decide)
        have f368 := jF (e := u362) (v := 2147483648) u362 f114 rg_66_0_1_6 (by first | decide | omega) (by first | decide | omega) (by decide)
        generalize e366 : x_up h113 66 u362 2147483648 = h364 at j365 f367 f368 ⊢
        refine x_iinc (np := 71) (i := 2) (j := 2147483649) (v := (1 + v111)) (lo' := [x_r 63, iv_c a1, iv_c (1 + v111)]) (by decide +kernel) (by decide) (by decide) rfl (by first | decide | omega) (by first | decide | omega) (by first | decide | omega) rfl ?_
        refine x_goto (np := 74) (x := 55) (by decide +kernel) ?_
        exact i118 (1 + v111) h364 (by first | decide | omega) (by first | decide | omega) j365 f368
    exact p116 _ 2147483648 h19 (Nat.lt_succ_self _) (by first | decide | omega) j20 (Fr.refl _ _)
  have q4 : ¬ ((h 63 14) = 2147483648) := q4
  refine x_aload (np := 8) (x := 0) (by decide +kernel) rfl (x_nc_le (by decide)) ?_
  refine x_getC (np := 11) (x := 775) (f := 7) (q := (h 63 7)) (by decide +kernel) (by decide) (by decide +kernel) rfl (fun l369 => ?_)
  refine x_iload (np := 12) (x := 1) (by decide +kernel) rfl la1 ?_
  refine x_icmp (k := 1) (tg := 16) (np := 15) (by decide +kernel) (by decide) l369 la1 (fun q370 => ?_) (fun q371 => ?_)
  · have q370 : (h 63 7) ≠ a1 := q370
    refine x_aload (np := 17) (x := 0) (by decide +kernel) rfl (x_nc_le (by decide)) ?_
    refine x_aload (np := 18) (x := 0) (by decide +kernel) rfl (x_nc_le (by decide)) ?_
    have q372 : h 63 5 = 45 := by have z := jB (e := 5) 0 hJ rg_63_5_0_1 (by decide) (by decide); omega
    refine x_getR (np := 21) (x := 773) (f := 5) (q := 45) (by decide +kernel) (by decide) (by decide +kernel) q372 ?_
    have t373 : tw (h 45 5) := hJ.2.2.2.1
    refine x_getR (np := 24) (x := 69) (f := 5) (q := (h 45 5)) (by decide +kernel) (by decide) (by decide +kernel) rfl ?_
    refine x_putR (np := 27) (x := 8966) (f := 6) (by decide +kernel) (by decide +kernel) (tn_0 t373) (by decide) ?_
    have j375 := J_upW (k := 63) (i := 6) hJ t373 (by decide)
    have f377 := Fr.up (k := 63) (i := 6) (v := (h 45 5)) hF (by decide +kernel)
    generalize e376 : x_up h 63 6 (h 45 5) = h374 at j375 f377 ⊢
    refine x_aload (np := 28) (x := 0) (by decide +kernel) rfl (x_nc_le (by decide)) ?_
    refine x_iload (np := 29) (x := 1) (by decide +kernel) rfl la1 ?_
    refine x_putI (np := 32) (x := 775) (f := 7) (by decide +kernel) (by decide +kernel) la1 (Or.inl (by decide)) ?_
    have j379 := jU (e := 7) (v := a1) 0 j375 rg_63_7_0_1 (by first | decide | omega) (by first | decide | omega) (by first | decide | omega)
    have f381 := jF (e := 7) (v := a1) 0 f377 rg_63_7_0_1 (by first | decide | omega) (by first | decide | omega) (by decide)
    generalize e380 : x_up h374 63 7 a1 = h378 at j379 f381 ⊢
    refine x_aload (np := 33) (x := 0) (by decide +kernel) rfl (x_nc_le (by decide)) ?_
    have q382 : h378 63 5 = 45 := by have z := jB (e := 5) 0 j379 rg_63_5_0_1 (by decide) (by decide); omega
    refine x_getR (np := 36) (x := 773) (f := 5) (q := 45) (by decide +kernel) (by decide) (by decide +kernel) q382 ?_
    have q383 : h378 45 1 = 47 := by have z := jB (e := 1) 0 j379 rg_45_1_0_1 (by decide) (by decide); omega
    refine x_getR (np := 39) (x := 65) (f := 1) (q := 47) (by decide +kernel) (by decide) (by decide +kernel) q383 ?_
    refine x_const (np := 40) (x := 9223372039002259456) (a := 2147483648) (by decide +kernel) (by decide) (by decide) ?_
    refine x_aload (np := 41) (x := 0) (by decide +kernel) rfl (x_nc_le (by decide)) ?_
    have q384 : h378 63 0 = 64 := by have z := jB (e := 0) 0 j379 rg_63_0_0_1 (by decide) (by decide); omega
    refine x_getR (np := 44) (x := 768) (f := 0) (q := 64) (by decide +kernel) (by decide) (by decide +kernel) q384 ?_
    refine x_const (np := 45) (x := 9223372039002259456) (a := 2147483648) (by decide +kernel) (by decide) (by decide) ?_
    refine x_aload (np := 46) (x := 0) (by decide +kernel) rfl (x_nc_le (by decide)) ?_
    have q385 : h378 63 0 = 64 := by have z := jB (e := 0) 0 j379 rg_63_0_0_1 (by decide) (by decide); omega
    refine x_getR (np := 49) (x := 768) (f := 0) (q := 64) (by decide +kernel) (by decide) (by decide +kernel) q385 ?_
    refine x_alen (np := 50) (x := 0) (n := 36) (by decide +kernel) (by decide) (by decide +kernel) (by decide +kernel) (by decide) ?_
    show X _ _ _ _ _ _ _ _ [iv_c 2147483684, iv_c 2147483648, x_r 64, iv_c 2147483648, x_r 47] _
    refine x_copy (np := 53) (q := 64) (r := 47) (N := 36) (nq := 36) (nr := 36) (n8 := 0) (by decide +kernel) (by decide +kernel) (by decide +kernel) (by decide) (by decide) (by decide) (by decide) x_wn (by decide) ?_
    have j387 := J_cp (q := 64) (r := 47) (N := 36) j379 (by decide) (by decide +kernel) (by decide +kernel) (by decide +kernel)
    have f388 := Fr_cp (q := 64) (r := 47) (N := 36) (Fr.refl 32768 h378) (fun i _ => show Nat.testBit 32768 15 = true by decide)
    generalize e389 : x_cp h378 64 47 36 = h386 at j387 f388 ⊢
    have f390 := Fr.trans f381 f388 (by decide)
    refine x_const (np := 54) (x := 9223372039002259456) (a := 2147483648) (by decide +kernel) (by decide) (by decide) ?_
    refine x_istore (np := 55) (x := 2) (lo' := [x_r 63, iv_c a1, iv_c 2147483648]) (by decide +kernel) (by decide) (Nat.le_of_ble_eq_true rfl) rfl ?_
    have p483 : ∀ (n : Nat) (v478 : Nat) (h480 : xh), 4294967296 - v478 < n → (2147483648 ≤ v478 ∧ v478 ≤ 2147483654) → J h480 → Fr 32768 h386 h480 → X sc 271 (d + 24) (xV fun h' => J h' ∧ Fr 32769 h h') 0 0 55 [x_r 63, iv_c a1, iv_c v478] [] h480 := by
      intro n
      induction n with
      | zero => intro v478 h480 q484; exact absurd q484 (Nat.not_lt_zero _)
      | succ n i485 =>
        intro v478 h480 q484 b479 j482 f481
        have f486 := Fr.trans f390 f481 (by decide)
        refine x_iload (np := 56) (x := 2) (by decide +kernel) rfl (by first | decide | omega) ?_
        refine x_const (np := 58) (x := 9223372064772063238) (a := 2147483654) (by decide +kernel) (by decide) (by decide) ?_
        refine x_icmp (k := 3) (tg := 74) (np := 61) (by decide +kernel) (by decide) (by first | decide | omega) (by decide) (fun q487 => ?_) (fun q488 => ?_)
        · have q487 : 2147483654 ≤ v478 := q487
          refine x_aload (np := 75) (x := 0) (by decide +kernel) rfl (x_nc_le (by decide)) ?_
          refine x_const (np := 76) (x := 9223372039002259456) (a := 2147483648) (by decide +kernel) (by decide) (by decide) ?_
          refine x_putI (np := 79) (x := 776) (f := 8) (by decide +kernel) (by decide +kernel) (by decide) (Or.inl (by decide)) ?_
          have j490 := jU (e := 8) (v := 2147483648) 0 j482 rg_63_8_0_1 (by first | decide | omega) (by first | decide | omega) (by first | decide | omega)
          have f492 := jF (e := 8) (v := 2147483648) 0 f486 rg_63_8_0_1 (by first | decide | omega) (by first | decide | omega) (by decide)
          generalize e491 : x_up h480 63 8 2147483648 = h489 at j490 f492 ⊢
          refine x_aload (np := 80) (x := 0) (by decide +kernel) rfl (x_nc_le (by decide)) ?_
          refine x_const (np := 81) (x := 9223372039002259456) (a := 2147483648) (by decide +kernel) (by decide) (by decide) ?_
          refine x_putI (np := 84) (x := 783) (f := 15) (by decide +kernel) (by decide +kernel) (by decide) (Or.inl (by decide)) ?_
          have j494 := jU (e := 15) (v := 2147483648) 0 j490 rg_63_15_0_1 (by first | decide | omega) (by first | decide | omega) (by first | decide | omega)
          have f496 := jF (e := 15) (v := 2147483648) 0 f492 rg_63_15_0_1 (by first | decide | omega) (by first | decide | omega) (by decide)
          generalize e495 : x_up h489 63 15 2147483648 = h493 at j494 f496 ⊢
          refine x_aload (np := 85) (x := 0) (by decide +kernel) rfl (x_nc_le (by decide)) ?_
          refine x_const (np := 86) (x := 9223372039002259456) (a := 2147483648) (by decide +kernel) (by decide) (by decide) ?_
          refine x_putI (np := 89) (x := 785) (f := 17) (by decide +kernel) (by decide +kernel) (by decide) (Or.inl (by decide)) ?_
          have j498 := jU (e := 17) (v := 2147483648) 0 j494 rg_63_17_0_1 (by first | decide | omega) (by first | decide | omega) (by first | decide | omega)
          have f500 := jF (e := 17) (v := 2147483648) 0 f496 rg_63_17_0_1 (by first | decide | omega) (by first | decide | omega) (by decide)
          generalize e499 : x_up h493 63 17 2147483648 = h497 at j498 f500 ⊢
          refine x_aload (np := 90) (x := 0) (by decide +kernel) rfl (x_nc_le (by decide)) ?_
          refine x_const (np := 91) (x := 9223372039002259456) (a := 2147483648) (by decide +kernel) (by decide) (by decide) ?_
          refine x_putI (np := 94) (x := 4873) (f := 9) (by decide +kernel) (by decide +kernel) (by decide) (Or.inr ⟨by decide, by first | decide | omega, by first | decide | omega⟩) ?_
          have j502 := jU (e := 9) (v := 2147483648) 0 j498 rg_63_9_0_1 (by first | decide | omega) (by first | decide | omega) (by first | decide | omega)
          have f504 := jF (e := 9) (v := 2147483648) 0 f500 rg_63_9_0_1 (by first | decide | omega) (by first | decide | omega) (by decide)
          generalize e503 : x_up h497 63 9 2147483648 = h501 at j502 f504 ⊢
          refine x_aload (np := 95) (x := 0) (by decide +kernel) rfl (x_nc_le (by decide)) ?_
          refine x_vV (np := 98) (x := 5246978) (kk := 2) (cls := 4) (mj := 55) (ml := 2) (nr := 0) (rest := []) (lo1 := [x_r 63, 147573952589676412928]) (by decide +kernel) (by decide) (by decide) (by decide) (by decide +kernel) (by decide +kernel) (by decide) (by decide +kernel) (by decide +kernel) x_wn (by decide) rfl (c55_63 j502) (fun h508 q507 => ?_)
          obtain ⟨j509, f510⟩ := q507
          have f511 := Fr.trans f504 f510 (by decide)
          refine x_const (np := 99) (x := 9223372039002259456) (a := 2147483648) (by decide +kernel) (by decide) (by decide) ?_
          refine x_istore (np := 100) (x := 2) (lo' := [x_r 63, iv_c a1, iv_c 2147483648]) (by decide +kernel) (by decide) (Nat.le_of_ble_eq_true rfl) rfl ?_
          have p688 : ∀ (n : Nat) (v683 : Nat) (h685 : xh), 4294967296 - v683 < n → (2147483648 ≤ v683 ∧ v683 ≤ 2147483654) → J h685 → Fr 32769 h508 h685 → X sc 271 (d + 24) (xV fun h' => J h' ∧ Fr 32769 h h') 0 0 100 [x_r 63, iv_c a1, iv_c v683] [] h685 := by
            intro n
            induction n with
            | zero => intro v683 h685 q689; exact absurd q689 (Nat.not_lt_zero _)
            | succ n i690 =>
              intro v683 h685 q689 b684 j687 f686
              have f691 := Fr.trans f511 f686 (by decide)
              refine x_iload (np := 101) (x := 2) (by decide +kernel) rfl (by first | decide | omega) ?_
              refine x_aload (np := 102) (x := 0) (by decide +kernel) rfl (x_nc_le (by decide)) ?_
              refine x_vI (P := fun r9 h9 => X sc 271 _ _ 0 0 105 [x_r 63, iv_c a1, iv_c v683] (iv_c r9 :: [iv_c v683]) h9) (np := 105) (x := 5246976) (kk := 0) (cls := 4) (mj := 53) (ml := 1) (nr := 1) (rest := [iv_c v683]) (lo1 := [x_r 63]) (by decide +kernel) (by decide) (by decide) (by decide) (by decide +kernel) (by decide +kernel) (by decide) (by decide +kernel) (by decide +kernel) (x_wi (by first | decide | omega) x_wn) (by decide) rfl ?_ (fun _ _ _ z => z)
              refine x_const (np := 1) (x := 9223372060477095941) (a := 2147483653) (by decide +kernel) (by decide) (by decide) ?_
              refine x_retI (np := 2) (x := 0) (by decide +kernel) (by decide) (Or.inl (by decide +kernel)) ⟨_, rfl, (by decide), ?_⟩
              refine x_icmp (k := 4) (tg := 138) (np := 108) (by decide +kernel) (by decide) (by first | decide | omega) (by decide) (fun q692 => ?_) (fun q693 => ?_)
              · have q692 : 2147483653 < v683 := q692
                refine x_aload (np := 139) (x := 0) (by decide +kernel) rfl (x_nc_le (by decide)) ?_
                refine x_const (np := 140) (x := 9223372043297226753) (a := 2147483649) (by decide +kernel) (by decide) (by decide) ?_
                refine x_putI (np := 143) (x := 4878) (f := 14) (by decide +kernel) (by decide +kernel) (by decide) (Or.inr ⟨by decide, by first | decide | omega, by first | decide | omega⟩) ?_
                have j695 := jU (e := 14) (v := 2147483649) 0 j687 rg_63_14_0_1 (by first | decide | omega) (by first | decide | omega) (by first | decide | omega)
                have f697 := jF (e := 14) (v := 2147483649) 0 f691 rg_63_14_0_1 (by first | decide | omega) (by first | decide | omega) (by decide)
                generalize e696 : x_up h685 63 14 2147483649 = h694 at j695 f697 ⊢
                refine x_retV (np := 144) (x := 0) (by decide +kernel) (by decide +kernel) ⟨rfl, ?_⟩
                exact ⟨j695, f697⟩
              have q693 : ¬ (2147483653 < v683) := q693
              refine x_aload (np := 109) (x := 0) (by decide +kernel) rfl (x_nc_le (by decide)) ?_
              refine x_getC (np := 112) (x := 776) (f := 8) (q := (h685 63 8)) (by decide +kernel) (by decide) (by decide +kernel) rfl (fun l698 => ?_)
              refine x_ifz (k := 1) (tg := 138) (np := 115) (by decide +kernel) (by decide) l698 (fun q699 => ?_) (fun q700 => ?_)
              · have q699 : (h685 63 8) ≠ 2147483648 := q699
                refine x_aload (np := 139) (x := 0) (by decide +kernel) rfl (x_nc_le (by decide)) ?_
                refine x_const (np := 140) (x := 9223372043297226753) (a := 2147483649) (by decide +kernel) (by decide) (by decide) ?_
                refine x_putI (np := 143) (x := 4878) (f := 14) (by decide +kernel) (by decide +kernel) (by decide) (Or.inr ⟨by decide, by first | decide | omega, by first | decide | omega⟩) ?_
                have j702 := jU (e := 14) (v := 2147483649) 0 j687 rg_63_14_0_1 (by first | decide | omega) (by first | decide | omega) (by first | decide | omega)
                have f704 := jF (e := 14) (v := 2147483649) 0 f691 rg_63_14_0_1 (by first | decide | omega) (by first | decide | omega) (by decide)
                generalize e703 : x_up h685 63 14 2147483649 = h701 at j702 f704 ⊢
                refine x_retV (np := 144) (x := 0) (by decide +kernel) (by decide +kernel) ⟨rfl, ?_⟩
                exact ⟨j702, f704⟩
              have q700 : ¬ ((h685 63 8) ≠ 2147483648) := q700
              refine x_aload (np := 116) (x := 0) (by decide +kernel) rfl (x_nc_le (by decide)) ?_
              have b705 := jB (e := 9) 0 j687 rg_63_9_0_1 (by first | decide | omega) (by first | decide | omega)
              refine x_getC (np := 119) (x := 777) (f := 9) (q := (h685 63 9)) (by decide +kernel) (by decide) (by decide +kernel) rfl (fun l706 => ?_)
              refine x_ifz (k := 1) (tg := 138) (np := 122) (by decide +kernel) (by decide) l706 (fun q707 => ?_) (fun q708 => ?_)
              · have q707 : (h685 63 9) ≠ 2147483648 := q707
                refine x_aload (np := 139) (x := 0) (by decide +kernel) rfl (x_nc_le (by decide)) ?_
                refine x_const (np := 140) (x := 9223372043297226753) (a := 2147483649) (by decide +kernel) (by decide) (by decide) ?_
                refine x_putI (np := 143) (x := 4878) (f := 14) (by decide +kernel) (by decide +kernel) (by decide) (Or.inr ⟨by decide, by first | decide | omega, by first | decide | omega⟩) ?_
                have j710 := jU (e := 14) (v := 2147483649) 0 j687 rg_63_14_0_1 (by first | decide | omega) (by first | decide | omega) (by first | decide | omega)
                have f712 := jF (e := 14) (v := 2147483649) 0 f691 rg_63_14_0_1 (by first | decide | omega) (by first | decide | omega) (by decide)
                generalize e711 : x_up h685 63 14 2147483649 = h709 at j710 f712 ⊢
                refine x_retV (np := 144) (x := 0) (by decide +kernel) (by decide +kernel) ⟨rfl, ?_⟩
                exact ⟨j710, f712⟩
              have q708 : ¬ ((h685 63 9) ≠ 2147483648) := q708
              refine x_aload (np := 123) (x := 0) (by decide +kernel) rfl (x_nc_le (by decide)) ?_
              refine x_iload (np := 124) (x := 2) (by decide +kernel) rfl (by first | decide | omega) ?_
              refine x_putI (np := 127) (x := 784) (f := 16) (by decide +kernel) (by decide +kernel) (by first | decide | omega) (Or.inl (by decide)) ?_
              have j714 := jU (e := 16) (v := v683) 0 j687 rg_63_16_0_1 (by first | decide | omega) (by first | decide | omega) (by first | decide | omega)
              have f716 := jF (e := 16) (v := v683) 0 f691 rg_63_16_0_1 (by first | decide | omega) (by first | decide | omega) (by decide)
              have f717 := jF (e := 16) (v := v683) 0 f686 rg_63_16_0_1 (by first | decide | omega) (by first | decide | omega) (by decide)
              generalize e715 : x_up h685 63 16 v683 = h713 at j714 f716 f717 ⊢
              refine x_aload (np := 128) (x := 0) (by decide +kernel) rfl (x_nc_le (by decide)) ?_
              refine x_const (np := 129) (x := 9223372039002259456) (a := 2147483648) (by decide +kernel) (by decide) (by decide) ?_
              refine x_cV (t := 8) (mj := 274) (n := 2) (rc := 13) (ml := 2) (nr := 0) (np := 132) (as := [x_r 63, iv_c 2147483648]) (rest := []) (lo1 := [x_r 63, iv_c 2147483648]) (by decide +kernel) (by decide) (by decide +kernel) (x_rb_of (by decide +kernel)) rfl rfl (x_wr (by decide) (x_wi (by decide) x_wn)) x_wn (by decide) rfl (c274_63_c0 j714  ) (fun h721 q720 => ?_)
              obtain ⟨j722, f723⟩ := q720
              have f726 := Fr.trans f716 f723 (by decide)
              have f727 := Fr.trans f717 f723 (by decide)
              refine x_iinc (np := 135) (i := 2) (j := 2147483649) (v := (1 + v683)) (lo' := [x_r 63, iv_c a1, iv_c (1 + v683)]) (by decide +kernel) (by decide) (by decide) rfl (by first | decide | omega) (by first | decide | omega) (by first | decide | omega) rfl ?_
              refine x_goto (np := 138) (x := 100) (by decide +kernel) ?_
              exact i690 (1 + v683) h721 (by first | decide | omega) (by first | decide | omega) j722 f727
          exact p688 _ 2147483648 h508 (Nat.lt_succ_self _) (by first | decide | omega) j509 (Fr.refl _ _)
        have q488 : ¬ (2147483654 ≤ v478) := q488
        refine x_aload (np := 62) (x := 0) (by decide +kernel) rfl (x_nc_le (by decide)) ?_
        have q728 : h480 63 2 = 66 := by have z := jB (e := 2) 0 j482 rg_63_2_0_1 (by decide) (by decide); omega
        refine x_getR (np := 65) (x := 770) (f := 2) (q := 66) (by decide +kernel) (by decide) (by decide +kernel) q728 ?_
        refine x_iload (np := 66) (x := 2) (by decide +kernel) rfl (by first | decide | omega) ?_
        refine x_const (np := 67) (x := 9223372039002259456) (a := 2147483648) (by decide +kernel) (by decide) (by decide) ?_
        obtain ⟨u729, q730⟩ : ∃ z, v478 = 2147483648 + z := ⟨v478 - 2147483648, by first | decide | omega⟩
        refine x_ast (np := 68) (x := 0) (kd := 1) (n := 6) (i := u729) (by decide +kernel) (Or.inl rfl) (by decide +kernel) (by first | decide | omega) (by first | decide | omega) (by decide) (by decide) (fun z => absurd z (by decide)) ?_
        have j732 := jU (e := u729) (v := 2147483648) u729 j482 rg_66_0_1_6 (by first | decide | omega) (by first | decide | omega) (by first | decide | omega)
        have f734 := jF (e := u729) (v := 2147483648) u729 f486 rg_66_0_1_6 (by first | decide | omega) (by first | decide | omega) (by decide)
        have f735 := jF (e := u729) (v := 2147483648) u729 f481 rg_66_0_1_6 (by first | decide | omega) (by first | decide | omega) (by decide)
        generalize e733 : x_up h480 66 u729 2147483648 = h731 at j732 f734 f735 ⊢
        refine x_iinc (np := 71) (i := 2) (j := 2147483649) (v := (1 + v478)) (lo' := [x_r 63, iv_c a1, iv_c (1 + v478)]) (by decide +kernel) (by decide) (by decide) rfl (by first | decide | omega) (by first | decide | omega) (by first | decide | omega) rfl ?_
        refine x_goto (np := 74) (x := 55) (by decide +kernel) ?_
        exact i485 (1 + v478) h731 (by first | decide | omega) (by first | decide | omega) j732 f735
    exact p483 _ 2147483648 h386 (Nat.lt_succ_self _) (by first | decide | omega) j387 (Fr.refl _ _)
  have q371 : ¬ ((h 63 7) ≠ a1) := q371
  refine x_retV (np := 16) (x := 0) (by decide +kernel) (by decide +kernel) ⟨rfl, ?_⟩
  exact ⟨hJ, hF⟩
set_option maxHeartbeats 0 in
/-- LentNames.plan(II)I -/
theorem c127_0 {sc : Nat × Nat} {d a1 a2 : Nat} {h : xh} (hJ : J h) (ba1 : 0 ≤ a1 ∧ a1 ≤ 4294967295) (ba2 : 0 ≤ a2 ∧ a2 ≤ 4294967295) : X sc 127 (d + 25) (xT (fun r h' => J h' ∧ Fr 32769 h h' ∧ (0 ≤ r ∧ r ≤ 4294967295)) (fun E h' => J h' ∧ Fr 32769 h h' ∧ (E = 0))) 0 0 0 [x_r 0, iv_c a1, iv_c a2] [] h := by
  have la1 : a1 < 4294967296 := by first | decide | omega
  have la2 : a2 < 4294967296 := by first | decide | omega
  have hF := Fr.refl 32769 h
  refine x_iload (np := 1) (x := 1) (by decide +kernel) rfl la1 ?_
  refine x_ifz (k := 2) (tg := 10) (np := 4) (by decide +kernel) (by decide) la1 (fun q1 => ?_) (fun q2 => ?_)
  · have q1 : a1 < 2147483648 := q1
    refine x_thr (np := 13) (x := 0) (by decide +kernel) (by decide +kernel) (Nat.le_trans x_wn (by decide)) (Or.inr ⟨_, rfl, ?_⟩)
    exact ⟨hJ, hF, by decide⟩
  have q2 : ¬ (a1 < 2147483648) := q2
  refine x_iload (np := 5) (x := 1) (by decide +kernel) rfl la1 ?_
  refine x_const (np := 7) (x := 9223372090541867020) (a := 2147483660) (by decide +kernel) (by decide) (by decide) ?_
  refine x_icmp (k := 5) (tg := 20) (np := 10) (by decide +kernel) (by decide) la1 (by decide) (fun q3 => ?_) (fun q4 => ?_)
  · have q3 : a1 ≤ 2147483660 := q3
    refine x_iload (np := 21) (x := 2) (by decide +kernel) rfl la2 ?_
    refine x_const (np := 22) (x := 9223372034707292159) (a := 2147483647) (by decide +kernel) (by decide) (by decide) ?_
    refine x_icmp (k := 3) (tg := 35) (np := 25) (by decide +kernel) (by decide) la2 (by decide) (fun q5 => ?_) (fun q6 => ?_)
    · have q5 : 2147483647 ≤ a2 := q5
      refine x_aload (np := 36) (x := 0) (by decide +kernel) rfl (x_nc_le (by decide)) ?_
      have q7 : h 0 5 = 63 := by have z := jB (e := 5) 0 hJ rg_0_5_0_1 (by decide) (by decide); omega
      refine x_getR (np := 39) (x := 645) (f := 5) (q := 63) (by decide +kernel) (by decide) (by decide +kernel) q7 ?_
      refine x_iload (np := 40) (x := 1) (by decide +kernel) rfl la1 ?_
      refine x_cV (t := 8) (mj := 271) (n := 2) (rc := 5) (ml := 3) (nr := 0) (np := 43) (as := [x_r 63, iv_c a1]) (rest := []) (lo1 := [x_r 63, iv_c a1, 147573952589676412928]) (by decide +kernel) (by decide) (by decide +kernel) (x_rb_of (by decide +kernel)) rfl rfl (x_wr (by decide) (x_wi la1 x_wn)) x_wn (by decide) rfl (c271_63 hJ  (by first | decide | omega)) (fun h11 q10 => ?_)
      obtain ⟨j12, f13⟩ := q10
      have f16 := Fr.trans hF f13 (by decide)
      refine x_aload (np := 44) (x := 0) (by decide +kernel) rfl (x_nc_le (by decide)) ?_
      have q17 : h11 0 5 = 63 := by have z := jB (e := 5) 0 j12 rg_0_5_0_1 (by decide) (by decide); omega
      refine x_getR (np := 47) (x := 645) (f := 5) (q := 63) (by decide +kernel) (by decide) (by decide +kernel) q17 ?_
      have b18 := jB (e := 9) 0 j12 rg_63_9_0_1 (by first | decide | omega) (by first | decide | omega)
      refine x_getC (np := 50) (x := 777) (f := 9) (q := (h11 63 9)) (by decide +kernel) (by decide) (by decide +kernel) rfl (fun l19 => ?_)
      refine x_ifz (k := 0) (tg := 58) (np := 53) (by decide +kernel) (by decide) l19 (fun q20 => ?_) (fun q21 => ?_)
      · have q20 : (h11 63 9) = 2147483648 := q20
        refine x_aload (np := 59) (x := 0) (by decide +kernel) rfl (x_nc_le (by decide)) ?_
        have q22 : h11 0 5 = 63 := by have z := jB (e := 5) 0 j12 rg_0_5_0_1 (by decide) (by decide); omega
        refine x_getR (np := 62) (x := 645) (f := 5) (q := 63) (by decide +kernel) (by decide) (by decide +kernel) q22 ?_
        refine x_iload (np := 63) (x := 2) (by decide +kernel) rfl la2 ?_
        refine x_nI (t := 8) (mj := 272) (n := 2) (rc := 5) (ml := 2) (nr := 0) (np := 66) (as := [x_r 63, iv_c a2]) (rest := []) (lo1 := [x_r 63, iv_c a2]) (by decide +kernel) (by decide) (by decide +kernel) (x_rb_of (by decide +kernel)) rfl rfl (x_wr (by decide) (x_wi la2 x_wn)) x_wn (by decide) rfl ?_
        refine x_aload (np := 1) (x := 0) (by decide +kernel) rfl (x_nc_le (by decide)) ?_
        refine x_getC (np := 4) (x := 776) (f := 8) (q := (h11 63 8)) (by decide +kernel) (by decide) (by decide +kernel) rfl (fun l23 => ?_)
        refine x_ifz (k := 1) (tg := 9) (np := 7) (by decide +kernel) (by decide) l23 (fun q24 => ?_) (fun q25 => ?_)
        · have q24 : (h11 63 8) ≠ 2147483648 := q24
          refine x_iload (np := 10) (x := 1) (by decide +kernel) rfl la2 ?_
          refine x_const (np := 11) (x := 9223372034707292159) (a := 2147483647) (by decide +kernel) (by decide) (by decide) ?_
          refine x_icmp (k := 1) (tg := 19) (np := 14) (by decide +kernel) (by decide) la2 (by decide) (fun q26 => ?_) (fun q27 => ?_)
          · have q26 : a2 ≠ 2147483647 := q26
            refine x_iload (np := 20) (x := 1) (by decide +kernel) rfl la2 ?_
            refine x_ifz (k := 2) (tg := 40) (np := 23) (by decide +kernel) (by decide) la2 (fun q28 => ?_) (fun q29 => ?_)
            · have q28 : a2 < 2147483648 := q28
              exfalso; omega
            have q29 : ¬ (a2 < 2147483648) := q29
            refine x_iload (np := 24) (x := 1) (by decide +kernel) rfl la2 ?_
            refine x_aload (np := 25) (x := 0) (by decide +kernel) rfl (x_nc_le (by decide)) ?_
            have b30 := jB (e := 15) 0 j12 rg_63_15_0_1 (by first | decide | omega) (by first | decide | omega)
            refine x_getC (np := 28) (x := 783) (f := 15) (q := (h11 63 15)) (by decide +kernel) (by decide) (by decide +kernel) rfl (fun l31 => ?_)
            refine x_icmp (k := 3) (tg := 40) (np := 31) (by decide +kernel) (by decide) la2 l31 (fun q32 => ?_) (fun q33 => ?_)
            · have q32 : (h11 63 15) ≤ a2 := q32
              refine x_const (np := 41) (x := 9223372034707292159) (a := 2147483647) (by decide +kernel) (by decide) (by decide) ?_
              refine x_retI (np := 42) (x := 0) (by decide +kernel) (by decide) (Or.inl (by decide +kernel)) ⟨_, rfl, (by decide), ?_⟩
              refine x_retI (np := 67) (x := 0) (by decide +kernel) (by decide) (Or.inl (by decide +kernel)) (Or.inl ⟨_, rfl, (by decide), ?_⟩)
              exact ⟨j12, f16, (by first | decide | omega)⟩
            have q33 : ¬ ((h11 63 15) ≤ a2) := q33
            refine x_aload (np := 32) (x := 0) (by decide +kernel) rfl (x_nc_le (by decide)) ?_
            have q34 : h11 63 4 = 68 := by have z := jB (e := 4) 0 j12 rg_63_4_0_1 (by decide) (by decide); omega
            refine x_getR (np := 35) (x := 772) (f := 4) (q := 68) (by decide +kernel) (by decide) (by decide +kernel) q34 ?_
            refine x_iload (np := 36) (x := 1) (by decide +kernel) rfl la2 ?_
            obtain ⟨u35, q36⟩ : ∃ z, a2 = 2147483648 + z := ⟨a2 - 2147483648, by first | decide | omega⟩
            refine x_aldC (np := 37) (x := 0) (n := 5) (i := u35) (q := (h11 68 u35)) (by decide +kernel) (by decide +kernel) (by first | decide | omega) (by first | decide | omega) (by decide) rfl (fun l37 => ?_)
            refine x_goto (np := 40) (x := 41) (by decide +kernel) ?_
            refine x_retI (np := 42) (x := 0) (by decide +kernel) l37 (Or.inl (by decide +kernel)) ⟨_, rfl, l37, ?_⟩
            refine x_retI (np := 67) (x := 0) (by decide +kernel) l37 (Or.inl (by decide +kernel)) (Or.inl ⟨_, rfl, l37, ?_⟩)
            exact ⟨j12, f16, (by first | decide | omega)⟩
          have q27 : ¬ (a2 ≠ 2147483647) := q27
          refine x_aload (np := 15) (x := 0) (by decide +kernel) rfl (x_nc_le (by decide)) ?_
          have b38 := jB (e := 15) 0 j12 rg_63_15_0_1 (by first | decide | omega) (by first | decide | omega)
          refine x_getC (np := 18) (x := 783) (f := 15) (q := (h11 63 15)) (by decide +kernel) (by decide) (by decide +kernel) rfl (fun l39 => ?_)
          refine x_retI (np := 19) (x := 0) (by decide +kernel) l39 (Or.inl (by decide +kernel)) ⟨_, rfl, l39, ?_⟩
          refine x_retI (np := 67) (x := 0) (by decide +kernel) l39 (Or.inl (by decide +kernel)) (Or.inl ⟨_, rfl, l39, ?_⟩)
          exact ⟨j12, f16, (by first | decide | omega)⟩
        have q25 : ¬ ((h11 63 8) ≠ 2147483648) := q25
        refine x_const (np := 8) (x := 9223372034707292159) (a := 2147483647) (by decide +kernel) (by decide) (by decide) ?_
        refine x_retI (np := 9) (x := 0) (by decide +kernel) (by decide) (Or.inl (by decide +kernel)) ⟨_, rfl, (by decide), ?_⟩
        refine x_retI (np := 67) (x := 0) (by decide +kernel) (by decide) (Or.inl (by decide +kernel)) (Or.inl ⟨_, rfl, (by decide), ?_⟩)
        exact ⟨j12, f16, (by first | decide | omega)⟩
      have q21 : ¬ ((h11 63 9) = 2147483648) := q21
      refine x_const (np := 55) (x := 9223372030412324862) (a := 2147483646) (by decide +kernel) (by decide) (by decide) ?_
      refine x_goto (np := 58) (x := 66) (by decide +kernel) ?_
      refine x_retI (np := 67) (x := 0) (by decide +kernel) (by decide) (Or.inl (by decide +kernel)) (Or.inl ⟨_, rfl, (by decide), ?_⟩)
      exact ⟨j12, f16, (by first | decide | omega)⟩
    have q6 : ¬ (2147483647 ≤ a2) := q6
    refine x_thr (np := 28) (x := 0) (by decide +kernel) (by decide +kernel) (Nat.le_trans x_wn (by decide)) (Or.inr ⟨_, rfl, ?_⟩)
    exact ⟨hJ, hF, by decide⟩
  have q4 : ¬ (a1 ≤ 2147483660) := q4
  refine x_thr (np := 13) (x := 0) (by decide +kernel) (by decide +kernel) (Nat.le_trans x_wn (by decide)) (Or.inr ⟨_, rfl, ?_⟩)
  exact ⟨hJ, hF, by decide⟩
set_option maxHeartbeats 0 in
/-- LentNamesLaw.plan(LLentNames;II[J)I -/
theorem c302_0_97 {sc : Nat × Nat} {d a1 a2 : Nat} {h : xh} (hJ : J h) (ba1 : 0 ≤ a1 ∧ a1 ≤ 4294967295) (ba2 : 0 ≤ a2 ∧ a2 ≤ 4294967295) : X sc 302 (d + 26) (xI fun r h' => J h' ∧ Fr 70368744210433 h h' ∧ (2147483648 ≤ r ∧ r ≤ 2147483649)) 0 0 0 [x_r 0, iv_c a1, iv_c a2, x_r 97, 147573952589676412928] [] h := by
  have la1 : a1 < 4294967296 := by first | decide | omega
  have la2 : a2 < 4294967296 := by first | decide | omega
  have hF := Fr.refl 70368744210433 h
  refine x_aload (np := 1) (x := 3) (by decide +kernel) rfl (x_nc_le (by decide)) ?_
  refine x_const (np := 2) (x := 9223372039002259456) (a := 2147483648) (by decide +kernel) (by decide) (by decide) ?_
  refine x_aload (np := 3) (x := 0) (by decide +kernel) rfl (x_nc_le (by decide)) ?_
  refine x_iload (np := 4) (x := 1) (by decide +kernel) rfl la1 ?_
  refine x_iload (np := 5) (x := 2) (by decide +kernel) rfl la2 ?_
  refine x_cT (t := 6) (mj := 127) (n := 3) (rc := 11) (ml := 3) (cc := 1) (ss := 6) (nr := 2) (np := 8) (as := [x_r 0, iv_c a1, iv_c a2]) (rest := [iv_c 2147483648, x_r 97]) (lo1 := [x_r 0, iv_c a1, iv_c a2]) (by decide +kernel) (by decide) (by decide +kernel) (x_rb_of (by decide +kernel)) rfl rfl (x_wr (by decide) (x_wi la1 (x_wi la2 x_wn))) (x_wi (by decide) (x_wr (by decide) x_wn)) (by decide) rfl (c127_0 hJ  (by first | decide | omega) (by first | decide | omega)) (fun v1 h4 l2 q3 => ?_) (fun E6 h7 q5 => ?_)
  · obtain ⟨j8, f9, b10⟩ := q3
    have f11 := Fr.trans hF f9 (by decide)
    refine x_i2l (np := 9) (x := 0) (by decide +kernel) l2 ?_
    refine x_last (np := 10) (x := 0) (n := 1) (i := 0) (by decide +kernel) (by decide) (by decide +kernel) (by decide +kernel) (by first | decide | omega) (by first | decide | omega) (by decide) l2 ?_
    have j13 := jU (e := 0) (v := v1) 0 j8 rg_97_0_1_1 (by first | decide | omega) (by first | decide | omega) (by first | decide | omega)
    have f15 := jF (e := 0) (v := v1) 0 f11 rg_97_0_1_1 (by first | decide | omega) (by first | decide | omega) (by decide)
    generalize e14 : x_up h4 97 0 v1 = h12 at j13 f15 ⊢
    refine x_goto (np := 13) (x := 17) (by decide +kernel) ?_
    refine x_const (np := 18) (x := 9223372039002259456) (a := 2147483648) (by decide +kernel) (by decide) (by decide) ?_
    refine x_retI (np := 19) (x := 0) (by decide +kernel) (by decide) (Or.inl (by decide +kernel)) ⟨_, rfl, (by decide), ?_⟩
    exact ⟨j13, f15, (by first | decide | omega)⟩
  obtain ⟨j16, f17, e18⟩ := q5
  have f19 := Fr.trans hF f17 (by decide)
  rcases e18 with rfl
  · refine ⟨13, fun _ _ => rfl, ?_⟩
    refine x_astE (np := 15) (x := 4) (lo' := [x_r 0, iv_c a1, iv_c a2, x_r 97, 55340232221128654850]) (by decide +kernel) (Nat.le_of_ble_eq_true rfl) rfl ?_
    refine x_const (np := 16) (x := 9223372043297226753) (a := 2147483649) (by decide +kernel) (by decide) (by decide) ?_
    refine x_retI (np := 17) (x := 0) (by decide +kernel) (by decide) (Or.inl (by decide +kernel)) ⟨_, rfl, (by decide), ?_⟩
    exact ⟨j16, f19, (by first | decide | omega)⟩
set_option maxHeartbeats 0 in
/-- LentNames.can(I)I -/
theorem c135_0 {sc : Nat × Nat} {d a1 : Nat} {h : xh} (hJ : J h) (ba1 : 0 ≤ a1 ∧ a1 ≤ 4294967295) : X sc 135 (d + 1) (xT (fun r h' => J h' ∧ Fr 0 h h' ∧ (0 ≤ r ∧ r ≤ 4294967295)) (fun E h' => J h' ∧ Fr 0 h h' ∧ (E = 2))) 0 0 0 [x_r 0, iv_c a1, 147573952589676412928, 147573952589676412928, 147573952589676412928, 147573952589676412928] [] h := by
  have la1 : a1 < 4294967296 := by first | decide | omega
  have hF := Fr.refl 0 h
  refine x_aload (np := 1) (x := 0) (by decide +kernel) rfl (x_nc_le (by decide)) ?_
  have t1 : tw (h 0 8) := hJ.2.1
  refine x_getR (np := 4) (x := 648) (f := 8) (q := (h 0 8)) (by decide +kernel) (by decide) (by decide +kernel) rfl ?_
  have q2 : h (h 0 8) 3 = ((h 0 8) + 7) := tf_0_3 hJ t1
  refine x_getR (np := 7) (x := 515) (f := 3) (q := ((h 0 8) + 7)) (by decide +kernel) (by decide) (tg_0_515_3_1 t1) q2 ?_
  refine x_iload (np := 8) (x := 1) (by decide +kernel) rfl la1 ?_
  refine x_nU (t := 0) (mj := 147) (n := 2) (rc := 0) (ml := 2) (cc := 1) (ss := 6) (nr := 0) (np := 11) (as := [x_r ((h 0 8) + 7), iv_c a1]) (rest := []) (lo1 := [x_r ((h 0 8) + 7), iv_c a1]) (by decide +kernel) (by decide) (by decide +kernel) (by decide +kernel) (Or.inl rfl) rfl rfl (x_wr (tn_7 t1) (x_wi la1 x_wn)) x_wn (by decide) rfl ?_
  refine x_iload (np := 1) (x := 1) (by decide +kernel) rfl la1 ?_
  refine x_ifz (k := 2) (tg := 12) (np := 4) (by decide +kernel) (by decide) la1 (fun q3 => ?_) (fun q4 => ?_)
  · have q3 : a1 < 2147483648 := q3
    refine x_thr (np := 15) (x := 2) (by decide +kernel) (by decide +kernel) (Nat.le_trans x_wn (by decide)) (Or.inr ⟨_, rfl, ?_⟩)
    refine Or.inr ⟨_, rfl, ?_⟩
    exact ⟨hJ, hF, by decide⟩
  have q4 : ¬ (a1 < 2147483648) := q4
  refine x_iload (np := 5) (x := 1) (by decide +kernel) rfl la1 ?_
  refine x_aload (np := 6) (x := 0) (by decide +kernel) rfl (x_nc_le (tn_7 t1)) ?_
  have b5 := jB (e := 2) 0 hJ (rg_T7_2_0_1 t1) (by first | decide | omega) (by first | decide | omega)
  refine x_getC (np := 9) (x := 386) (f := 2) (q := (h ((h 0 8) + 7) 2)) (by decide +kernel) (by decide) (tg_7_386_2_0 t1) rfl (fun l6 => ?_)
  refine x_icmp (k := 2) (tg := 23) (np := 12) (by decide +kernel) (by decide) la1 l6 (fun q7 => ?_) (fun q8 => ?_)
  · have q7 : a1 < (h ((h 0 8) + 7) 2) := q7
    refine x_retV (np := 24) (x := 0) (by decide +kernel) (by decide +kernel) (Or.inl ⟨rfl, ?_⟩)
    refine x_aload (np := 12) (x := 0) (by decide +kernel) rfl (x_nc_le (by decide)) ?_
    refine x_getR (np := 15) (x := 648) (f := 8) (q := (h 0 8)) (by decide +kernel) (by decide) (by decide +kernel) rfl ?_
    have q9 : h (h 0 8) 3 = ((h 0 8) + 7) := tf_0_3 hJ t1
    refine x_getR (np := 18) (x := 515) (f := 3) (q := ((h 0 8) + 7)) (by decide +kernel) (by decide) (tg_0_515_3_1 t1) q9 ?_
    refine x_iload (np := 19) (x := 1) (by decide +kernel) rfl la1 ?_
    refine x_const (np := 20) (x := 9223372047592194050) (a := 2147483650) (by decide +kernel) (by decide) (by decide) ?_
    refine x_nI (t := 6) (mj := 68) (n := 3) (rc := 7) (ml := 4) (nr := 0) (np := 23) (as := [x_r ((h 0 8) + 7), iv_c a1, iv_c 2147483650]) (rest := []) (lo1 := [x_r ((h 0 8) + 7), iv_c a1, iv_c 2147483650, 147573952589676412928]) (by decide +kernel) (by decide) (by decide +kernel) (x_rb_of (tr_7_7 t1)) rfl rfl (x_wr (tn_7 t1) (x_wi la1 (x_wi (by decide) x_wn))) x_wn (by decide) rfl ?_
    refine x_iload (np := 1) (x := 1) (by decide +kernel) rfl la1 ?_
    refine x_ifz (k := 2) (tg := 28) (np := 4) (by decide +kernel) (by decide) la1 (fun q10 => ?_) (fun q11 => ?_)
    · have q10 : a1 < 2147483648 := q10
      exfalso; omega
    have q11 : ¬ (a1 < 2147483648) := q11
    refine x_iload (np := 5) (x := 1) (by decide +kernel) rfl la1 ?_
    refine x_aload (np := 6) (x := 0) (by decide +kernel) rfl (x_nc_le (tn_7 t1)) ?_
    refine x_getC (np := 9) (x := 386) (f := 2) (q := (h ((h 0 8) + 7) 2)) (by decide +kernel) (by decide) (tg_7_386_2_0 t1) rfl (fun l12 => ?_)
    refine x_icmp (k := 3) (tg := 28) (np := 12) (by decide +kernel) (by decide) la1 l6 (fun q13 => ?_) (fun q14 => ?_)
    · have q13 : (h ((h 0 8) + 7) 2) ≤ a1 := q13
      exfalso; omega
    have q14 : ¬ ((h ((h 0 8) + 7) 2) ≤ a1) := q14
    refine x_iload (np := 13) (x := 2) (by decide +kernel) rfl (by decide) ?_
    refine x_ifz (k := 2) (tg := 28) (np := 16) (by decide +kernel) (by decide) (by decide) (fun q15 => ?_) (fun q16 => ?_)
    · have q15 : 2147483650 < 2147483648 := q15
      exfalso; omega
    have q16 : ¬ (2147483650 < 2147483648) := q16
    refine x_iload (np := 17) (x := 2) (by decide +kernel) rfl (by decide) ?_
    refine x_aload (np := 18) (x := 0) (by decide +kernel) rfl (x_nc_le (tn_7 t1)) ?_
    have b17 := jB (e := 0) 0 hJ (rg_T7_0_0_1 t1) (by first | decide | omega) (by first | decide | omega)
    have q18 : (h ((h 0 8) + 7) 0) = 2147483652 := by first | decide | omega
    refine x_getC (np := 21) (x := 384) (f := 0) (q := 2147483652) (by decide +kernel) (by decide) (tg_7_384_0_0 t1) q18 (fun l19 => ?_)
    refine x_icmp (k := 3) (tg := 28) (np := 24) (by decide +kernel) (by decide) (by decide) (by decide) (fun q20 => ?_) (fun q21 => ?_)
    · have q20 : 2147483652 ≤ 2147483650 := q20
      exfalso; omega
    have q21 : ¬ (2147483652 ≤ 2147483650) := q21
    refine x_const (np := 25) (x := 9223372043297226753) (a := 2147483649) (by decide +kernel) (by decide) (by decide) ?_
    refine x_goto (np := 28) (x := 29) (by decide +kernel) ?_
    refine x_istore (np := 30) (x := 3) (lo' := [x_r ((h 0 8) + 7), iv_c a1, iv_c 2147483650, iv_c 2147483649]) (by decide +kernel) (by decide) (Nat.le_of_ble_eq_true rfl) rfl ?_
    refine x_iload (np := 31) (x := 3) (by decide +kernel) rfl (by decide) ?_
    refine x_ifz (k := 0) (tg := 50) (np := 34) (by decide +kernel) (by decide) (by decide) (fun q22 => ?_) (fun q23 => ?_)
    · have q22 : 2147483649 = 2147483648 := q22
      exfalso; omega
    have q23 : ¬ (2147483649 = 2147483648) := q23
    refine x_aload (np := 35) (x := 0) (by decide +kernel) rfl (x_nc_le (tn_7 t1)) ?_
    have q24 : h ((h 0 8) + 7) 1 = ((h 0 8) + 8) := tf_7_1 hJ t1
    refine x_getR (np := 38) (x := 385) (f := 1) (q := ((h 0 8) + 8)) (by decide +kernel) (by decide) (tg_7_385_1_1 t1) q24 ?_
    refine x_iload (np := 39) (x := 1) (by decide +kernel) rfl la1 ?_
    refine x_aload (np := 40) (x := 0) (by decide +kernel) rfl (x_nc_le (tn_7 t1)) ?_
    refine x_getC (np := 43) (x := 384) (f := 0) (q := 2147483652) (by decide +kernel) (by decide) (tg_7_384_0_0 t1) q18 (fun l25 => ?_)
    obtain ⟨u26, q27⟩ : ∃ z, a1 = 2147483648 + z := ⟨a1 - 2147483648, by first | decide | omega⟩
    refine x_imul (np := 44) (x := 0) (i := u26) (j := 4) (v := (2147483648 + 4 * u26)) (by decide +kernel) (by first | decide | omega) (by first | decide | omega) (by first | decide | omega) (by first | decide | omega) la1 (by decide) ?_
    refine x_iload (np := 45) (x := 2) (by decide +kernel) rfl (by decide) ?_
    refine x_iadd (np := 46) (x := 0) (v := (2147483650 + 4 * u26)) (by decide +kernel) (by first | decide | omega) (by decide) (by first | decide | omega) (by first | decide | omega) ?_
    refine x_aldC (np := 47) (x := 0) (n := 40) (i := (2 + 4 * u26)) (q := ((h ((h 0 8) + 8) (2 + 4 * u26)))) (by decide +kernel) (ta_8_40 t1) (by first | decide | omega) (by first | decide | omega) (by decide) rfl (fun l29 => ?_)
    refine x_goto (np := 50) (x := 51) (by decide +kernel) ?_
    refine x_retI (np := 52) (x := 0) (by decide +kernel) l29 (Or.inl (by decide +kernel)) ⟨_, rfl, l29, ?_⟩
    refine x_istore (np := 24) (x := 2) (lo' := [x_r 0, iv_c a1, iv_c ((h ((h 0 8) + 8) (2 + 4 * u26))), 147573952589676412928, 147573952589676412928, 147573952589676412928]) (by decide +kernel) l29 (Nat.le_of_ble_eq_true rfl) rfl ?_
    refine x_aload (np := 25) (x := 0) (by decide +kernel) rfl (x_nc_le (by decide)) ?_
    refine x_getR (np := 28) (x := 648) (f := 8) (q := (h 0 8)) (by decide +kernel) (by decide) (by decide +kernel) rfl ?_
    have q30 : h (h 0 8) 3 = ((h 0 8) + 7) := tf_0_3 hJ t1
    refine x_getR (np := 31) (x := 515) (f := 3) (q := ((h 0 8) + 7)) (by decide +kernel) (by decide) (tg_0_515_3_1 t1) q30 ?_
    refine x_iload (np := 32) (x := 1) (by decide +kernel) rfl la1 ?_
    refine x_const (np := 33) (x := 9223372043297226753) (a := 2147483649) (by decide +kernel) (by decide) (by decide) ?_
    refine x_nI (t := 6) (mj := 68) (n := 3) (rc := 7) (ml := 4) (nr := 0) (np := 36) (as := [x_r ((h 0 8) + 7), iv_c a1, iv_c 2147483649]) (rest := []) (lo1 := [x_r ((h 0 8) + 7), iv_c a1, iv_c 2147483649, 147573952589676412928]) (by decide +kernel) (by decide) (by decide +kernel) (x_rb_of (tr_7_7 t1)) rfl rfl (x_wr (tn_7 t1) (x_wi la1 (x_wi (by decide) x_wn))) x_wn (by decide) rfl ?_
    refine x_iload (np := 1) (x := 1) (by decide +kernel) rfl la1 ?_
    refine x_ifz (k := 2) (tg := 28) (np := 4) (by decide +kernel) (by decide) la1 (fun q31 => ?_) (fun q32 => ?_)
    · have q31 : a1 < 2147483648 := q31
      exfalso; omega
    have q32 : ¬ (a1 < 2147483648) := q32
    refine x_iload (np := 5) (x := 1) (by decide +kernel) rfl la1 ?_
    refine x_aload (np := 6) (x := 0) (by decide +kernel) rfl (x_nc_le (tn_7 t1)) ?_
    refine x_getC (np := 9) (x := 386) (f := 2) (q := (h ((h 0 8) + 7) 2)) (by decide +kernel) (by decide) (tg_7_386_2_0 t1) rfl (fun l33 => ?_)
    refine x_icmp (k := 3) (tg := 28) (np := 12) (by decide +kernel) (by decide) la1 l6 (fun q34 => ?_) (fun q35 => ?_)
    · have q34 : (h ((h 0 8) + 7) 2) ≤ a1 := q34
      exfalso; omega
    have q35 : ¬ ((h ((h 0 8) + 7) 2) ≤ a1) := q35
    refine x_iload (np := 13) (x := 2) (by decide +kernel) rfl (by decide) ?_
    refine x_ifz (k := 2) (tg := 28) (np := 16) (by decide +kernel) (by decide) (by decide) (fun q36 => ?_) (fun q37 => ?_)
    · have q36 : 2147483649 < 2147483648 := q36
      exfalso; omega
    have q37 : ¬ (2147483649 < 2147483648) := q37
    refine x_iload (np := 17) (x := 2) (by decide +kernel) rfl (by decide) ?_
    refine x_aload (np := 18) (x := 0) (by decide +kernel) rfl (x_nc_le (tn_7 t1)) ?_
    refine x_getC (np := 21) (x := 384) (f := 0) (q := 2147483652) (by decide +kernel) (by decide) (tg_7_384_0_0 t1) q18 (fun l38 => ?_)
    refine x_icmp (k := 3) (tg := 28) (np := 24) (by decide +kernel) (by decide) (by decide) (by decide) (fun q39 => ?_) (fun q40 => ?_)
    · have q39 : 2147483652 ≤ 2147483649 := q39
      exfalso; omega
    have q40 : ¬ (2147483652 ≤ 2147483649) := q40
    refine x_const (np := 25) (x := 9223372043297226753) (a := 2147483649) (by decide +kernel) (by decide) (by decide) ?_
    refine x_goto (np := 28) (x := 29) (by decide +kernel) ?_
    refine x_istore (np := 30) (x := 3) (lo' := [x_r ((h 0 8) + 7), iv_c a1, iv_c 2147483649, iv_c 2147483649]) (by decide +kernel) (by decide) (Nat.le_of_ble_eq_true rfl) rfl ?_
    refine x_iload (np := 31) (x := 3) (by decide +kernel) rfl (by decide) ?_
    refine x_ifz (k := 0) (tg := 50) (np := 34) (by decide +kernel) (by decide) (by decide) (fun q41 => ?_) (fun q42 => ?_)
    · have q41 : 2147483649 = 2147483648 := q41
      exfalso; omega
    have q42 : ¬ (2147483649 = 2147483648) := q42
    refine x_aload (np := 35) (x := 0) (by decide +kernel) rfl (x_nc_le (tn_7 t1)) ?_
    have q43 : h ((h 0 8) + 7) 1 = ((h 0 8) + 8) := tf_7_1 hJ t1
    refine x_getR (np := 38) (x := 385) (f := 1) (q := ((h 0 8) + 8)) (by decide +kernel) (by decide) (tg_7_385_1_1 t1) q43 ?_
    refine x_iload (np := 39) (x := 1) (by decide +kernel) rfl la1 ?_
    refine x_aload (np := 40) (x := 0) (by decide +kernel) rfl (x_nc_le (tn_7 t1)) ?_
    refine x_getC (np := 43) (x := 384) (f := 0) (q := 2147483652) (by decide +kernel) (by decide) (tg_7_384_0_0 t1) q18 (fun l44 => ?_)
    refine x_imul (np := 44) (x := 0) (i := u26) (j := 4) (v := (2147483648 + 4 * u26)) (by decide +kernel) (by first | decide | omega) (by first | decide | omega) (by first | decide | omega) (by first | decide | omega) la1 (by decide) ?_
    refine x_iload (np := 45) (x := 2) (by decide +kernel) rfl (by decide) ?_
    refine x_iadd (np := 46) (x := 0) (v := (2147483649 + 4 * u26)) (by decide +kernel) (by first | decide | omega) (by decide) (by first | decide | omega) (by first | decide | omega) ?_
    refine x_aldC (np := 47) (x := 0) (n := 40) (i := (1 + 4 * u26)) (q := ((h ((h 0 8) + 8) (1 + 4 * u26)))) (by decide +kernel) (ta_8_40 t1) (by first | decide | omega) (by first | decide | omega) (by decide) rfl (fun l46 => ?_)
    refine x_goto (np := 50) (x := 51) (by decide +kernel) ?_
    refine x_retI (np := 52) (x := 0) (by decide +kernel) l46 (Or.inl (by decide +kernel)) ⟨_, rfl, l46, ?_⟩
    refine x_istore (np := 37) (x := 3) (lo' := [x_r 0, iv_c a1, iv_c ((h ((h 0 8) + 8) (2 + 4 * u26))), iv_c ((h ((h 0 8) + 8) (1 + 4 * u26))), 147573952589676412928, 147573952589676412928]) (by decide +kernel) l46 (Nat.le_of_ble_eq_true rfl) rfl ?_
    refine x_const (np := 38) (x := 9223372039002259456) (a := 2147483648) (by decide +kernel) (by decide) (by decide) ?_
    refine x_istore (np := 40) (x := 4) (lo' := [x_r 0, iv_c a1, iv_c ((h ((h 0 8) + 8) (2 + 4 * u26))), iv_c ((h ((h 0 8) + 8) (1 + 4 * u26))), iv_c 2147483648, 147573952589676412928]) (by decide +kernel) (by decide) (Nat.le_of_ble_eq_true rfl) rfl ?_
    refine x_const (np := 41) (x := 9223372039002259456) (a := 2147483648) (by decide +kernel) (by decide) (by decide) ?_
    refine x_istore (np := 43) (x := 5) (lo' := [x_r 0, iv_c a1, iv_c ((h ((h 0 8) + 8) (2 + 4 * u26))), iv_c ((h ((h 0 8) + 8) (1 + 4 * u26))), iv_c 2147483648, iv_c 2147483648]) (by decide +kernel) (by decide) (Nat.le_of_ble_eq_true rfl) rfl ?_
    have p213 : ∀ (n : Nat) (v209 : Nat) (v211 : Nat), 4294967296 - v211 < n → (0 ≤ v209 ∧ v209 ≤ 4294967295) → (2147483648 ≤ v211 ∧ v211 ≤ 2147483654) → X sc 135 (d + 1) (xT (fun r h' => J h' ∧ Fr 0 h h' ∧ (0 ≤ r ∧ r ≤ 4294967295)) (fun E h' => J h' ∧ Fr 0 h h' ∧ (E = 2))) 1 6 43 [x_r 0, iv_c a1, iv_c ((h ((h 0 8) + 8) (2 + 4 * u26))), iv_c ((h ((h 0 8) + 8) (1 + 4 * u26))), iv_c v209, iv_c v211] [] h := by
      intro n
      induction n with
      | zero => intro v209 v211 q214; exact absurd q214 (Nat.not_lt_zero _)
      | succ n i215 =>
        intro v209 v211 q214 b210 b212
        refine x_iload (np := 45) (x := 5) (by decide +kernel) rfl (by first | decide | omega) ?_
        refine x_aload (np := 46) (x := 0) (by decide +kernel) rfl (x_nc_le (by decide)) ?_
        refine x_getR (np := 49) (x := 648) (f := 8) (q := (h 0 8)) (by decide +kernel) (by decide) (by decide +kernel) rfl ?_
        have b216 := jB (e := 7) 0 hJ (rg_T0_7_0_1 t1) (by first | decide | omega) (by first | decide | omega)
        refine x_getC (np := 52) (x := 519) (f := 7) (q := (h (h 0 8) 7)) (by decide +kernel) (by decide) (tg_0_519_7_0 t1) rfl (fun l217 => ?_)
        refine x_icmp (k := 3) (tg := 96) (np := 55) (by decide +kernel) (by decide) (by first | decide | omega) l217 (fun q218 => ?_) (fun q219 => ?_)
        · have q218 : (h (h 0 8) 7) ≤ v211 := q218
          refine x_iload (np := 98) (x := 4) (by decide +kernel) rfl (by first | decide | omega) ?_
          refine x_retI (np := 99) (x := 0) (by decide +kernel) (by first | decide | omega) (Or.inl (by decide +kernel)) (Or.inl ⟨_, rfl, (by first | decide | omega), ?_⟩)
          exact ⟨hJ, hF, (by first | decide | omega)⟩
        have q219 : ¬ ((h (h 0 8) 7) ≤ v211) := q219
        refine x_iload (np := 56) (x := 2) (by decide +kernel) rfl l29 ?_
        refine x_iload (np := 58) (x := 5) (by decide +kernel) rfl (by first | decide | omega) ?_
        refine x_cP (t := 0) (mj := 148) (n := 2) (rc := 0) (ml := 2) (nr := 0) (np := 61) (as := [iv_c ((h ((h 0 8) + 8) (2 + 4 * u26))), iv_c v211]) (rest := []) (lo1 := [iv_c ((h ((h 0 8) + 8) (2 + 4 * u26))), iv_c v211]) (by decide +kernel) (by decide) (by decide +kernel) (Or.inl rfl) rfl rfl (x_wi l29 (x_wi (by first | decide | omega) x_wn)) x_wn (by decide) rfl (c148 hJ (by first | decide | omega) (by first | decide | omega)) (fun v220 l221 q222 => ?_)
        refine x_ifz (k := 0) (tg := 90) (np := 64) (by decide +kernel) (by decide) l221 (fun q223 => ?_) (fun q224 => ?_)
        · have q223 : v220 = 2147483648 := q223
          refine x_iinc (np := 93) (i := 5) (j := 2147483649) (v := (1 + v211)) (lo' := [x_r 0, iv_c a1, iv_c ((h ((h 0 8) + 8) (2 + 4 * u26))), iv_c ((h ((h 0 8) + 8) (1 + 4 * u26))), iv_c v209, iv_c (1 + v211)]) (by decide +kernel) (by decide) (by decide) rfl (by first | decide | omega) (by first | decide | omega) (by first | decide | omega) rfl ?_
          refine x_goto (np := 96) (x := 43) (by decide +kernel) ?_
          exact i215 v209 (1 + v211) (by first | decide | omega) (by first | decide | omega) (by first | decide | omega)
        have q224 : ¬ (v220 = 2147483648) := q224
        refine x_aload (np := 65) (x := 0) (by decide +kernel) rfl (x_nc_le (by decide)) ?_
        have q225 : h 0 1 = 45 := by have z := jB (e := 1) 0 hJ rg_0_1_0_1 (by decide) (by decide); omega
        refine x_getR (np := 68) (x := 641) (f := 1) (q := 45) (by decide +kernel) (by decide) (by decide +kernel) q225 ?_
        have q226 : h 45 0 = 46 := by have z := jB (e := 0) 0 hJ rg_45_0_0_1 (by decide) (by decide); omega
        refine x_getR (np := 71) (x := 64) (f := 0) (q := 46) (by decide +kernel) (by decide) (by decide +kernel) q226 ?_
        refine x_iload (np := 73) (x := 5) (by decide +kernel) rfl (by first | decide | omega) ?_
        obtain ⟨u227, q228⟩ : ∃ z, v211 = 2147483648 + z := ⟨v211 - 2147483648, by first | decide | omega⟩
        refine x_aldC (np := 74) (x := 0) (n := 6) (i := u227) (q := (h 46 u227)) (by decide +kernel) (by decide +kernel) (by first | decide | omega) (by first | decide | omega) (by decide) rfl (fun l229 => ?_)
        refine x_iload (np := 75) (x := 3) (by decide +kernel) rfl l46 ?_
        refine x_cP (t := 0) (mj := 148) (n := 2) (rc := 0) (ml := 2) (nr := 0) (np := 78) (as := [iv_c (h 46 u227), iv_c ((h ((h 0 8) + 8) (1 + 4 * u26)))]) (rest := []) (lo1 := [iv_c (h 46 u227), iv_c ((h ((h 0 8) + 8) (1 + 4 * u26)))]) (by decide +kernel) (by decide) (by decide +kernel) (Or.inl rfl) rfl rfl (x_wi l229 (x_wi l46 x_wn)) x_wn (by decide) rfl (c148 hJ (by first | decide | omega) (by first | decide | omega)) (fun v230 l231 q232 => ?_)
        refine x_ifz (k := 0) (tg := 90) (np := 81) (by decide +kernel) (by decide) l231 (fun q233 => ?_) (fun q234 => ?_)
        · have q233 : v230 = 2147483648 := q233
          refine x_iinc (np := 93) (i := 5) (j := 2147483649) (v := (1 + v211)) (lo' := [x_r 0, iv_c a1, iv_c ((h ((h 0 8) + 8) (2 + 4 * u26))), iv_c ((h ((h 0 8) + 8) (1 + 4 * u26))), iv_c v209, iv_c (1 + v211)]) (by decide +kernel) (by decide) (by decide) rfl (by first | decide | omega) (by first | decide | omega) (by first | decide | omega) rfl ?_
          refine x_goto (np := 96) (x := 43) (by decide +kernel) ?_
          exact i215 v209 (1 + v211) (by first | decide | omega) (by first | decide | omega) (by first | decide | omega)
        have q234 : ¬ (v230 = 2147483648) := q234
        refine x_iload (np := 83) (x := 4) (by decide +kernel) rfl (by first | decide | omega) ?_
        refine x_const (np := 84) (x := 9223372043297226753) (a := 2147483649) (by decide +kernel) (by decide) (by decide) ?_
        refine x_iload (np := 86) (x := 5) (by decide +kernel) rfl (by first | decide | omega) ?_
        refine x_any (np := 87) (k9 := 3) (by decide +kernel) (by decide) (by decide) (by first | decide | omega) (fun v235 l236 => ?_)
        refine x_any (np := 88) (k9 := 1) (by decide +kernel) (by decide) (by first | decide | omega) l236 (fun v237 l238 => ?_)
        refine x_istore (np := 90) (x := 4) (lo' := [x_r 0, iv_c a1, iv_c ((h ((h 0 8) + 8) (2 + 4 * u26))), iv_c ((h ((h 0 8) + 8) (1 + 4 * u26))), iv_c v237, iv_c v211]) (by decide +kernel) l238 (Nat.le_of_ble_eq_true rfl) rfl ?_
        refine x_iinc (np := 93) (i := 5) (j := 2147483649) (v := (1 + v211)) (lo' := [x_r 0, iv_c a1, iv_c ((h ((h 0 8) + 8) (2 + 4 * u26))), iv_c ((h ((h 0 8) + 8) (1 + 4 * u26))), iv_c v237, iv_c (1 + v211)]) (by decide +kernel) (by decide) (by decide) rfl (by first | decide | omega) (by first | decide | omega) (by first | decide | omega) rfl ?_
        refine x_goto (np := 96) (x := 43) (by decide +kernel) ?_
        exact i215 v237 (1 + v211) (by first | decide | omega) (by first | decide | omega) (by first | decide | omega)
    exact p213 _ 2147483648 2147483648 (Nat.lt_succ_self _) (by first | decide | omega) (by first | decide | omega)
  have q8 : ¬ (a1 < (h ((h 0 8) + 7) 2)) := q8
  refine x_thr (np := 15) (x := 2) (by decide +kernel) (by decide +kernel) (Nat.le_trans x_wn (by decide)) (Or.inr ⟨_, rfl, ?_⟩)
  refine Or.inr ⟨_, rfl, ?_⟩
  exact ⟨hJ, hF, by decide⟩
set_option maxHeartbeats 0 in
/-- LentNamesLaw.can(LLentNames;I[J)I -/
theorem c303_0_97 {sc : Nat × Nat} {d a1 : Nat} {h : xh} (hJ : J h) (ba1 : 0 ≤ a1 ∧ a1 ≤ 4294967295) : X sc 303 (d + 2) (xI fun r h' => J h' ∧ Fr 70368744177664 h h' ∧ (2147483648 ≤ r ∧ r ≤ 2147483649)) 0 0 0 [x_r 0, iv_c a1, x_r 97, 147573952589676412928] [] h := by
  have la1 : a1 < 4294967296 := by first | decide | omega
  have hF := Fr.refl 70368744177664 h
  refine x_aload (np := 1) (x := 2) (by decide +kernel) rfl (x_nc_le (by decide)) ?_
  refine x_const (np := 2) (x := 9223372039002259456) (a := 2147483648) (by decide +kernel) (by decide) (by decide) ?_
  refine x_aload (np := 3) (x := 0) (by decide +kernel) rfl (x_nc_le (by decide)) ?_
  refine x_iload (np := 4) (x := 1) (by decide +kernel) rfl la1 ?_
  refine x_cT (t := 6) (mj := 135) (n := 2) (rc := 11) (ml := 6) (cc := 1) (ss := 6) (nr := 2) (np := 7) (as := [x_r 0, iv_c a1]) (rest := [iv_c 2147483648, x_r 97]) (lo1 := [x_r 0, iv_c a1, 147573952589676412928, 147573952589676412928, 147573952589676412928, 147573952589676412928]) (by decide +kernel) (by decide) (by decide +kernel) (x_rb_of (by decide +kernel)) rfl rfl (x_wr (by decide) (x_wi la1 x_wn)) (x_wi (by decide) (x_wr (by decide) x_wn)) (by decide) rfl (c135_0 hJ  (by first | decide | omega)) (fun v1 h4 l2 q3 => ?_) (fun E6 h7 q5 => ?_)
  · obtain ⟨j8, f9, b10⟩ := q3
    have f11 := Fr.trans hF f9 (by decide)
    refine x_i2l (np := 8) (x := 0) (by decide +kernel) l2 ?_
    refine x_last (np := 9) (x := 0) (n := 1) (i := 0) (by decide +kernel) (by decide) (by decide +kernel) (by decide +kernel) (by first | decide | omega) (by first | decide | omega) (by decide) l2 ?_
    have j13 := jU (e := 0) (v := v1) 0 j8 rg_97_0_1_1 (by first | decide | omega) (by first | decide | omega) (by first | decide | omega)
    have f15 := jF (e := 0) (v := v1) 0 f11 rg_97_0_1_1 (by first | decide | omega) (by first | decide | omega) (by decide)
    generalize e14 : x_up h4 97 0 v1 = h12 at j13 f15 ⊢
    refine x_goto (np := 12) (x := 15) (by decide +kernel) ?_
    refine x_const (np := 16) (x := 9223372039002259456) (a := 2147483648) (by decide +kernel) (by decide) (by decide) ?_
    refine x_retI (np := 17) (x := 0) (by decide +kernel) (by decide) (Or.inl (by decide +kernel)) ⟨_, rfl, (by decide), ?_⟩
    exact ⟨j13, f15, (by first | decide | omega)⟩
  obtain ⟨j16, f17, e18⟩ := q5
  have f19 := Fr.trans hF f17 (by decide)
  rcases e18 with rfl
  · refine ⟨12, fun _ _ => rfl, ?_⟩
    refine x_astE (np := 13) (x := 3) (lo' := [x_r 0, iv_c a1, x_r 97, 55340232221128654850]) (by decide +kernel) (Nat.le_of_ble_eq_true rfl) rfl ?_
    refine x_const (np := 14) (x := 9223372043297226753) (a := 2147483649) (by decide +kernel) (by decide) (by decide) ?_
    refine x_retI (np := 15) (x := 0) (by decide +kernel) (by decide) (Or.inl (by decide +kernel)) ⟨_, rfl, (by decide), ?_⟩
    exact ⟨j16, f19, (by first | decide | omega)⟩
set_option maxHeartbeats 0 in
/-- LentNames$Town.knownBy(I)I -/
theorem c87_T0 {sc : Nat × Nat} {d ra0 a1 : Nat} {h : xh} (hJ : J h) (ta0 : tw ra0) (ba1 : 0 ≤ a1 ∧ a1 ≤ 4294967295) : X sc 87 (d + 1) (xI fun r h' => h' = h ∧ (0 ≤ r ∧ r ≤ 4294967295)) 0 0 0 [x_r ra0, iv_c a1, 147573952589676412928, 147573952589676412928] [] h := by
  have la1 : a1 < 4294967296 := by first | decide | omega
  refine x_const (np := 1) (x := 9223372039002259456) (a := 2147483648) (by decide +kernel) (by decide) (by decide) ?_
  refine x_istore (np := 2) (x := 2) (lo' := [x_r ra0, iv_c a1, iv_c 2147483648, 147573952589676412928]) (by decide +kernel) (by decide) (Nat.le_of_ble_eq_true rfl) rfl ?_
  refine x_const (np := 3) (x := 9223372039002259456) (a := 2147483648) (by decide +kernel) (by decide) (by decide) ?_
  refine x_istore (np := 4) (x := 3) (lo' := [x_r ra0, iv_c a1, iv_c 2147483648, iv_c 2147483648]) (by decide +kernel) (by decide) (Nat.le_of_ble_eq_true rfl) rfl ?_
  have p329 : ∀ (n : Nat) (v325 : Nat) (v327 : Nat), 4294967296 - v327 < n → (0 ≤ v325 ∧ v325 ≤ 4294967295) → (2147483648 ≤ v327 ∧ v327 ≤ 2147483658) → X sc 87 (d + 1) (xI fun r h' => h' = h ∧ (0 ≤ r ∧ r ≤ 4294967295)) 0 0 4 [x_r ra0, iv_c a1, iv_c v325, iv_c v327] [] h := by
    intro n
    induction n with
    | zero => intro v325 v327 q330; exact absurd q330 (Nat.not_lt_zero _)
    | succ n i331 =>
      intro v325 v327 q330 b326 b328
      refine x_iload (np := 5) (x := 3) (by decide +kernel) rfl (by first | decide | omega) ?_
      refine x_aload (np := 6) (x := 0) (by decide +kernel) rfl (x_nc_le (tn_0 ta0)) ?_
      have q332 : h ra0 3 = (ra0 + 7) := tf_0_3 hJ ta0
      refine x_getR (np := 9) (x := 515) (f := 3) (q := (ra0 + 7)) (by decide +kernel) (by decide) (tg_0_515_3_1 ta0) q332 ?_
      have b333 := jB (e := 2) 0 hJ (rg_T7_2_0_1 ta0) (by first | decide | omega) (by first | decide | omega)
      refine x_getC (np := 12) (x := 386) (f := 2) (q := (h (ra0 + 7) 2)) (by decide +kernel) (by decide) (tg_7_386_2_0 ta0) rfl (fun l334 => ?_)
      refine x_icmp (k := 3) (tg := 40) (np := 15) (by decide +kernel) (by decide) (by first | decide | omega) l334 (fun q335 => ?_) (fun q336 => ?_)
      · have q335 : (h (ra0 + 7) 2) ≤ v327 := q335
        refine x_iload (np := 41) (x := 2) (by decide +kernel) rfl (by first | decide | omega) ?_
        refine x_retI (np := 42) (x := 0) (by decide +kernel) (by first | decide | omega) (Or.inl (by decide +kernel)) ⟨_, rfl, (by first | decide | omega), ?_⟩
        exact ⟨rfl, (by first | decide | omega)⟩
      have q336 : ¬ ((h (ra0 + 7) 2) ≤ v327) := q336
      refine x_aload (np := 16) (x := 0) (by decide +kernel) rfl (x_nc_le (tn_0 ta0)) ?_
      have q337 : h ra0 3 = (ra0 + 7) := tf_0_3 hJ ta0
      refine x_getR (np := 19) (x := 515) (f := 3) (q := (ra0 + 7)) (by decide +kernel) (by decide) (tg_0_515_3_1 ta0) q337 ?_
      refine x_iload (np := 20) (x := 3) (by decide +kernel) rfl (by first | decide | omega) ?_
      refine x_const (np := 21) (x := 9223372051887161347) (a := 2147483651) (by decide +kernel) (by decide) (by decide) ?_
      refine x_nI (t := 6) (mj := 68) (n := 3) (rc := 7) (ml := 4) (nr := 0) (np := 24) (as := [x_r (ra0 + 7), iv_c v327, iv_c 2147483651]) (rest := []) (lo1 := [x_r (ra0 + 7), iv_c v327, iv_c 2147483651, 147573952589676412928]) (by decide +kernel) (by decide) (by decide +kernel) (x_rb_of (tr_7_7 ta0)) rfl rfl (x_wr (tn_7 ta0) (x_wi (by first | decide | omega) (x_wi (by decide) x_wn))) x_wn (by decide) rfl ?_
      refine x_iload (np := 1) (x := 1) (by decide +kernel) rfl (by first | decide | omega) ?_
      refine x_ifz (k := 2) (tg := 28) (np := 4) (by decide +kernel) (by decide) (by first | decide | omega) (fun q338 => ?_) (fun q339 => ?_)
      · have q338 : v327 < 2147483648 := q338
        exfalso; omega
      have q339 : ¬ (v327 < 2147483648) := q339
      refine x_iload (np := 5) (x := 1) (by decide +kernel) rfl (by first | decide | omega) ?_
      refine x_aload (np := 6) (x := 0) (by decide +kernel) rfl (x_nc_le (tn_7 ta0)) ?_
      refine x_getC (np := 9) (x := 386) (f := 2) (q := (h (ra0 + 7) 2)) (by decide +kernel) (by decide) (tg_7_386_2_0 ta0) rfl (fun l340 => ?_)
      refine x_icmp (k := 3) (tg := 28) (np := 12) (by decide +kernel) (by decide) (by first | decide | omega) l334 (fun q341 => ?_) (fun q342 => ?_)
      · have q341 : (h (ra0 + 7) 2) ≤ v327 := q341
        exfalso; omega
      have q342 : ¬ ((h (ra0 + 7) 2) ≤ v327) := q342
      refine x_iload (np := 13) (x := 2) (by decide +kernel) rfl (by decide) ?_
      refine x_ifz (k := 2) (tg := 28) (np := 16) (by decide +kernel) (by decide) (by decide) (fun q343 => ?_) (fun q344 => ?_)
      · have q343 : 2147483651 < 2147483648 := q343
        exfalso; omega
      have q344 : ¬ (2147483651 < 2147483648) := q344
      refine x_iload (np := 17) (x := 2) (by decide +kernel) rfl (by decide) ?_
      refine x_aload (np := 18) (x := 0) (by decide +kernel) rfl (x_nc_le (tn_7 ta0)) ?_
      have b345 := jB (e := 0) 0 hJ (rg_T7_0_0_1 ta0) (by first | decide | omega) (by first | decide | omega)
      have q346 : (h (ra0 + 7) 0) = 2147483652 := by first | decide | omega
      refine x_getC (np := 21) (x := 384) (f := 0) (q := 2147483652) (by decide +kernel) (by decide) (tg_7_384_0_0 ta0) q346 (fun l347 => ?_)
      refine x_icmp (k := 3) (tg := 28) (np := 24) (by decide +kernel) (by decide) (by decide) (by decide) (fun q348 => ?_) (fun q349 => ?_)
      · have q348 : 2147483652 ≤ 2147483651 := q348
        exfalso; omega
      have q349 : ¬ (2147483652 ≤ 2147483651) := q349
      refine x_const (np := 25) (x := 9223372043297226753) (a := 2147483649) (by decide +kernel) (by decide) (by decide) ?_
      refine x_goto (np := 28) (x := 29) (by decide +kernel) ?_
      refine x_istore (np := 30) (x := 3) (lo' := [x_r (ra0 + 7), iv_c v327, iv_c 2147483651, iv_c 2147483649]) (by decide +kernel) (by decide) (Nat.le_of_ble_eq_true rfl) rfl ?_
      refine x_iload (np := 31) (x := 3) (by decide +kernel) rfl (by decide) ?_
      refine x_ifz (k := 0) (tg := 50) (np := 34) (by decide +kernel) (by decide) (by decide) (fun q350 => ?_) (fun q351 => ?_)
      · have q350 : 2147483649 = 2147483648 := q350
        exfalso; omega
      have q351 : ¬ (2147483649 = 2147483648) := q351
      refine x_aload (np := 35) (x := 0) (by decide +kernel) rfl (x_nc_le (tn_7 ta0)) ?_
      have q352 : h (ra0 + 7) 1 = (ra0 + 8) := tf_7_1 hJ ta0
      refine x_getR (np := 38) (x := 385) (f := 1) (q := (ra0 + 8)) (by decide +kernel) (by decide) (tg_7_385_1_1 ta0) q352 ?_
      refine x_iload (np := 39) (x := 1) (by decide +kernel) rfl (by first | decide | omega) ?_
      refine x_aload (np := 40) (x := 0) (by decide +kernel) rfl (x_nc_le (tn_7 ta0)) ?_
      refine x_getC (np := 43) (x := 384) (f := 0) (q := 2147483652) (by decide +kernel) (by decide) (tg_7_384_0_0 ta0) q346 (fun l353 => ?_)
      obtain ⟨u354, q355⟩ : ∃ z, v327 = 2147483648 + z := ⟨v327 - 2147483648, by first | decide | omega⟩
      refine x_imul (np := 44) (x := 0) (i := u354) (j := 4) (v := (2147483648 + 4 * u354)) (by decide +kernel) (by first | decide | omega) (by first | decide | omega) (by first | decide | omega) (by first | decide | omega) (by first | decide | omega) (by decide) ?_
      refine x_iload (np := 45) (x := 2) (by decide +kernel) rfl (by decide) ?_
      refine x_iadd (np := 46) (x := 0) (v := (2147483651 + 4 * u354)) (by decide +kernel) (by first | decide | omega) (by decide) (by first | decide | omega) (by first | decide | omega) ?_
      refine x_aldC (np := 47) (x := 0) (n := 40) (i := (3 + 4 * u354)) (q := ((h (ra0 + 8) (3 + 4 * u354)))) (by decide +kernel) (ta_8_40 ta0) (by first | decide | omega) (by first | decide | omega) (by decide) rfl (fun l357 => ?_)
      refine x_goto (np := 50) (x := 51) (by decide +kernel) ?_
      refine x_retI (np := 52) (x := 0) (by decide +kernel) l357 (Or.inl (by decide +kernel)) ⟨_, rfl, l357, ?_⟩
      refine x_iload (np := 25) (x := 1) (by decide +kernel) rfl la1 ?_
      refine x_icmp (k := 4) (tg := 34) (np := 28) (by decide +kernel) (by decide) l357 la1 (fun q358 => ?_) (fun q359 => ?_)
      · have q358 : a1 < ((h (ra0 + 8) (3 + 4 * u354))) := q358
        refine x_iinc (np := 37) (i := 3) (j := 2147483649) (v := (1 + v327)) (lo' := [x_r ra0, iv_c a1, iv_c v325, iv_c (1 + v327)]) (by decide +kernel) (by decide) (by decide) rfl (by first | decide | omega) (by first | decide | omega) (by first | decide | omega) rfl ?_
        refine x_goto (np := 40) (x := 4) (by decide +kernel) ?_
        exact i331 v325 (1 + v327) (by first | decide | omega) (by first | decide | omega) (by first | decide | omega)
      have q359 : ¬ (a1 < ((h (ra0 + 8) (3 + 4 * u354)))) := q359
      refine x_iload (np := 29) (x := 2) (by decide +kernel) rfl (by first | decide | omega) ?_
      refine x_const (np := 30) (x := 9223372043297226753) (a := 2147483649) (by decide +kernel) (by decide) (by decide) ?_
      refine x_iload (np := 31) (x := 3) (by decide +kernel) rfl (by first | decide | omega) ?_
      refine x_any (np := 32) (k9 := 3) (by decide +kernel) (by decide) (by decide) (by first | decide | omega) (fun v360 l361 => ?_)
      refine x_any (np := 33) (k9 := 1) (by decide +kernel) (by decide) (by first | decide | omega) l361 (fun v362 l363 => ?_)
      refine x_istore (np := 34) (x := 2) (lo' := [x_r ra0, iv_c a1, iv_c v362, iv_c v327]) (by decide +kernel) l363 (Nat.le_of_ble_eq_true rfl) rfl ?_
      refine x_iinc (np := 37) (i := 3) (j := 2147483649) (v := (1 + v327)) (lo' := [x_r ra0, iv_c a1, iv_c v362, iv_c (1 + v327)]) (by decide +kernel) (by decide) (by decide) rfl (by first | decide | omega) (by first | decide | omega) (by first | decide | omega) rfl ?_
      refine x_goto (np := 40) (x := 4) (by decide +kernel) ?_
      exact i331 v362 (1 + v327) (by first | decide | omega) (by first | decide | omega) (by first | decide | omega)
  exact p329 _ 2147483648 2147483648 (Nat.lt_succ_self _) (by first | decide | omega) (by first | decide | omega)
set_option maxHeartbeats 0 in
/-- LentNames$SecretSearch.setEnds()V -/
theorem c62_69 {sc : Nat × Nat} {d  : Nat} {h : xh} (hJ : J h) : X sc 62 (d + 2) (xV fun h' => J h' ∧ Fr 65537 h h') 0 0 0 [x_r 69, 147573952589676412928, 147573952589676412928] [] h := by
  have hF := Fr.refl 65537 h
  refine x_aload (np := 1) (x := 0) (by decide +kernel) rfl (x_nc_le (by decide)) ?_
  refine x_aload (np := 2) (x := 0) (by decide +kernel) rfl (x_nc_le (by decide)) ?_
  have t1 : tw (h 69 6) := hJ.2.2.2.2.2.2.1
  refine x_getR (np := 5) (x := 774) (f := 6) (q := (h 69 6)) (by decide +kernel) (by decide) (by decide +kernel) rfl ?_
  refine x_aload (np := 6) (x := 0) (by decide +kernel) rfl (x_nc_le (by decide)) ?_
  refine x_getC (np := 9) (x := 775) (f := 7) (q := (h 69 7)) (by decide +kernel) (by decide) (by decide +kernel) rfl (fun l2 => ?_)
  refine x_cP (t := 6) (mj := 87) (n := 2) (rc := 9) (ml := 4) (nr := 1) (np := 12) (as := [x_r (h 69 6), iv_c (h 69 7)]) (rest := [x_r 69]) (lo1 := [x_r (h 69 6), iv_c (h 69 7), 147573952589676412928, 147573952589676412928]) (by decide +kernel) (by decide) (by decide +kernel) (x_rb_of (tr_0_9 t1)) rfl rfl (x_wr (tn_0 t1) (x_wi l2 x_wn)) (x_wr (by decide) x_wn) (by decide) rfl (c87_T0 hJ t1 (by first | decide | omega)) (fun v3 l4 q5 => ?_)
  refine x_putI (np := 15) (x := 338) (f := 18) (by decide +kernel) (by decide +kernel) l4 (Or.inl (by decide)) ?_
  have j7 := jU (e := 18) (v := v3) 0 hJ rg_69_18_0_1 (by first | decide | omega) (by first | decide | omega) (by first | decide | omega)
  have f9 := jF (e := 18) (v := v3) 0 hF rg_69_18_0_1 (by first | decide | omega) (by first | decide | omega) (by decide)
  generalize e8 : x_up h 69 18 v3 = h6 at j7 f9 ⊢
  refine x_const (np := 16) (x := 9223372039002259456) (a := 2147483648) (by decide +kernel) (by decide) (by decide) ?_
  refine x_istore (np := 17) (x := 1) (lo' := [x_r 69, iv_c 2147483648, 147573952589676412928]) (by decide +kernel) (by decide) (Nat.le_of_ble_eq_true rfl) rfl ?_
  have p6818 : ∀ (n : Nat) (v6812 : Nat) (w6814 : Nat) (h6815 : xh), 4294967296 - v6812 < n → (2147483648 ≤ v6812 ∧ v6812 ≤ 2147483654) → J h6815 → Fr 65536 h6 h6815 → X sc 62 (d + 2) (xV fun h' => J h' ∧ Fr 65537 h h') 0 0 17 [x_r 69, iv_c v6812, w6814] [] h6815 := by
    intro n
    induction n with
    | zero => intro v6812 w6814 h6815 q6819; exact absurd q6819 (Nat.not_lt_zero _)
    | succ n i6820 =>
      intro v6812 w6814 h6815 q6819 b6813 j6817 f6816
      have f6821 := Fr.trans f9 f6816 (by decide)
      refine x_iload (np := 18) (x := 1) (by decide +kernel) rfl (by first | decide | omega) ?_
      refine x_const (np := 20) (x := 9223372064772063238) (a := 2147483654) (by decide +kernel) (by decide) (by decide) ?_
      refine x_icmp (k := 3) (tg := 108) (np := 23) (by decide +kernel) (by decide) (by first | decide | omega) (by decide) (fun q6822 => ?_) (fun q6823 => ?_)
      · have q6822 : 2147483654 ≤ v6812 := q6822
        refine x_retV (np := 109) (x := 0) (by decide +kernel) (by decide +kernel) ⟨rfl, ?_⟩
        exact ⟨j6817, f6821⟩
      have q6823 : ¬ (2147483654 ≤ v6812) := q6823
      refine x_aload (np := 24) (x := 0) (by decide +kernel) rfl (x_nc_le (by decide)) ?_
      have q6824 : h6815 69 1 = 71 := by have z := jB (e := 1) 0 j6817 rg_69_1_0_1 (by decide) (by decide); omega
      refine x_getR (np := 27) (x := 769) (f := 1) (q := 71) (by decide +kernel) (by decide) (by decide +kernel) q6824 ?_
      refine x_iload (np := 28) (x := 1) (by decide +kernel) rfl (by first | decide | omega) ?_
      refine x_const (np := 29) (x := 9223372039002259456) (a := 2147483648) (by decide +kernel) (by decide) (by decide) ?_
      obtain ⟨u6825, q6826⟩ : ∃ z, v6812 = 2147483648 + z := ⟨v6812 - 2147483648, by first | decide | omega⟩
      refine x_ast (np := 30) (x := 0) (kd := 1) (n := 6) (i := u6825) (by decide +kernel) (Or.inl rfl) (by decide +kernel) (by first | decide | omega) (by first | decide | omega) (by decide) (by decide) (fun z => absurd z (by decide)) ?_
      have j6828 := jU (e := u6825) (v := 2147483648) u6825 j6817 rg_71_0_1_6 (by first | decide | omega) (by first | decide | omega) (by first | decide | omega)
      have f6830 := jF (e := u6825) (v := 2147483648) u6825 f6821 rg_71_0_1_6 (by first | decide | omega) (by first | decide | omega) (by decide)
      have f6831 := jF (e := u6825) (v := 2147483648) u6825 f6816 rg_71_0_1_6 (by first | decide | omega) (by first | decide | omega) (by decide)
      generalize e6829 : x_up h6815 71 u6825 2147483648 = h6827 at j6828 f6830 f6831 ⊢
      refine x_const (np := 31) (x := 9223372039002259456) (a := 2147483648) (by decide +kernel) (by decide) (by decide) ?_
      refine x_istore (np := 32) (x := 2) (lo' := [x_r 69, iv_c v6812, iv_c 2147483648]) (by decide +kernel) (by decide) (Nat.le_of_ble_eq_true rfl) rfl ?_
      have p7854 : ∀ (n : Nat) (v7849 : Nat) (h7851 : xh), 4294967296 - v7849 < n → (2147483648 ≤ v7849 ∧ v7849 ≤ 2147483658) → J h7851 → Fr 65536 h6827 h7851 → X sc 62 (d + 2) (xV fun h' => J h' ∧ Fr 65537 h h') 0 0 32 [x_r 69, iv_c v6812, iv_c v7849] [] h7851 := by
        intro n
        induction n with
        | zero => intro v7849 h7851 q7855; exact absurd q7855 (Nat.not_lt_zero _)
        | succ n i7856 =>
          intro v7849 h7851 q7855 b7850 j7853 f7852
          have f7857 := Fr.trans f6830 f7852 (by decide)
          have f7858 := Fr.trans f6831 f7852 (by decide)
          refine x_iload (np := 33) (x := 2) (by decide +kernel) rfl (by first | decide | omega) ?_
          refine x_aload (np := 34) (x := 0) (by decide +kernel) rfl (x_nc_le (by decide)) ?_
          have t7859 : tw (h7851 69 6) := j7853.2.2.2.2.2.2.1
          refine x_getR (np := 37) (x := 774) (f := 6) (q := (h7851 69 6)) (by decide +kernel) (by decide) (by decide +kernel) rfl ?_
          have q7860 : h7851 (h7851 69 6) 3 = ((h7851 69 6) + 7) := tf_0_3 j7853 t7859
          refine x_getR (np := 40) (x := 515) (f := 3) (q := ((h7851 69 6) + 7)) (by decide +kernel) (by decide) (tg_0_515_3_1 t7859) q7860 ?_
          have q7861 : h7851 ((h7851 69 6) + 7) 2 = h6827 ((h7851 69 6) + 7) 2 := jK 0 f7852 (rg_T7_2_0_1 t7859) (by first | decide | omega) (by first | decide | omega) (by decide)
          have q7862 : h6827 ((h7851 69 6) + 7) 2 = h6815 ((h7851 69 6) + 7) 2 := by rw [← e6829]; exact x_up_k (tne_7_71 t7859)
          have q7863 : h6815 ((h7851 69 6) + 7) 2 = h6 ((h7851 69 6) + 7) 2 := jK 0 f6816 (rg_T7_2_0_1 t7859) (by first | decide | omega) (by first | decide | omega) (by decide)
          have q7864 : h6 ((h7851 69 6) + 7) 2 = h ((h7851 69 6) + 7) 2 := by rw [← e8]; exact x_up_k (tne_7_69 t7859)
          have b7865 := jB (e := 2) 0 hJ (rg_T7_2_0_1 t7859) (by first | decide | omega) (by first | decide | omega)
          refine x_getC (np := 43) (x := 386) (f := 2) (q := (h ((h7851 69 6) + 7) 2)) (by decide +kernel) (by decide) (tg_7_386_2_0 t7859) (((q7861.trans q7862).trans q7863).trans q7864) (fun l7866 => ?_)
          refine x_icmp (k := 3) (tg := 102) (np := 46) (by decide +kernel) (by decide) (by first | decide | omega) l7866 (fun q7867 => ?_) (fun q7868 => ?_)
          · have q7867 : (h ((h7851 69 6) + 7) 2) ≤ v7849 := q7867
            refine x_iinc (np := 105) (i := 1) (j := 2147483649) (v := (1 + v6812)) (lo' := [x_r 69, iv_c (1 + v6812), iv_c v7849]) (by decide +kernel) (by decide) (by decide) rfl (by first | decide | omega) (by first | decide | omega) (by first | decide | omega) rfl ?_
            refine x_goto (np := 108) (x := 17) (by decide +kernel) ?_
            exact i6820 (1 + v6812) (iv_c v7849) h7851 (by first | decide | omega) (by first | decide | omega) j7853 f7858
          have q7868 : ¬ ((h ((h7851 69 6) + 7) 2) ≤ v7849) := q7868
          refine x_aload (np := 47) (x := 0) (by decide +kernel) rfl (x_nc_le (by decide)) ?_
          refine x_getC (np := 50) (x := 338) (f := 18) (q := (h7851 69 18)) (by decide +kernel) (by decide) (by decide +kernel) rfl (fun l7869 => ?_)
          refine x_iload (np := 51) (x := 2) (by decide +kernel) rfl (by first | decide | omega) ?_
          refine x_cP (t := 7) (mj := 148) (n := 2) (rc := 0) (ml := 2) (nr := 0) (np := 54) (as := [iv_c (h7851 69 18), iv_c v7849]) (rest := []) (lo1 := [iv_c (h7851 69 18), iv_c v7849]) (by decide +kernel) (by decide) (by decide +kernel) (Or.inl rfl) rfl rfl (x_wi l7869 (x_wi (by first | decide | omega) x_wn)) x_wn (by decide) rfl (c148 j7853 (by first | decide | omega) (by first | decide | omega)) (fun v7870 l7871 q7872 => ?_)
          refine x_ifz (k := 0) (tg := 96) (np := 57) (by decide +kernel) (by decide) l7871 (fun q7873 => ?_) (fun q7874 => ?_)
          · have q7873 : v7870 = 2147483648 := q7873
            refine x_iinc (np := 99) (i := 2) (j := 2147483649) (v := (1 + v7849)) (lo' := [x_r 69, iv_c v6812, iv_c (1 + v7849)]) (by decide +kernel) (by decide) (by decide) rfl (by first | decide | omega) (by first | decide | omega) (by first | decide | omega) rfl ?_
            refine x_goto (np := 102) (x := 32) (by decide +kernel) ?_
            exact i7856 (1 + v7849) h7851 (by first | decide | omega) (by first | decide | omega) j7853 f7852
          have q7874 : ¬ (v7870 = 2147483648) := q7874
          refine x_aload (np := 58) (x := 0) (by decide +kernel) rfl (x_nc_le (by decide)) ?_
          refine x_getR (np := 61) (x := 774) (f := 6) (q := (h7851 69 6)) (by decide +kernel) (by decide) (by decide +kernel) rfl ?_
          have q7875 : h7851 (h7851 69 6) 3 = ((h7851 69 6) + 7) := tf_0_3 j7853 t7859
          refine x_getR (np := 64) (x := 515) (f := 3) (q := ((h7851 69 6) + 7)) (by decide +kernel) (by decide) (tg_0_515_3_1 t7859) q7875 ?_
          refine x_iload (np := 65) (x := 2) (by decide +kernel) rfl (by first | decide | omega) ?_
          refine x_const (np := 66) (x := 9223372039002259456) (a := 2147483648) (by decide +kernel) (by decide) (by decide) ?_
          refine x_nI (t := 6) (mj := 68) (n := 3) (rc := 7) (ml := 4) (nr := 0) (np := 69) (as := [x_r ((h7851 69 6) + 7), iv_c v7849, iv_c 2147483648]) (rest := []) (lo1 := [x_r ((h7851 69 6) + 7), iv_c v7849, iv_c 2147483648, 147573952589676412928]) (by decide +kernel) (by decide) (by decide +kernel) (x_rb_of (tr_7_7 t7859)) rfl rfl (x_wr (tn_7 t7859) (x_wi (by first | decide | omega) (x_wi (by decide) x_wn))) x_wn (by decide) rfl ?_
          refine x_iload (np := 1) (x := 1) (by decide +kernel) rfl (by first | decide | omega) ?_
          refine x_ifz (k := 2) (tg := 28) (np := 4) (by decide +kernel) (by decide) (by first | decide | omega) (fun q7880 => ?_) (fun q7881 => ?_)
          · have q7880 : v7849 < 2147483648 := q7880
            exfalso; omega
          have q7881 : ¬ (v7849 < 2147483648) := q7881
          refine x_iload (np := 5) (x := 1) (by decide +kernel) rfl (by first | decide | omega) ?_
          refine x_aload (np := 6) (x := 0) (by decide +kernel) rfl (x_nc_le (tn_7 t7859)) ?_
          have q7882 : h7851 ((h7851 69 6) + 7) 2 = h6827 ((h7851 69 6) + 7) 2 := jK 0 f7852 (rg_T7_2_0_1 t7859) (by first | decide | omega) (by first | decide | omega) (by decide)
          have q7883 : h6827 ((h7851 69 6) + 7) 2 = h6815 ((h7851 69 6) + 7) 2 := by rw [← e6829]; exact x_up_k (tne_7_71 t7859)
          have q7884 : h6815 ((h7851 69 6) + 7) 2 = h6 ((h7851 69 6) + 7) 2 := jK 0 f6816 (rg_T7_2_0_1 t7859) (by first | decide | omega) (by first | decide | omega) (by decide)
          have q7885 : h6 ((h7851 69 6) + 7) 2 = h ((h7851 69 6) + 7) 2 := by rw [← e8]; exact x_up_k (tne_7_69 t7859)
          refine x_getC (np := 9) (x := 386) (f := 2) (q := (h ((h7851 69 6) + 7) 2)) (by decide +kernel) (by decide) (tg_7_386_2_0 t7859) (((q7882.trans q7883).trans q7884).trans q7885) (fun l7886 => ?_)
          refine x_icmp (k := 3) (tg := 28) (np := 12) (by decide +kernel) (by decide) (by first | decide | omega) l7866 (fun q7887 => ?_) (fun q7888 => ?_)
          · have q7887 : (h ((h7851 69 6) + 7) 2) ≤ v7849 := q7887
            exfalso; omega
          have q7888 : ¬ ((h ((h7851 69 6) + 7) 2) ≤ v7849) := q7888
          refine x_iload (np := 13) (x := 2) (by decide +kernel) rfl (by decide) ?_
          refine x_ifz (k := 2) (tg := 28) (np := 16) (by decide +kernel) (by decide) (by decide) (fun q7889 => ?_) (fun q7890 => ?_)
          · have q7889 : 2147483648 < 2147483648 := q7889
            exfalso; omega
          have q7890 : ¬ (2147483648 < 2147483648) := q7890
          refine x_iload (np := 17) (x := 2) (by decide +kernel) rfl (by decide) ?_
          refine x_aload (np := 18) (x := 0) (by decide +kernel) rfl (x_nc_le (tn_7 t7859)) ?_
          have q7891 : h7851 ((h7851 69 6) + 7) 0 = h6827 ((h7851 69 6) + 7) 0 := jK 0 f7852 (rg_T7_0_0_1 t7859) (by first | decide | omega) (by first | decide | omega) (by decide)
          have q7892 : h6827 ((h7851 69 6) + 7) 0 = h6815 ((h7851 69 6) + 7) 0 := by rw [← e6829]; exact x_up_k (tne_7_71 t7859)
          have q7893 : h6815 ((h7851 69 6) + 7) 0 = h6 ((h7851 69 6) + 7) 0 := jK 0 f6816 (rg_T7_0_0_1 t7859) (by first | decide | omega) (by first | decide | omega) (by decide)
          have q7894 : h6 ((h7851 69 6) + 7) 0 = h ((h7851 69 6) + 7) 0 := by rw [← e8]; exact x_up_k (tne_7_69 t7859)
          have b7895 := jB (e := 0) 0 hJ (rg_T7_0_0_1 t7859) (by first | decide | omega) (by first | decide | omega)
          have q7896 : (h ((h7851 69 6) + 7) 0) = 2147483652 := by first | decide | omega
          refine x_getC (np := 21) (x := 384) (f := 0) (q := 2147483652) (by decide +kernel) (by decide) (tg_7_384_0_0 t7859) ((((q7891.trans q7892).trans q7893).trans q7894).trans q7896) (fun l7897 => ?_)
          refine x_icmp (k := 3) (tg := 28) (np := 24) (by decide +kernel) (by decide) (by decide) (by decide) (fun q7898 => ?_) (fun q7899 => ?_)
          · have q7898 : 2147483652 ≤ 2147483648 := q7898
            exfalso; omega
          have q7899 : ¬ (2147483652 ≤ 2147483648) := q7899
          refine x_const (np := 25) (x := 9223372043297226753) (a := 2147483649) (by decide +kernel) (by decide) (by decide) ?_
          refine x_goto (np := 28) (x := 29) (by decide +kernel) ?_
          refine x_istore (np := 30) (x := 3) (lo' := [x_r ((h7851 69 6) + 7), iv_c v7849, iv_c 2147483648, iv_c 2147483649]) (by decide +kernel) (by decide) (Nat.le_of_ble_eq_true rfl) rfl ?_
          refine x_iload (np := 31) (x := 3) (by decide +kernel) rfl (by decide) ?_
          refine x_ifz (k := 0) (tg := 50) (np := 34) (by decide +kernel) (by decide) (by decide) (fun q7900 => ?_) (fun q7901 => ?_)
          · have q7900 : 2147483649 = 2147483648 := q7900
            exfalso; omega
          have q7901 : ¬ (2147483649 = 2147483648) := q7901
          refine x_aload (np := 35) (x := 0) (by decide +kernel) rfl (x_nc_le (tn_7 t7859)) ?_
          have q7902 : h7851 ((h7851 69 6) + 7) 1 = ((h7851 69 6) + 8) := tf_7_1 j7853 t7859
          refine x_getR (np := 38) (x := 385) (f := 1) (q := ((h7851 69 6) + 8)) (by decide +kernel) (by decide) (tg_7_385_1_1 t7859) q7902 ?_
          refine x_iload (np := 39) (x := 1) (by decide +kernel) rfl (by first | decide | omega) ?_
          refine x_aload (np := 40) (x := 0) (by decide +kernel) rfl (x_nc_le (tn_7 t7859)) ?_
          have q7903 : h7851 ((h7851 69 6) + 7) 0 = h6827 ((h7851 69 6) + 7) 0 := jK 0 f7852 (rg_T7_0_0_1 t7859) (by first | decide | omega) (by first | decide | omega) (by decide)
          have q7904 : h6827 ((h7851 69 6) + 7) 0 = h6815 ((h7851 69 6) + 7) 0 := by rw [← e6829]; exact x_up_k (tne_7_71 t7859)
          have q7905 : h6815 ((h7851 69 6) + 7) 0 = h6 ((h7851 69 6) + 7) 0 := jK 0 f6816 (rg_T7_0_0_1 t7859) (by first | decide | omega) (by first | decide | omega) (by decide)
          have q7906 : h6 ((h7851 69 6) + 7) 0 = h ((h7851 69 6) + 7) 0 := by rw [← e8]; exact x_up_k (tne_7_69 t7859)
          refine x_getC (np := 43) (x := 384) (f := 0) (q := 2147483652) (by decide +kernel) (by decide) (tg_7_384_0_0 t7859) ((((q7903.trans q7904).trans q7905).trans q7906).trans q7896) (fun l7907 => ?_)
          obtain ⟨u7908, q7909⟩ : ∃ z, v7849 = 2147483648 + z := ⟨v7849 - 2147483648, by first | decide | omega⟩
          refine x_imul (np := 44) (x := 0) (i := u7908) (j := 4) (v := (2147483648 + 4 * u7908)) (by decide +kernel) (by first | decide | omega) (by first | decide | omega) (by first | decide | omega) (by first | decide | omega) (by first | decide | omega) (by decide) ?_
          refine x_iload (np := 45) (x := 2) (by decide +kernel) rfl (by decide) ?_
          refine x_iadd (np := 46) (x := 0) (v := (2147483648 + 4 * u7908)) (by decide +kernel) (by first | decide | omega) (by decide) (by first | decide | omega) (by first | decide | omega) ?_
          have q7911 : h7851 ((h7851 69 6) + 8) (4 * u7908) = h6827 ((h7851 69 6) + 8) (4 * u7908) := jK u7908 f7852 (rg_T8_0_4_10 t7859) (by first | decide | omega) (by first | decide | omega) (by decide)
          have q7912 : h6827 ((h7851 69 6) + 8) (4 * u7908) = h6815 ((h7851 69 6) + 8) (4 * u7908) := by rw [← e6829]; exact x_up_k (tne_8_71 t7859)
          have q7913 : h6815 ((h7851 69 6) + 8) (4 * u7908) = h6 ((h7851 69 6) + 8) (4 * u7908) := jK u7908 f6816 (rg_T8_0_4_10 t7859) (by first | decide | omega) (by first | decide | omega) (by decide)
          have q7914 : h6 ((h7851 69 6) + 8) (4 * u7908) = h ((h7851 69 6) + 8) (4 * u7908) := by rw [← e8]; exact x_up_k (tne_8_69 t7859)
          have b7915 := jB (e := (4 * u7908)) u7908 hJ (rg_T8_0_4_10 t7859) (by first | decide | omega) (by first | decide | omega)
          refine x_aldC (np := 47) (x := 0) (n := 40) (i := (4 * u7908)) (q := ((h ((h7851 69 6) + 8) (4 * u7908)))) (by decide +kernel) (ta_8_40 t7859) (by first | decide | omega) (by first | decide | omega) (by decide) (((q7911.trans q7912).trans q7913).trans q7914) (fun l7916 => ?_)
          refine x_goto (np := 50) (x := 51) (by decide +kernel) ?_
          refine x_retI (np := 52) (x := 0) (by decide +kernel) l7916 (Or.inl (by decide +kernel)) ⟨_, rfl, l7916, ?_⟩
          refine x_iload (np := 70) (x := 1) (by decide +kernel) rfl (by first | decide | omega) ?_
          refine x_icmp (k := 1) (tg := 96) (np := 73) (by decide +kernel) (by decide) l7916 (by first | decide | omega) (fun q7917 => ?_) (fun q7918 => ?_)
          · have q7917 : ((h ((h7851 69 6) + 8) (4 * u7908))) ≠ v6812 := q7917
            refine x_iinc (np := 99) (i := 2) (j := 2147483649) (v := (1 + v7849)) (lo' := [x_r 69, iv_c v6812, iv_c (1 + v7849)]) (by decide +kernel) (by decide) (by decide) rfl (by first | decide | omega) (by first | decide | omega) (by first | decide | omega) rfl ?_
            refine x_goto (np := 102) (x := 32) (by decide +kernel) ?_
            exact i7856 (1 + v7849) h7851 (by first | decide | omega) (by first | decide | omega) j7853 f7852
          have q7918 : ¬ (((h ((h7851 69 6) + 8) (4 * u7908))) ≠ v6812) := q7918
          refine x_aload (np := 74) (x := 0) (by decide +kernel) rfl (x_nc_le (by decide)) ?_
          have q7919 : h7851 69 1 = 71 := by have z := jB (e := 1) 0 j7853 rg_69_1_0_1 (by decide) (by decide); omega
          refine x_getR (np := 77) (x := 769) (f := 1) (q := 71) (by decide +kernel) (by decide) (by decide +kernel) q7919 ?_
          refine x_iload (np := 78) (x := 1) (by decide +kernel) rfl (by first | decide | omega) ?_
          refine x_dup2 (np := 79) (x := 0) (by decide +kernel) (by have z := (iw_c_lt (a := v6812) (by first | decide | omega)).1; omega) (by have z := x_nc_le (k := 71) (by decide); unfold x_r; omega) ?_
          refine x_aldC (np := 80) (x := 0) (n := 6) (i := u6825) (q := (h7851 71 u6825)) (by decide +kernel) (by decide +kernel) (by first | decide | omega) (by first | decide | omega) (by decide) rfl (fun l7920 => ?_)
          refine x_const (np := 81) (x := 9223372043297226753) (a := 2147483649) (by decide +kernel) (by decide) (by decide) ?_
          refine x_aload (np := 82) (x := 0) (by decide +kernel) rfl (x_nc_le (by decide)) ?_
          refine x_getR (np := 85) (x := 774) (f := 6) (q := (h7851 69 6)) (by decide +kernel) (by decide) (by decide +kernel) rfl ?_
          have q7921 : h7851 (h7851 69 6) 3 = ((h7851 69 6) + 7) := tf_0_3 j7853 t7859
          refine x_getR (np := 88) (x := 515) (f := 3) (q := ((h7851 69 6) + 7)) (by decide +kernel) (by decide) (tg_0_515_3_1 t7859) q7921 ?_
          refine x_iload (np := 89) (x := 2) (by decide +kernel) rfl (by first | decide | omega) ?_
          refine x_const (np := 90) (x := 9223372043297226753) (a := 2147483649) (by decide +kernel) (by decide) (by decide) ?_
          refine x_nI (t := 6) (mj := 68) (n := 3) (rc := 7) (ml := 4) (nr := 4) (np := 93) (as := [x_r ((h7851 69 6) + 7), iv_c v7849, iv_c 2147483649]) (rest := [iv_c 2147483649, iv_c (h7851 71 u6825), iv_c v6812, x_r 71]) (lo1 := [x_r ((h7851 69 6) + 7), iv_c v7849, iv_c 2147483649, 147573952589676412928]) (by decide +kernel) (by decide) (by decide +kernel) (x_rb_of (tr_7_7 t7859)) rfl rfl (x_wr (tn_7 t7859) (x_wi (by first | decide | omega) (x_wi (by decide) x_wn))) (x_wi (by decide) (x_wi l7920 (x_wi (by first | decide | omega) (x_wr (by decide) x_wn)))) (by decide) rfl ?_
          refine x_iload (np := 1) (x := 1) (by decide +kernel) rfl (by first | decide | omega) ?_
          refine x_ifz (k := 2) (tg := 28) (np := 4) (by decide +kernel) (by decide) (by first | decide | omega) (fun q7926 => ?_) (fun q7927 => ?_)
          · have q7926 : v7849 < 2147483648 := q7926
            exfalso; omega
          have q7927 : ¬ (v7849 < 2147483648) := q7927
          refine x_iload (np := 5) (x := 1) (by decide +kernel) rfl (by first | decide | omega) ?_
          refine x_aload (np := 6) (x := 0) (by decide +kernel) rfl (x_nc_le (tn_7 t7859)) ?_
          have q7928 : h7851 ((h7851 69 6) + 7) 2 = h6827 ((h7851 69 6) + 7) 2 := jK 0 f7852 (rg_T7_2_0_1 t7859) (by first | decide | omega) (by first | decide | omega) (by decide)
          have q7929 : h6827 ((h7851 69 6) + 7) 2 = h6815 ((h7851 69 6) + 7) 2 := by rw [← e6829]; exact x_up_k (tne_7_71 t7859)
          have q7930 : h6815 ((h7851 69 6) + 7) 2 = h6 ((h7851 69 6) + 7) 2 := jK 0 f6816 (rg_T7_2_0_1 t7859) (by first | decide | omega) (by first | decide | omega) (by decide)
          have q7931 : h6 ((h7851 69 6) + 7) 2 = h ((h7851 69 6) + 7) 2 := by rw [← e8]; exact x_up_k (tne_7_69 t7859)
          refine x_getC (np := 9) (x := 386) (f := 2) (q := (h ((h7851 69 6) + 7) 2)) (by decide +kernel) (by decide) (tg_7_386_2_0 t7859) (((q7928.trans q7929).trans q7930).trans q7931) (fun l7932 => ?_)
          refine x_icmp (k := 3) (tg := 28) (np := 12) (by decide +kernel) (by decide) (by first | decide | omega) l7866 (fun q7933 => ?_) (fun q7934 => ?_)
          · have q7933 : (h ((h7851 69 6) + 7) 2) ≤ v7849 := q7933
            exfalso; omega
          have q7934 : ¬ ((h ((h7851 69 6) + 7) 2) ≤ v7849) := q7934
          refine x_iload (np := 13) (x := 2) (by decide +kernel) rfl (by decide) ?_
          refine x_ifz (k := 2) (tg := 28) (np := 16) (by decide +kernel) (by decide) (by decide) (fun q7935 => ?_) (fun q7936 => ?_)
          · have q7935 : 2147483649 < 2147483648 := q7935
            exfalso; omega
          have q7936 : ¬ (2147483649 < 2147483648) := q7936
          refine x_iload (np := 17) (x := 2) (by decide +kernel) rfl (by decide) ?_
          refine x_aload (np := 18) (x := 0) (by decide +kernel) rfl (x_nc_le (tn_7 t7859)) ?_
          have q7937 : h7851 ((h7851 69 6) + 7) 0 = h6827 ((h7851 69 6) + 7) 0 := jK 0 f7852 (rg_T7_0_0_1 t7859) (by first | decide | omega) (by first | decide | omega) (by decide)
          have q7938 : h6827 ((h7851 69 6) + 7) 0 = h6815 ((h7851 69 6) + 7) 0 := by rw [← e6829]; exact x_up_k (tne_7_71 t7859)
          have q7939 : h6815 ((h7851 69 6) + 7) 0 = h6 ((h7851 69 6) + 7) 0 := jK 0 f6816 (rg_T7_0_0_1 t7859) (by first | decide | omega) (by first | decide | omega) (by decide)
          have q7940 : h6 ((h7851 69 6) + 7) 0 = h ((h7851 69 6) + 7) 0 := by rw [← e8]; exact x_up_k (tne_7_69 t7859)
          refine x_getC (np := 21) (x := 384) (f := 0) (q := 2147483652) (by decide +kernel) (by decide) (tg_7_384_0_0 t7859) ((((q7937.trans q7938).trans q7939).trans q7940).trans q7896) (fun l7941 => ?_)
          refine x_icmp (k := 3) (tg := 28) (np := 24) (by decide +kernel) (by decide) (by decide) (by decide) (fun q7942 => ?_) (fun q7943 => ?_)
          · have q7942 : 2147483652 ≤ 2147483649 := q7942
            exfalso; omega
          have q7943 : ¬ (2147483652 ≤ 2147483649) := q7943
          refine x_const (np := 25) (x := 9223372043297226753) (a := 2147483649) (by decide +kernel) (by decide) (by decide) ?_
          refine x_goto (np := 28) (x := 29) (by decide +kernel) ?_
          refine x_istore (np := 30) (x := 3) (lo' := [x_r ((h7851 69 6) + 7), iv_c v7849, iv_c 2147483649, iv_c 2147483649]) (by decide +kernel) (by decide) (Nat.le_of_ble_eq_true rfl) rfl ?_
          refine x_iload (np := 31) (x := 3) (by decide +kernel) rfl (by decide) ?_
          refine x_ifz (k := 0) (tg := 50) (np := 34) (by decide +kernel) (by decide) (by decide) (fun q7944 => ?_) (fun q7945 => ?_)
          · have q7944 : 2147483649 = 2147483648 := q7944
            exfalso; omega
          have q7945 : ¬ (2147483649 = 2147483648) := q7945
          refine x_aload (np := 35) (x := 0) (by decide +kernel) rfl (x_nc_le (tn_7 t7859)) ?_
          have q7946 : h7851 ((h7851 69 6) + 7) 1 = ((h7851 69 6) + 8) := tf_7_1 j7853 t7859
          refine x_getR (np := 38) (x := 385) (f := 1) (q := ((h7851 69 6) + 8)) (by decide +kernel) (by decide) (tg_7_385_1_1 t7859) q7946 ?_
          refine x_iload (np := 39) (x := 1) (by decide +kernel) rfl (by first | decide | omega) ?_
          refine x_aload (np := 40) (x := 0) (by decide +kernel) rfl (x_nc_le (tn_7 t7859)) ?_
          have q7947 : h7851 ((h7851 69 6) + 7) 0 = h6827 ((h7851 69 6) + 7) 0 := jK 0 f7852 (rg_T7_0_0_1 t7859) (by first | decide | omega) (by first | decide | omega) (by decide)
          have q7948 : h6827 ((h7851 69 6) + 7) 0 = h6815 ((h7851 69 6) + 7) 0 := by rw [← e6829]; exact x_up_k (tne_7_71 t7859)
          have q7949 : h6815 ((h7851 69 6) + 7) 0 = h6 ((h7851 69 6) + 7) 0 := jK 0 f6816 (rg_T7_0_0_1 t7859) (by first | decide | omega) (by first | decide | omega) (by decide)
          have q7950 : h6 ((h7851 69 6) + 7) 0 = h ((h7851 69 6) + 7) 0 := by rw [← e8]; exact x_up_k (tne_7_69 t7859)
          refine x_getC (np := 43) (x := 384) (f := 0) (q := 2147483652) (by decide +kernel) (by decide) (tg_7_384_0_0 t7859) ((((q7947.trans q7948).trans q7949).trans q7950).trans q7896) (fun l7951 => ?_)
          refine x_imul (np := 44) (x := 0) (i := u7908) (j := 4) (v := (2147483648 + 4 * u7908)) (by decide +kernel) (by first | decide | omega) (by first | decide | omega) (by first | decide | omega) (by first | decide | omega) (by first | decide | omega) (by decide) ?_
          refine x_iload (np := 45) (x := 2) (by decide +kernel) rfl (by decide) ?_
          refine x_iadd (np := 46) (x := 0) (v := (2147483649 + 4 * u7908)) (by decide +kernel) (by first | decide | omega) (by decide) (by first | decide | omega) (by first | decide | omega) ?_
          have q7953 : h7851 ((h7851 69 6) + 8) (1 + 4 * u7908) = h6827 ((h7851 69 6) + 8) (1 + 4 * u7908) := jK u7908 f7852 (rg_T8_1_4_10 t7859) (by first | decide | omega) (by first | decide | omega) (by decide)
          have q7954 : h6827 ((h7851 69 6) + 8) (1 + 4 * u7908) = h6815 ((h7851 69 6) + 8) (1 + 4 * u7908) := by rw [← e6829]; exact x_up_k (tne_8_71 t7859)
          have q7955 : h6815 ((h7851 69 6) + 8) (1 + 4 * u7908) = h6 ((h7851 69 6) + 8) (1 + 4 * u7908) := jK u7908 f6816 (rg_T8_1_4_10 t7859) (by first | decide | omega) (by first | decide | omega) (by decide)
          have q7956 : h6 ((h7851 69 6) + 8) (1 + 4 * u7908) = h ((h7851 69 6) + 8) (1 + 4 * u7908) := by rw [← e8]; exact x_up_k (tne_8_69 t7859)
          refine x_aldC (np := 47) (x := 0) (n := 40) (i := (1 + 4 * u7908)) (q := ((h ((h7851 69 6) + 8) (1 + 4 * u7908)))) (by decide +kernel) (ta_8_40 t7859) (by first | decide | omega) (by first | decide | omega) (by decide) (((q7953.trans q7954).trans q7955).trans q7956) (fun l7957 => ?_)
          refine x_goto (np := 50) (x := 51) (by decide +kernel) ?_
          refine x_retI (np := 52) (x := 0) (by decide +kernel) l7957 (Or.inl (by decide +kernel)) ⟨_, rfl, l7957, ?_⟩
          refine x_any (np := 94) (k9 := 3) (by decide +kernel) (by decide) (by decide) l7957 (fun v7958 l7959 => ?_)
          refine x_any (np := 95) (k9 := 1) (by decide +kernel) (by decide) l7920 l7959 (fun v7960 l7961 => ?_)
          refine x_ast (np := 96) (x := 0) (kd := 1) (n := 6) (i := u6825) (by decide +kernel) (Or.inl rfl) (by decide +kernel) (by first | decide | omega) (by first | decide | omega) (by decide) l7961 (fun z => absurd z (by decide)) ?_
          have j7963 := jU (e := u6825) (v := v7960) u6825 j7853 rg_71_0_1_6 (by first | decide | omega) (by first | decide | omega) (by first | decide | omega)
          have f7965 := jF (e := u6825) (v := v7960) u6825 f7857 rg_71_0_1_6 (by first | decide | omega) (by first | decide | omega) (by decide)
          have f7966 := jF (e := u6825) (v := v7960) u6825 f7858 rg_71_0_1_6 (by first | decide | omega) (by first | decide | omega) (by decide)
          have f7967 := jF (e := u6825) (v := v7960) u6825 f7852 rg_71_0_1_6 (by first | decide | omega) (by first | decide | omega) (by decide)
          generalize e7964 : x_up h7851 71 u6825 v7960 = h7962 at j7963 f7965 f7966 f7967 ⊢
          refine x_iinc (np := 99) (i := 2) (j := 2147483649) (v := (1 + v7849)) (lo' := [x_r 69, iv_c v6812, iv_c (1 + v7849)]) (by decide +kernel) (by decide) (by decide) rfl (by first | decide | omega) (by first | decide | omega) (by first | decide | omega) rfl ?_
          refine x_goto (np := 102) (x := 32) (by decide +kernel) ?_
          exact i7856 (1 + v7849) h7962 (by first | decide | omega) (by first | decide | omega) j7963 f7967
      exact p7854 _ 2147483648 h6827 (Nat.lt_succ_self _) (by first | decide | omega) j6828 (Fr.refl _ _)
  exact p6818 _ 2147483648 147573952589676412928 h6 (Nat.lt_succ_self _) (by first | decide | omega) j7 (Fr.refl _ _)
set_option maxHeartbeats 0 in
/-- LentNames$SecretSearch.isMet(I)Z -/
theorem c64_69 {sc : Nat × Nat} {d a1 : Nat} {h : xh} (hJ : J h) (ba1 : 2147483648 ≤ a1 ∧ a1 ≤ 2147483657) (hr0 : a1 < (h ((h 69 6) + 7) 2)) : X sc 64 (d + 1) (xI fun r h' => h' = h ∧ (2147483648 ≤ r ∧ r ≤ 2147483649)) 0 0 0 [x_r 69, iv_c a1, 147573952589676412928, 147573952589676412928, 147573952589676412928] [] h := by
  have la1 : a1 < 4294967296 := by first | decide | omega
  have t1 : tw (h 69 6) := hJ.2.2.2.2.2.2.1
  have b2 := jB (e := 2) 0 hJ (rg_T7_2_0_1 t1) (by first | decide | omega) (by first | decide | omega)
  refine x_aload (np := 1) (x := 0) (by decide +kernel) rfl (x_nc_le (by decide)) ?_
  refine x_getR (np := 4) (x := 774) (f := 6) (q := (h 69 6)) (by decide +kernel) (by decide) (by decide +kernel) rfl ?_
  have q3 : h (h 69 6) 3 = ((h 69 6) + 7) := tf_0_3 hJ t1
  refine x_getR (np := 7) (x := 515) (f := 3) (q := ((h 69 6) + 7)) (by decide +kernel) (by decide) (tg_0_515_3_1 t1) q3 ?_
  refine x_iload (np := 8) (x := 1) (by decide +kernel) rfl la1 ?_
  refine x_const (np := 9) (x := 9223372039002259456) (a := 2147483648) (by decide +kernel) (by decide) (by decide) ?_
  refine x_nI (t := 6) (mj := 68) (n := 3) (rc := 7) (ml := 4) (nr := 0) (np := 12) (as := [x_r ((h 69 6) + 7), iv_c a1, iv_c 2147483648]) (rest := []) (lo1 := [x_r ((h 69 6) + 7), iv_c a1, iv_c 2147483648, 147573952589676412928]) (by decide +kernel) (by decide) (by decide +kernel) (x_rb_of (tr_7_7 t1)) rfl rfl (x_wr (tn_7 t1) (x_wi la1 (x_wi (by decide) x_wn))) x_wn (by decide) rfl ?_
  refine x_iload (np := 1) (x := 1) (by decide +kernel) rfl la1 ?_
  refine x_ifz (k := 2) (tg := 28) (np := 4) (by decide +kernel) (by decide) la1 (fun q4 => ?_) (fun q5 => ?_)
  · have q4 : a1 < 2147483648 := q4
    exfalso; omega
  have q5 : ¬ (a1 < 2147483648) := q5
  refine x_iload (np := 5) (x := 1) (by decide +kernel) rfl la1 ?_
  refine x_aload (np := 6) (x := 0) (by decide +kernel) rfl (x_nc_le (tn_7 t1)) ?_
  refine x_getC (np := 9) (x := 386) (f := 2) (q := (h ((h 69 6) + 7) 2)) (by decide +kernel) (by decide) (tg_7_386_2_0 t1) rfl (fun l6 => ?_)
  refine x_icmp (k := 3) (tg := 28) (np := 12) (by decide +kernel) (by decide) la1 l6 (fun q7 => ?_) (fun q8 => ?_)
  · have q7 : (h ((h 69 6) + 7) 2) ≤ a1 := q7
    exfalso; omega
  have q8 : ¬ ((h ((h 69 6) + 7) 2) ≤ a1) := q8
  refine x_iload (np := 13) (x := 2) (by decide +kernel) rfl (by decide) ?_
  refine x_ifz (k := 2) (tg := 28) (np := 16) (by decide +kernel) (by decide) (by decide) (fun q9 => ?_) (fun q10 => ?_)
  · have q9 : 2147483648 < 2147483648 := q9
    exfalso; omega
  have q10 : ¬ (2147483648 < 2147483648) := q10
  refine x_iload (np := 17) (x := 2) (by decide +kernel) rfl (by decide) ?_
  refine x_aload (np := 18) (x := 0) (by decide +kernel) rfl (x_nc_le (tn_7 t1)) ?_
  have b11 := jB (e := 0) 0 hJ (rg_T7_0_0_1 t1) (by first | decide | omega) (by first | decide | omega)
  have q12 : (h ((h 69 6) + 7) 0) = 2147483652 := by first | decide | omega
  refine x_getC (np := 21) (x := 384) (f := 0) (q := 2147483652) (by decide +kernel) (by decide) (tg_7_384_0_0 t1) q12 (fun l13 => ?_)
  refine x_icmp (k := 3) (tg := 28) (np := 24) (by decide +kernel) (by decide) (by decide) (by decide) (fun q14 => ?_) (fun q15 => ?_)
  · have q14 : 2147483652 ≤ 2147483648 := q14
    exfalso; omega
  have q15 : ¬ (2147483652 ≤ 2147483648) := q15
  refine x_const (np := 25) (x := 9223372043297226753) (a := 2147483649) (by decide +kernel) (by decide) (by decide) ?_
  refine x_goto (np := 28) (x := 29) (by decide +kernel) ?_
  refine x_istore (np := 30) (x := 3) (lo' := [x_r ((h 69 6) + 7), iv_c a1, iv_c 2147483648, iv_c 2147483649]) (by decide +kernel) (by decide) (Nat.le_of_ble_eq_true rfl) rfl ?_
  refine x_iload (np := 31) (x := 3) (by decide +kernel) rfl (by decide) ?_
  refine x_ifz (k := 0) (tg := 50) (np := 34) (by decide +kernel) (by decide) (by decide) (fun q16 => ?_) (fun q17 => ?_)
  · have q16 : 2147483649 = 2147483648 := q16
    exfalso; omega
  have q17 : ¬ (2147483649 = 2147483648) := q17
  refine x_aload (np := 35) (x := 0) (by decide +kernel) rfl (x_nc_le (tn_7 t1)) ?_
  have q18 : h ((h 69 6) + 7) 1 = ((h 69 6) + 8) := tf_7_1 hJ t1
  refine x_getR (np := 38) (x := 385) (f := 1) (q := ((h 69 6) + 8)) (by decide +kernel) (by decide) (tg_7_385_1_1 t1) q18 ?_
  refine x_iload (np := 39) (x := 1) (by decide +kernel) rfl la1 ?_
  refine x_aload (np := 40) (x := 0) (by decide +kernel) rfl (x_nc_le (tn_7 t1)) ?_
  refine x_getC (np := 43) (x := 384) (f := 0) (q := 2147483652) (by decide +kernel) (by decide) (tg_7_384_0_0 t1) q12 (fun l19 => ?_)
  obtain ⟨u20, q21⟩ : ∃ z, a1 = 2147483648 + z := ⟨a1 - 2147483648, by first | decide | omega⟩
  refine x_imul (np := 44) (x := 0) (i := u20) (j := 4) (v := (2147483648 + 4 * u20)) (by decide +kernel) (by first | decide | omega) (by first | decide | omega) (by first | decide | omega) (by first | decide | omega) la1 (by decide) ?_
  refine x_iload (np := 45) (x := 2) (by decide +kernel) rfl (by decide) ?_
  refine x_iadd (np := 46) (x := 0) (v := (2147483648 + 4 * u20)) (by decide +kernel) (by first | decide | omega) (by decide) (by first | decide | omega) (by first | decide | omega) ?_
  have b23 := jB (e := (4 * u20)) u20 hJ (rg_T8_0_4_10 t1) (by first | decide | omega) (by first | decide | omega)
  refine x_aldC (np := 47) (x := 0) (n := 40) (i := (4 * u20)) (q := ((h ((h 69 6) + 8) (4 * u20)))) (by decide +kernel) (ta_8_40 t1) (by first | decide | omega) (by first | decide | omega) (by decide) rfl (fun l24 => ?_)
  refine x_goto (np := 50) (x := 51) (by decide +kernel) ?_
  refine x_retI (np := 52) (x := 0) (by decide +kernel) l24 (Or.inl (by decide +kernel)) ⟨_, rfl, l24, ?_⟩
  refine x_istore (np := 13) (x := 2) (lo' := [x_r 69, iv_c a1, iv_c ((h ((h 69 6) + 8) (4 * u20))), 147573952589676412928, 147573952589676412928]) (by decide +kernel) l24 (Nat.le_of_ble_eq_true rfl) rfl ?_
  refine x_aload (np := 14) (x := 0) (by decide +kernel) rfl (x_nc_le (by decide)) ?_
  refine x_getR (np := 17) (x := 774) (f := 6) (q := (h 69 6)) (by decide +kernel) (by decide) (by decide +kernel) rfl ?_
  have q25 : h (h 69 6) 3 = ((h 69 6) + 7) := tf_0_3 hJ t1
  refine x_getR (np := 20) (x := 515) (f := 3) (q := ((h 69 6) + 7)) (by decide +kernel) (by decide) (tg_0_515_3_1 t1) q25 ?_
  refine x_iload (np := 21) (x := 1) (by decide +kernel) rfl la1 ?_
  refine x_const (np := 22) (x := 9223372047592194050) (a := 2147483650) (by decide +kernel) (by decide) (by decide) ?_
  refine x_nI (t := 6) (mj := 68) (n := 3) (rc := 7) (ml := 4) (nr := 0) (np := 25) (as := [x_r ((h 69 6) + 7), iv_c a1, iv_c 2147483650]) (rest := []) (lo1 := [x_r ((h 69 6) + 7), iv_c a1, iv_c 2147483650, 147573952589676412928]) (by decide +kernel) (by decide) (by decide +kernel) (x_rb_of (tr_7_7 t1)) rfl rfl (x_wr (tn_7 t1) (x_wi la1 (x_wi (by decide) x_wn))) x_wn (by decide) rfl ?_
  refine x_iload (np := 1) (x := 1) (by decide +kernel) rfl la1 ?_
  refine x_ifz (k := 2) (tg := 28) (np := 4) (by decide +kernel) (by decide) la1 (fun q26 => ?_) (fun q27 => ?_)
  · have q26 : a1 < 2147483648 := q26
    exfalso; omega
  have q27 : ¬ (a1 < 2147483648) := q27
  refine x_iload (np := 5) (x := 1) (by decide +kernel) rfl la1 ?_
  refine x_aload (np := 6) (x := 0) (by decide +kernel) rfl (x_nc_le (tn_7 t1)) ?_
  refine x_getC (np := 9) (x := 386) (f := 2) (q := (h ((h 69 6) + 7) 2)) (by decide +kernel) (by decide) (tg_7_386_2_0 t1) rfl (fun l28 => ?_)
  refine x_icmp (k := 3) (tg := 28) (np := 12) (by decide +kernel) (by decide) la1 l6 (fun q29 => ?_) (fun q30 => ?_)
  · have q29 : (h ((h 69 6) + 7) 2) ≤ a1 := q29
    exfalso; omega
  have q30 : ¬ ((h ((h 69 6) + 7) 2) ≤ a1) := q30
  refine x_iload (np := 13) (x := 2) (by decide +kernel) rfl (by decide) ?_
  refine x_ifz (k := 2) (tg := 28) (np := 16) (by decide +kernel) (by decide) (by decide) (fun q31 => ?_) (fun q32 => ?_)
  · have q31 : 2147483650 < 2147483648 := q31
    exfalso; omega
  have q32 : ¬ (2147483650 < 2147483648) := q32
  refine x_iload (np := 17) (x := 2) (by decide +kernel) rfl (by decide) ?_
  refine x_aload (np := 18) (x := 0) (by decide +kernel) rfl (x_nc_le (tn_7 t1)) ?_
  refine x_getC (np := 21) (x := 384) (f := 0) (q := 2147483652) (by decide +kernel) (by decide) (tg_7_384_0_0 t1) q12 (fun l33 => ?_)
  refine x_icmp (k := 3) (tg := 28) (np := 24) (by decide +kernel) (by decide) (by decide) (by decide) (fun q34 => ?_) (fun q35 => ?_)
  · have q34 : 2147483652 ≤ 2147483650 := q34
    exfalso; omega
  have q35 : ¬ (2147483652 ≤ 2147483650) := q35
  refine x_const (np := 25) (x := 9223372043297226753) (a := 2147483649) (by decide +kernel) (by decide) (by decide) ?_
  refine x_goto (np := 28) (x := 29) (by decide +kernel) ?_
  refine x_istore (np := 30) (x := 3) (lo' := [x_r ((h 69 6) + 7), iv_c a1, iv_c 2147483650, iv_c 2147483649]) (by decide +kernel) (by decide) (Nat.le_of_ble_eq_true rfl) rfl ?_
  refine x_iload (np := 31) (x := 3) (by decide +kernel) rfl (by decide) ?_
  refine x_ifz (k := 0) (tg := 50) (np := 34) (by decide +kernel) (by decide) (by decide) (fun q36 => ?_) (fun q37 => ?_)
  · have q36 : 2147483649 = 2147483648 := q36
    exfalso; omega
  have q37 : ¬ (2147483649 = 2147483648) := q37
  refine x_aload (np := 35) (x := 0) (by decide +kernel) rfl (x_nc_le (tn_7 t1)) ?_
  have q38 : h ((h 69 6) + 7) 1 = ((h 69 6) + 8) := tf_7_1 hJ t1
  refine x_getR (np := 38) (x := 385) (f := 1) (q := ((h 69 6) + 8)) (by decide +kernel) (by decide) (tg_7_385_1_1 t1) q38 ?_
  refine x_iload (np := 39) (x := 1) (by decide +kernel) rfl la1 ?_
  refine x_aload (np := 40) (x := 0) (by decide +kernel) rfl (x_nc_le (tn_7 t1)) ?_
  refine x_getC (np := 43) (x := 384) (f := 0) (q := 2147483652) (by decide +kernel) (by decide) (tg_7_384_0_0 t1) q12 (fun l39 => ?_)
  refine x_imul (np := 44) (x := 0) (i := u20) (j := 4) (v := (2147483648 + 4 * u20)) (by decide +kernel) (by first | decide | omega) (by first | decide | omega) (by first | decide | omega) (by first | decide | omega) la1 (by decide) ?_
  refine x_iload (np := 45) (x := 2) (by decide +kernel) rfl (by decide) ?_
  refine x_iadd (np := 46) (x := 0) (v := (2147483650 + 4 * u20)) (by decide +kernel) (by first | decide | omega) (by decide) (by first | decide | omega) (by first | decide | omega) ?_
  refine x_aldC (np := 47) (x := 0) (n := 40) (i := (2 + 4 * u20)) (q := ((h ((h 69 6) + 8) (2 + 4 * u20)))) (by decide +kernel) (ta_8_40 t1) (by first | decide | omega) (by first | decide | omega) (by decide) rfl (fun l41 => ?_)
  refine x_goto (np := 50) (x := 51) (by decide +kernel) ?_
  refine x_retI (np := 52) (x := 0) (by decide +kernel) l41 (Or.inl (by decide +kernel)) ⟨_, rfl, l41, ?_⟩
  refine x_istore (np := 26) (x := 3) (lo' := [x_r 69, iv_c a1, iv_c ((h ((h 69 6) + 8) (4 * u20))), iv_c ((h ((h 69 6) + 8) (2 + 4 * u20))), 147573952589676412928]) (by decide +kernel) l41 (Nat.le_of_ble_eq_true rfl) rfl ?_
  refine x_const (np := 27) (x := 9223372039002259456) (a := 2147483648) (by decide +kernel) (by decide) (by decide) ?_
  refine x_istore (np := 29) (x := 4) (lo' := [x_r 69, iv_c a1, iv_c ((h ((h 69 6) + 8) (4 * u20))), iv_c ((h ((h 69 6) + 8) (2 + 4 * u20))), iv_c 2147483648]) (by decide +kernel) (by decide) (Nat.le_of_ble_eq_true rfl) rfl ?_
  have p284 : ∀ (n : Nat) (v282 : Nat), 4294967296 - v282 < n → (2147483648 ≤ v282 ∧ v282 ≤ 2147483654) → X sc 64 (d + 1) (xI fun r h' => h' = h ∧ (2147483648 ≤ r ∧ r ≤ 2147483649)) 0 0 29 [x_r 69, iv_c a1, iv_c ((h ((h 69 6) + 8) (4 * u20))), iv_c ((h ((h 69 6) + 8) (2 + 4 * u20))), iv_c v282] [] h := by
    intro n
    induction n with
    | zero => intro v282 q285; exact absurd q285 (Nat.not_lt_zero _)
    | succ n i286 =>
      intro v282 q285 b283
      refine x_iload (np := 31) (x := 4) (by decide +kernel) rfl (by first | decide | omega) ?_
      refine x_aload (np := 32) (x := 0) (by decide +kernel) rfl (x_nc_le (by decide)) ?_
      refine x_getR (np := 35) (x := 774) (f := 6) (q := (h 69 6)) (by decide +kernel) (by decide) (by decide +kernel) rfl ?_
      have b287 := jB (e := 7) 0 hJ (rg_T0_7_0_1 t1) (by first | decide | omega) (by first | decide | omega)
      refine x_getC (np := 38) (x := 519) (f := 7) (q := (h (h 69 6) 7)) (by decide +kernel) (by decide) (tg_0_519_7_0 t1) rfl (fun l288 => ?_)
      refine x_icmp (k := 3) (tg := 87) (np := 41) (by decide +kernel) (by decide) (by first | decide | omega) l288 (fun q289 => ?_) (fun q290 => ?_)
      · have q289 : (h (h 69 6) 7) ≤ v282 := q289
        refine x_const (np := 88) (x := 9223372039002259456) (a := 2147483648) (by decide +kernel) (by decide) (by decide) ?_
        refine x_retI (np := 89) (x := 0) (by decide +kernel) (by decide) (Or.inr ⟨by decide +kernel, by first | decide | omega, by first | decide | omega⟩) ⟨_, rfl, (by decide), ?_⟩
        exact ⟨rfl, (by first | decide | omega)⟩
      have q290 : ¬ ((h (h 69 6) 7) ≤ v282) := q290
      refine x_iload (np := 42) (x := 3) (by decide +kernel) rfl l41 ?_
      refine x_iload (np := 44) (x := 4) (by decide +kernel) rfl (by first | decide | omega) ?_
      refine x_cP (t := 7) (mj := 148) (n := 2) (rc := 0) (ml := 2) (nr := 0) (np := 47) (as := [iv_c ((h ((h 69 6) + 8) (2 + 4 * u20))), iv_c v282]) (rest := []) (lo1 := [iv_c ((h ((h 69 6) + 8) (2 + 4 * u20))), iv_c v282]) (by decide +kernel) (by decide) (by decide +kernel) (Or.inl rfl) rfl rfl (x_wi l41 (x_wi (by first | decide | omega) x_wn)) x_wn (by decide) rfl (c148 hJ (by first | decide | omega) (by first | decide | omega)) (fun v291 l292 q293 => ?_)
      refine x_ifz (k := 0) (tg := 81) (np := 50) (by decide +kernel) (by decide) l292 (fun q294 => ?_) (fun q295 => ?_)
      · have q294 : v291 = 2147483648 := q294
        refine x_iinc (np := 84) (i := 4) (j := 2147483649) (v := (1 + v282)) (lo' := [x_r 69, iv_c a1, iv_c ((h ((h 69 6) + 8) (4 * u20))), iv_c ((h ((h 69 6) + 8) (2 + 4 * u20))), iv_c (1 + v282)]) (by decide +kernel) (by decide) (by decide) rfl (by first | decide | omega) (by first | decide | omega) (by first | decide | omega) rfl ?_
        refine x_goto (np := 87) (x := 29) (by decide +kernel) ?_
        exact i286 (1 + v282) (by first | decide | omega) (by first | decide | omega)
      have q295 : ¬ (v291 = 2147483648) := q295
      refine x_aload (np := 51) (x := 0) (by decide +kernel) rfl (x_nc_le (by decide)) ?_
      have q296 : h 69 0 = 70 := by have z := jB (e := 0) 0 hJ rg_69_0_0_1 (by decide) (by decide); omega
      refine x_getR (np := 54) (x := 768) (f := 0) (q := 70) (by decide +kernel) (by decide) (by decide +kernel) q296 ?_
      refine x_iload (np := 55) (x := 2) (by decide +kernel) rfl l24 ?_
      refine x_iload (np := 57) (x := 4) (by decide +kernel) rfl (by first | decide | omega) ?_
      refine x_nI (t := 7) (mj := 149) (n := 2) (rc := 0) (ml := 2) (nr := 1) (np := 60) (as := [iv_c ((h ((h 69 6) + 8) (4 * u20))), iv_c v282]) (rest := [x_r 70]) (lo1 := [iv_c ((h ((h 69 6) + 8) (4 * u20))), iv_c v282]) (by decide +kernel) (by decide) (by decide +kernel) (Or.inl rfl) rfl rfl (x_wi l24 (x_wi (by first | decide | omega) x_wn)) (x_wr (by decide) x_wn) (by decide) rfl ?_
      refine x_iload (np := 1) (x := 0) (by decide +kernel) rfl l24 ?_
      refine x_const (np := 3) (x := 9223372064772063238) (a := 2147483654) (by decide +kernel) (by decide) (by decide) ?_
      obtain ⟨u297, q298⟩ : ∃ z, ((h ((h 69 6) + 8) (4 * u20))) = 2147483648 + z := ⟨((h ((h 69 6) + 8) (4 * u20))) - 2147483648, by first | decide | omega⟩
      refine x_imul (np := 4) (x := 0) (i := u297) (j := 6) (v := (2147483648 + 6 * u297)) (by decide +kernel) (by first | decide | omega) (by first | decide | omega) (by first | decide | omega) (by first | decide | omega) l24 (by decide) ?_
      refine x_iload (np := 5) (x := 1) (by decide +kernel) rfl (by first | decide | omega) ?_
      refine x_iadd (np := 6) (x := 0) (v := (6 * u297 + v282)) (by decide +kernel) (by first | decide | omega) (by first | decide | omega) (by first | decide | omega) (by first | decide | omega) ?_
      refine x_retI (np := 7) (x := 0) (by decide +kernel) (by first | decide | omega) (Or.inl (by decide +kernel)) ⟨_, rfl, (by first | decide | omega), ?_⟩
      obtain ⟨u300, q301⟩ : ∃ z, v282 = 2147483648 + z := ⟨v282 - 2147483648, by first | decide | omega⟩
      refine x_aldC (np := 61) (x := 0) (n := 36) (i := (6 * u297 + u300)) (q := ((h 70 (6 * u297 + u300)))) (by decide +kernel) (by decide +kernel) (by first | decide | omega) (by first | decide | omega) (by decide) rfl (fun l302 => ?_)
      refine x_aload (np := 62) (x := 0) (by decide +kernel) rfl (x_nc_le (by decide)) ?_
      refine x_getR (np := 65) (x := 774) (f := 6) (q := (h 69 6)) (by decide +kernel) (by decide) (by decide +kernel) rfl ?_
      have q303 : h (h 69 6) 3 = ((h 69 6) + 7) := tf_0_3 hJ t1
      refine x_getR (np := 68) (x := 515) (f := 3) (q := ((h 69 6) + 7)) (by decide +kernel) (by decide) (tg_0_515_3_1 t1) q303 ?_
      refine x_iload (np := 69) (x := 1) (by decide +kernel) rfl la1 ?_
      refine x_const (np := 70) (x := 9223372043297226753) (a := 2147483649) (by decide +kernel) (by decide) (by decide) ?_
      refine x_nI (t := 6) (mj := 68) (n := 3) (rc := 7) (ml := 4) (nr := 1) (np := 73) (as := [x_r ((h 69 6) + 7), iv_c a1, iv_c 2147483649]) (rest := [iv_c ((h 70 (6 * u297 + u300)))]) (lo1 := [x_r ((h 69 6) + 7), iv_c a1, iv_c 2147483649, 147573952589676412928]) (by decide +kernel) (by decide) (by decide +kernel) (x_rb_of (tr_7_7 t1)) rfl rfl (x_wr (tn_7 t1) (x_wi la1 (x_wi (by decide) x_wn))) (x_wi l302 x_wn) (by decide) rfl ?_
      refine x_iload (np := 1) (x := 1) (by decide +kernel) rfl la1 ?_
      refine x_ifz (k := 2) (tg := 28) (np := 4) (by decide +kernel) (by decide) la1 (fun q304 => ?_) (fun q305 => ?_)
      · have q304 : a1 < 2147483648 := q304
        exfalso; omega
      have q305 : ¬ (a1 < 2147483648) := q305
      refine x_iload (np := 5) (x := 1) (by decide +kernel) rfl la1 ?_
      refine x_aload (np := 6) (x := 0) (by decide +kernel) rfl (x_nc_le (tn_7 t1)) ?_
      refine x_getC (np := 9) (x := 386) (f := 2) (q := (h ((h 69 6) + 7) 2)) (by decide +kernel) (by decide) (tg_7_386_2_0 t1) rfl (fun l306 => ?_)
      refine x_icmp (k := 3) (tg := 28) (np := 12) (by decide +kernel) (by decide) la1 l6 (fun q307 => ?_) (fun q308 => ?_)
      · have q307 : (h ((h 69 6) + 7) 2) ≤ a1 := q307
        exfalso; omega
      have q308 : ¬ ((h ((h 69 6) + 7) 2) ≤ a1) := q308
      refine x_iload (np := 13) (x := 2) (by decide +kernel) rfl (by decide) ?_
      refine x_ifz (k := 2) (tg := 28) (np := 16) (by decide +kernel) (by decide) (by decide) (fun q309 => ?_) (fun q310 => ?_)
      · have q309 : 2147483649 < 2147483648 := q309
        exfalso; omega
      have q310 : ¬ (2147483649 < 2147483648) := q310
      refine x_iload (np := 17) (x := 2) (by decide +kernel) rfl (by decide) ?_
      refine x_aload (np := 18) (x := 0) (by decide +kernel) rfl (x_nc_le (tn_7 t1)) ?_
      refine x_getC (np := 21) (x := 384) (f := 0) (q := 2147483652) (by decide +kernel) (by decide) (tg_7_384_0_0 t1) q12 (fun l311 => ?_)
      refine x_icmp (k := 3) (tg := 28) (np := 24) (by decide +kernel) (by decide) (by decide) (by decide) (fun q312 => ?_) (fun q313 => ?_)
      · have q312 : 2147483652 ≤ 2147483649 := q312
        exfalso; omega
      have q313 : ¬ (2147483652 ≤ 2147483649) := q313
      refine x_const (np := 25) (x := 9223372043297226753) (a := 2147483649) (by decide +kernel) (by decide) (by decide) ?_
      refine x_goto (np := 28) (x := 29) (by decide +kernel) ?_
      refine x_istore (np := 30) (x := 3) (lo' := [x_r ((h 69 6) + 7), iv_c a1, iv_c 2147483649, iv_c 2147483649]) (by decide +kernel) (by decide) (Nat.le_of_ble_eq_true rfl) rfl ?_
      refine x_iload (np := 31) (x := 3) (by decide +kernel) rfl (by decide) ?_
      refine x_ifz (k := 0) (tg := 50) (np := 34) (by decide +kernel) (by decide) (by decide) (fun q314 => ?_) (fun q315 => ?_)
      · have q314 : 2147483649 = 2147483648 := q314
        exfalso; omega
      have q315 : ¬ (2147483649 = 2147483648) := q315
      refine x_aload (np := 35) (x := 0) (by decide +kernel) rfl (x_nc_le (tn_7 t1)) ?_
      have q316 : h ((h 69 6) + 7) 1 = ((h 69 6) + 8) := tf_7_1 hJ t1
      refine x_getR (np := 38) (x := 385) (f := 1) (q := ((h 69 6) + 8)) (by decide +kernel) (by decide) (tg_7_385_1_1 t1) q316 ?_
      refine x_iload (np := 39) (x := 1) (by decide +kernel) rfl la1 ?_
      refine x_aload (np := 40) (x := 0) (by decide +kernel) rfl (x_nc_le (tn_7 t1)) ?_
      refine x_getC (np := 43) (x := 384) (f := 0) (q := 2147483652) (by decide +kernel) (by decide) (tg_7_384_0_0 t1) q12 (fun l317 => ?_)
      refine x_imul (np := 44) (x := 0) (i := u20) (j := 4) (v := (2147483648 + 4 * u20)) (by decide +kernel) (by first | decide | omega) (by first | decide | omega) (by first | decide | omega) (by first | decide | omega) la1 (by decide) ?_
      refine x_iload (np := 45) (x := 2) (by decide +kernel) rfl (by decide) ?_
      refine x_iadd (np := 46) (x := 0) (v := (2147483649 + 4 * u20)) (by decide +kernel) (by first | decide | omega) (by decide) (by first | decide | omega) (by first | decide | omega) ?_
      refine x_aldC (np := 47) (x := 0) (n := 40) (i := (1 + 4 * u20)) (q := ((h ((h 69 6) + 8) (1 + 4 * u20)))) (by decide +kernel) (ta_8_40 t1) (by first | decide | omega) (by first | decide | omega) (by decide) rfl (fun l319 => ?_)
      refine x_goto (np := 50) (x := 51) (by decide +kernel) ?_
      refine x_retI (np := 52) (x := 0) (by decide +kernel) l319 (Or.inl (by decide +kernel)) ⟨_, rfl, l319, ?_⟩
      refine x_cP (t := 7) (mj := 148) (n := 2) (rc := 0) (ml := 2) (nr := 0) (np := 76) (as := [iv_c ((h 70 (6 * u297 + u300))), iv_c ((h ((h 69 6) + 8) (1 + 4 * u20)))]) (rest := []) (lo1 := [iv_c ((h 70 (6 * u297 + u300))), iv_c ((h ((h 69 6) + 8) (1 + 4 * u20)))]) (by decide +kernel) (by decide) (by decide +kernel) (Or.inl rfl) rfl rfl (x_wi l302 (x_wi l319 x_wn)) x_wn (by decide) rfl (c148 hJ (by first | decide | omega) (by first | decide | omega)) (fun v320 l321 q322 => ?_)
      refine x_ifz (k := 0) (tg := 81) (np := 79) (by decide +kernel) (by decide) l321 (fun q323 => ?_) (fun q324 => ?_)
      · have q323 : v320 = 2147483648 := q323
        refine x_iinc (np := 84) (i := 4) (j := 2147483649) (v := (1 + v282)) (lo' := [x_r 69, iv_c a1, iv_c ((h ((h 69 6) + 8) (4 * u20))), iv_c ((h ((h 69 6) + 8) (2 + 4 * u20))), iv_c (1 + v282)]) (by decide +kernel) (by decide) (by decide) rfl (by first | decide | omega) (by first | decide | omega) (by first | decide | omega) rfl ?_
        refine x_goto (np := 87) (x := 29) (by decide +kernel) ?_
        exact i286 (1 + v282) (by first | decide | omega) (by first | decide | omega)
      have q324 : ¬ (v320 = 2147483648) := q324
      refine x_const (np := 80) (x := 9223372043297226753) (a := 2147483649) (by decide +kernel) (by decide) (by decide) ?_
      refine x_retI (np := 81) (x := 0) (by decide +kernel) (by decide) (Or.inr ⟨by decide +kernel, by first | decide | omega, by first | decide | omega⟩) ⟨_, rfl, (by decide), ?_⟩
      exact ⟨rfl, (by first | decide | omega)⟩
  exact p284 _ 2147483648 (Nat.lt_succ_self _) (by first | decide | omega)
