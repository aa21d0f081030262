/-! ===== methods ===== -/
set_option maxHeartbeats 0 in
/-- LentNames$Search.come(I)V -/
theorem c274_63_c4 {sc : Nat × Nat} {d  : Nat} {h : xh} (hJ : J h) : X sc 274 (d + 7) (xV fun h' => J h' ∧ Fr 32769 h h') 0 0 0 [x_r 63, iv_c 2147483652] [] h := by
  have hF := Fr.refl 32769 h
  refine x_aload (np := 1) (x := 0) (by decide +kernel) rfl (x_nc_le (by decide)) ?_
  refine x_dup (np := 2) (x := 0) (by decide +kernel) (by have z := x_nc_le (k := 63) (by decide); unfold x_r; omega) ?_
  refine x_getC (np := 5) (x := 785) (f := 17) (q := (h 63 17)) (by decide +kernel) (by decide) (by decide +kernel) rfl (fun l1 => ?_)
  refine x_const (np := 6) (x := 9223372043297226753) (a := 2147483649) (by decide +kernel) (by decide) (by decide) ?_
  refine x_addA (by rw [tb_b274]; decide +kernel) l1 (by decide) (fun v2 l3 => ?_)
  refine x_putI (np := 10) (x := 785) (f := 17) (by decide +kernel) (by decide +kernel) l3 (Or.inl (by decide)) ?_
  have j5 := jU (e := 17) (v := v2) 0 hJ rg_63_17_0_1 (by first | decide | omega) (by first | decide | omega) (by first | decide | omega)
  have f7 := jF (e := 17) (v := v2) 0 hF rg_63_17_0_1 (by first | decide | omega) (by first | decide | omega) (by decide)
  generalize e6 : x_up h 63 17 v2 = h4 at j5 f7 ⊢
  refine x_aload (np := 11) (x := 0) (by decide +kernel) rfl (x_nc_le (by decide)) ?_
  have q8 : h4 63 17 = v2 := by rw [← e6]; exact x_up_at
  refine x_getC (np := 14) (x := 785) (f := 17) (q := v2) (by decide +kernel) (by decide) (by decide +kernel) q8 (fun l9 => ?_)
  refine x_const (np := 17) (x := 9223457938348199456) (a := 2147503648) (by decide +kernel) (by decide) (by decide) ?_
  refine x_icmp (k := 5) (tg := 28) (np := 20) (by decide +kernel) (by decide) l3 (by decide) (fun q10 => ?_) (fun q11 => ?_)
  · have q10 : v2 ≤ 2147503648 := q10
    refine x_aload (np := 29) (x := 0) (by decide +kernel) rfl (x_nc_le (by decide)) ?_
    refine x_vI (P := fun r9 h9 => X sc 274 _ _ 0 0 32 [x_r 63, iv_c 2147483652] (iv_c r9 :: []) h9) (np := 32) (x := 5246979) (kk := 3) (cls := 4) (mj := 56) (ml := 1) (nr := 0) (rest := []) (lo1 := [x_r 63]) (by decide +kernel) (by decide) (by decide) (by decide) (by decide +kernel) (by decide +kernel) (by decide) (by decide +kernel) (by decide +kernel) x_wn (by decide) rfl ?_ (fun _ _ _ z => z)
    refine x_aload (np := 1) (x := 0) (by decide +kernel) rfl (x_nc_le (by decide)) ?_
    refine x_cI (t := 6) (mj := 57) (n := 1) (rc := 5) (ml := 5) (nr := 0) (np := 4) (as := [x_r 63]) (rest := []) (lo1 := [x_r 63, 147573952589676412928, 147573952589676412928, 147573952589676412928, 147573952589676412928]) (by decide +kernel) (by decide) (by decide +kernel) (x_rb_of (by decide +kernel)) rfl rfl (x_wr (by decide) x_wn) x_wn (by decide) rfl (c57_63 j5 ) (fun v12 h15 l13 q14 => ?_)
    obtain ⟨j16, f17, b18⟩ := q14
    have f19 := Fr.trans f7 f17 (by decide)
    refine x_ifz (k := 1) (tg := 14) (np := 7) (by decide +kernel) (by decide) l13 (fun q20 => ?_) (fun q21 => ?_)
    · have q20 : v12 ≠ 2147483648 := q20
      refine x_const (np := 15) (x := 9223372043297226753) (a := 2147483649) (by decide +kernel) (by decide) (by decide) ?_
      refine x_goto (np := 18) (x := 19) (by decide +kernel) ?_
      refine x_retI (np := 20) (x := 0) (by decide +kernel) (by decide) (Or.inr ⟨by decide +kernel, by first | decide | omega, by first | decide | omega⟩) ⟨_, rfl, (by decide), ?_⟩
      refine x_ifz (k := 1) (tg := 43) (np := 35) (by decide +kernel) (by decide) (by decide) (fun q22 => ?_) (fun q23 => ?_)
      · have q22 : 2147483649 ≠ 2147483648 := q22
        refine x_iload (np := 44) (x := 1) (by decide +kernel) rfl (by decide) ?_
        refine x_aload (np := 45) (x := 0) (by decide +kernel) rfl (x_nc_le (by decide)) ?_
        refine x_getC (np := 48) (x := 784) (f := 16) (q := (h15 63 16)) (by decide +kernel) (by decide) (by decide +kernel) rfl (fun l24 => ?_)
        refine x_icmp (k := 3) (tg := 61) (np := 51) (by decide +kernel) (by decide) (by decide) l24 (fun q25 => ?_) (fun q26 => ?_)
        · have q25 : (h15 63 16) ≤ 2147483652 := q25
          refine x_retV (np := 62) (x := 0) (by decide +kernel) (by decide +kernel) ⟨rfl, ?_⟩
          exact ⟨j16, f19⟩
        have q26 : ¬ ((h15 63 16) ≤ 2147483652) := q26
        refine x_iload (np := 52) (x := 1) (by decide +kernel) rfl (by decide) ?_
        refine x_const (np := 53) (x := 9223372060477095941) (a := 2147483653) (by decide +kernel) (by decide) (by decide) ?_
        refine x_icmp (k := 3) (tg := 61) (np := 56) (by decide +kernel) (by decide) (by decide) (by decide) (fun q27 => ?_) (fun q28 => ?_)
        · have q27 : 2147483653 ≤ 2147483652 := q27
          exfalso; omega
        have q28 : ¬ (2147483653 ≤ 2147483652) := q28
        refine x_aload (np := 57) (x := 0) (by decide +kernel) rfl (x_nc_le (by decide)) ?_
        refine x_iload (np := 58) (x := 1) (by decide +kernel) rfl (by decide) ?_
        refine x_cV (t := 8) (mj := 275) (n := 2) (rc := 13) (ml := 8) (nr := 0) (np := 61) (as := [x_r 63, iv_c 2147483652]) (rest := []) (lo1 := [x_r 63, iv_c 2147483652, 147573952589676412928, 147573952589676412928, 147573952589676412928, 147573952589676412928, 147573952589676412928, 147573952589676412928]) (by decide +kernel) (by decide) (by decide +kernel) (x_rb_of (by decide +kernel)) rfl rfl (x_wr (by decide) (x_wi (by decide) x_wn)) x_wn (by decide) rfl (c275_63_c4 j16  ) (fun h32 q31 => ?_)
        obtain ⟨j33, f34⟩ := q31
        have f37 := Fr.trans f19 f34 (by decide)
        refine x_retV (np := 62) (x := 0) (by decide +kernel) (by decide +kernel) ⟨rfl, ?_⟩
        exact ⟨j33, f37⟩
      have q23 : ¬ (2147483649 ≠ 2147483648) := q23
      exfalso; omega
    have q21 : ¬ (v12 ≠ 2147483648) := q21
    refine x_aload (np := 8) (x := 0) (by decide +kernel) rfl (x_nc_le (by decide)) ?_
    refine x_cI (t := 6) (mj := 58) (n := 1) (rc := 5) (ml := 4) (nr := 0) (np := 11) (as := [x_r 63]) (rest := []) (lo1 := [x_r 63, 147573952589676412928, 147573952589676412928, 147573952589676412928]) (by decide +kernel) (by decide) (by decide +kernel) (x_rb_of (by decide +kernel)) rfl rfl (x_wr (by decide) x_wn) x_wn (by decide) rfl (c58_63 j16 ) (fun v38 h41 l39 q40 => ?_)
    obtain ⟨j42, f43, b44⟩ := q40
    have f45 := Fr.trans f19 f43 (by decide)
    refine x_ifz (k := 0) (tg := 18) (np := 14) (by decide +kernel) (by decide) l39 (fun q46 => ?_) (fun q47 => ?_)
    · have q46 : v38 = 2147483648 := q46
      refine x_const (np := 19) (x := 9223372039002259456) (a := 2147483648) (by decide +kernel) (by decide) (by decide) ?_
      refine x_retI (np := 20) (x := 0) (by decide +kernel) (by decide) (Or.inr ⟨by decide +kernel, by first | decide | omega, by first | decide | omega⟩) ⟨_, rfl, (by decide), ?_⟩
      refine x_ifz (k := 1) (tg := 43) (np := 35) (by decide +kernel) (by decide) (by decide) (fun q48 => ?_) (fun q49 => ?_)
      · have q48 : 2147483648 ≠ 2147483648 := q48
        exfalso; omega
      have q49 : ¬ (2147483648 ≠ 2147483648) := q49
      refine x_aload (np := 36) (x := 0) (by decide +kernel) rfl (x_nc_le (by decide)) ?_
      refine x_iload (np := 37) (x := 1) (by decide +kernel) rfl (by decide) ?_
      refine x_cV (t := 8) (mj := 279) (n := 2) (rc := 13) (ml := 4) (nr := 0) (np := 40) (as := [x_r 63, iv_c 2147483652]) (rest := []) (lo1 := [x_r 63, iv_c 2147483652, 147573952589676412928, 147573952589676412928]) (by decide +kernel) (by decide) (by decide +kernel) (x_rb_of (by decide +kernel)) rfl rfl (x_wr (by decide) (x_wi (by decide) x_wn)) x_wn (by decide) rfl (c279_63_c4 j42  ) (fun h53 q52 => ?_)
      obtain ⟨j54, f55⟩ := q52
      have f58 := Fr.trans f45 f55 (by decide)
      refine x_goto (np := 43) (x := 61) (by decide +kernel) ?_
      refine x_retV (np := 62) (x := 0) (by decide +kernel) (by decide +kernel) ⟨rfl, ?_⟩
      exact ⟨j54, f58⟩
    have q47 : ¬ (v38 = 2147483648) := q47
    refine x_const (np := 15) (x := 9223372043297226753) (a := 2147483649) (by decide +kernel) (by decide) (by decide) ?_
    refine x_goto (np := 18) (x := 19) (by decide +kernel) ?_
    refine x_retI (np := 20) (x := 0) (by decide +kernel) (by decide) (Or.inr ⟨by decide +kernel, by first | decide | omega, by first | decide | omega⟩) ⟨_, rfl, (by decide), ?_⟩
    refine x_ifz (k := 1) (tg := 43) (np := 35) (by decide +kernel) (by decide) (by decide) (fun q59 => ?_) (fun q60 => ?_)
    · have q59 : 2147483649 ≠ 2147483648 := q59
      refine x_iload (np := 44) (x := 1) (by decide +kernel) rfl (by decide) ?_
      refine x_aload (np := 45) (x := 0) (by decide +kernel) rfl (x_nc_le (by decide)) ?_
      refine x_getC (np := 48) (x := 784) (f := 16) (q := (h41 63 16)) (by decide +kernel) (by decide) (by decide +kernel) rfl (fun l61 => ?_)
      refine x_icmp (k := 3) (tg := 61) (np := 51) (by decide +kernel) (by decide) (by decide) l61 (fun q62 => ?_) (fun q63 => ?_)
      · have q62 : (h41 63 16) ≤ 2147483652 := q62
        refine x_retV (np := 62) (x := 0) (by decide +kernel) (by decide +kernel) ⟨rfl, ?_⟩
        exact ⟨j42, f45⟩
      have q63 : ¬ ((h41 63 16) ≤ 2147483652) := q63
      refine x_iload (np := 52) (x := 1) (by decide +kernel) rfl (by decide) ?_
      refine x_const (np := 53) (x := 9223372060477095941) (a := 2147483653) (by decide +kernel) (by decide) (by decide) ?_
      refine x_icmp (k := 3) (tg := 61) (np := 56) (by decide +kernel) (by decide) (by decide) (by decide) (fun q64 => ?_) (fun q65 => ?_)
      · have q64 : 2147483653 ≤ 2147483652 := q64
        exfalso; omega
      have q65 : ¬ (2147483653 ≤ 2147483652) := q65
      refine x_aload (np := 57) (x := 0) (by decide +kernel) rfl (x_nc_le (by decide)) ?_
      refine x_iload (np := 58) (x := 1) (by decide +kernel) rfl (by decide) ?_
      refine x_cV (t := 8) (mj := 275) (n := 2) (rc := 13) (ml := 8) (nr := 0) (np := 61) (as := [x_r 63, iv_c 2147483652]) (rest := []) (lo1 := [x_r 63, iv_c 2147483652, 147573952589676412928, 147573952589676412928, 147573952589676412928, 147573952589676412928, 147573952589676412928, 147573952589676412928]) (by decide +kernel) (by decide) (by decide +kernel) (x_rb_of (by decide +kernel)) rfl rfl (x_wr (by decide) (x_wi (by decide) x_wn)) x_wn (by decide) rfl (c275_63_c4 j42  ) (fun h69 q68 => ?_)
      obtain ⟨j70, f71⟩ := q68
      have f74 := Fr.trans f45 f71 (by decide)
      refine x_retV (np := 62) (x := 0) (by decide +kernel) (by decide +kernel) ⟨rfl, ?_⟩
      exact ⟨j70, f74⟩
    have q60 : ¬ (2147483649 ≠ 2147483648) := q60
    exfalso; omega
  have q11 : ¬ (v2 ≤ 2147503648) := q11
  refine x_aload (np := 21) (x := 0) (by decide +kernel) rfl (x_nc_le (by decide)) ?_
  refine x_const (np := 22) (x := 9223372043297226753) (a := 2147483649) (by decide +kernel) (by decide) (by decide) ?_
  refine x_putI (np := 25) (x := 4873) (f := 9) (by decide +kernel) (by decide +kernel) (by decide) (Or.inr ⟨by decide, by first | decide | omega, by first | decide | omega⟩) ?_
  have j76 := jU (e := 9) (v := 2147483649) 0 j5 rg_63_9_0_1 (by first | decide | omega) (by first | decide | omega) (by first | decide | omega)
  have f78 := jF (e := 9) (v := 2147483649) 0 f7 rg_63_9_0_1 (by first | decide | omega) (by first | decide | omega) (by decide)
  generalize e77 : x_up h4 63 9 2147483649 = h75 at j76 f78 ⊢
  refine x_goto (np := 28) (x := 61) (by decide +kernel) ?_
  refine x_retV (np := 62) (x := 0) (by decide +kernel) (by decide +kernel) ⟨rfl, ?_⟩
  exact ⟨j76, f78⟩
set_option maxHeartbeats 0 in
/-- LentNames$Search.tryLoan(IIIII)V -/
theorem c277_63_c3 {sc : Nat × Nat} {d a2 a3 a4 a5 : Nat} {h : xh} (hJ : J h) (ba2 : 2147483648 ≤ a2 ∧ a2 ≤ 2147483653) (ba3 : 2147483648 ≤ a3 ∧ a3 ≤ 2147483653) (ba4 : 2147483648 ≤ a4 ∧ a4 ≤ 2147483659) (ba5 : 2147483648 ≤ a5 ∧ a5 ≤ 2147483659) : X sc 277 (d + 8) (xV fun h' => J h' ∧ Fr 32769 h h') 0 0 0 [x_r 63, iv_c 2147483651, iv_c a2, iv_c a3, iv_c a4, iv_c a5, 147573952589676412928] [] h := by
  have la2 : a2 < 4294967296 := by first | decide | omega
  have la3 : a3 < 4294967296 := by first | decide | omega
  have la4 : a4 < 4294967296 := by first | decide | omega
  have la5 : a5 < 4294967296 := by first | decide | omega
  have hF := Fr.refl 32769 h
  refine x_const (np := 1) (x := 9223372043297226753) (a := 2147483649) (by decide +kernel) (by decide) (by decide) ?_
  refine x_iload (np := 3) (x := 5) (by decide +kernel) rfl la5 ?_
  refine x_const (np := 4) (x := 9223372043297226753) (a := 2147483649) (by decide +kernel) (by decide) (by decide) ?_
  refine x_iadd (np := 5) (x := 0) (v := (1 + a5)) (by decide +kernel) la5 (by decide) (by first | decide | omega) (by first | decide | omega) ?_
  refine x_any (np := 6) (k9 := 3) (by decide +kernel) (by decide) (by decide) (by first | decide | omega) (fun v1 l2 => ?_)
  refine x_const (np := 7) (x := 9223372043297226753) (a := 2147483649) (by decide +kernel) (by decide) (by decide) ?_
  refine x_iload (np := 9) (x := 4) (by decide +kernel) rfl la4 ?_
  refine x_any (np := 10) (k9 := 3) (by decide +kernel) (by decide) (by decide) la4 (fun v3 l4 => ?_)
  refine x_subA (by rw [tb_b277]; decide +kernel) l2 l4 (fun v5 l6 => ?_)
  refine x_istore (np := 13) (x := 6) (lo' := [x_r 63, iv_c 2147483651, iv_c a2, iv_c a3, iv_c a4, iv_c a5, iv_c v5]) (by decide +kernel) l6 (Nat.le_of_ble_eq_true rfl) rfl ?_
  refine x_aload (np := 14) (x := 0) (by decide +kernel) rfl (x_nc_le (by decide)) ?_
  have q7 : h 63 3 = 67 := by have z := jB (e := 3) 0 hJ rg_63_3_0_1 (by decide) (by decide); omega
  refine x_getR (np := 17) (x := 771) (f := 3) (q := 67) (by decide +kernel) (by decide) (by decide +kernel) q7 ?_
  refine x_iload (np := 18) (x := 1) (by decide +kernel) rfl (by decide) ?_
  refine x_const (np := 21) (x := 9223414988675229456) (a := 2147493648) (by decide +kernel) (by decide) (by decide) ?_
  refine x_iload (np := 22) (x := 2) (by decide +kernel) rfl la2 ?_
  obtain ⟨u8, q9⟩ : ∃ z, a2 = 2147483648 + z := ⟨a2 - 2147483648, by first | decide | omega⟩
  refine x_imul (np := 23) (x := 0) (i := 10000) (j := u8) (v := (2147483648 + 10000 * u8)) (by decide +kernel) (by first | decide | omega) (by first | decide | omega) (by first | decide | omega) (by first | decide | omega) (by decide) la2 ?_
  refine x_const (np := 26) (x := 9223376333969556456) (a := 2147484648) (by decide +kernel) (by decide) (by decide) ?_
  refine x_iload (np := 27) (x := 3) (by decide +kernel) rfl la3 ?_
  obtain ⟨u11, q12⟩ : ∃ z, a3 = 2147483648 + z := ⟨a3 - 2147483648, by first | decide | omega⟩
  refine x_imul (np := 28) (x := 0) (i := 1000) (j := u11) (v := (2147483648 + 1000 * u11)) (by decide +kernel) (by first | decide | omega) (by first | decide | omega) (by first | decide | omega) (by first | decide | omega) (by decide) la3 ?_
  refine x_iadd (np := 29) (x := 0) (v := (2147483648 + 10000 * u8 + 1000 * u11)) (by decide +kernel) (by first | decide | omega) (by first | decide | omega) (by first | decide | omega) (by first | decide | omega) ?_
  refine x_const (np := 31) (x := 9223372124901605396) (a := 2147483668) (by decide +kernel) (by decide) (by decide) ?_
  refine x_iload (np := 33) (x := 4) (by decide +kernel) rfl la4 ?_
  obtain ⟨u14, q15⟩ : ∃ z, a4 = 2147483648 + z := ⟨a4 - 2147483648, by first | decide | omega⟩
  refine x_imul (np := 34) (x := 0) (i := 20) (j := u14) (v := (2147483648 + 20 * u14)) (by decide +kernel) (by first | decide | omega) (by first | decide | omega) (by first | decide | omega) (by first | decide | omega) (by decide) la4 ?_
  refine x_iadd (np := 35) (x := 0) (v := (2147483648 + 10000 * u8 + 1000 * u11 + 20 * u14)) (by decide +kernel) (by first | decide | omega) (by first | decide | omega) (by first | decide | omega) (by first | decide | omega) ?_
  refine x_iload (np := 37) (x := 5) (by decide +kernel) rfl la5 ?_
  refine x_iadd (np := 38) (x := 0) (v := (10000 * u8 + 1000 * u11 + 20 * u14 + a5)) (by decide +kernel) (by first | decide | omega) la5 (by first | decide | omega) (by first | decide | omega) ?_
  refine x_ast (np := 39) (x := 0) (kd := 1) (n := 5) (i := 3) (by decide +kernel) (Or.inl rfl) (by decide +kernel) (by first | decide | omega) (by first | decide | omega) (by decide) (by first | decide | omega) (fun z => absurd z (by decide)) ?_
  have j18 := jU (e := 3) (v := (10000 * u8 + 1000 * u11 + 20 * u14 + a5)) 3 hJ rg_67_0_1_5 (by first | decide | omega) (by first | decide | omega) (by first | decide | omega)
  have f20 := jF (e := 3) (v := (10000 * u8 + 1000 * u11 + 20 * u14 + a5)) 3 hF rg_67_0_1_5 (by first | decide | omega) (by first | decide | omega) (by decide)
  generalize e19 : x_up h 67 3 (10000 * u8 + 1000 * u11 + 20 * u14 + a5) = h17 at j18 f20 ⊢
  refine x_aload (np := 40) (x := 0) (by decide +kernel) rfl (x_nc_le (by decide)) ?_
  refine x_iload (np := 41) (x := 2) (by decide +kernel) rfl la2 ?_
  refine x_iload (np := 42) (x := 3) (by decide +kernel) rfl la3 ?_
  refine x_iload (np := 44) (x := 6) (by decide +kernel) rfl l6 ?_
  refine x_cV (t := 8) (mj := 280) (n := 4) (rc := 13) (ml := 5) (nr := 0) (np := 47) (as := [x_r 63, iv_c a2, iv_c a3, iv_c v5]) (rest := []) (lo1 := [x_r 63, iv_c a2, iv_c a3, iv_c v5, 147573952589676412928]) (by decide +kernel) (by decide) (by decide +kernel) (x_rb_of (by decide +kernel)) rfl rfl (x_wr (by decide) (x_wi la2 (x_wi la3 (x_wi l6 x_wn)))) x_wn (by decide) rfl (c280_63 j18  (by first | decide | omega) (by first | decide | omega) (by first | decide | omega)) (fun h24 q23 => ?_)
  obtain ⟨j25, f26⟩ := q23
  have f29 := Fr.trans f20 f26 (by decide)
  refine x_aload (np := 48) (x := 0) (by decide +kernel) rfl (x_nc_le (by decide)) ?_
  refine x_iload (np := 49) (x := 1) (by decide +kernel) rfl (by decide) ?_
  refine x_const (np := 50) (x := 9223372043297226753) (a := 2147483649) (by decide +kernel) (by decide) (by decide) ?_
  refine x_iadd (np := 51) (x := 0) (v := 2147483652) (by decide +kernel) (by decide) (by decide) (by first | decide | omega) (by first | decide | omega) ?_
  refine x_cV (t := 8) (mj := 274) (n := 2) (rc := 13) (ml := 2) (nr := 0) (np := 54) (as := [x_r 63, iv_c 2147483652]) (rest := []) (lo1 := [x_r 63, iv_c 2147483652]) (by decide +kernel) (by decide) (by decide +kernel) (x_rb_of (by decide +kernel)) rfl rfl (x_wr (by decide) (x_wi (by decide) x_wn)) x_wn (by decide) rfl (c274_63_c4 j25  ) (fun h33 q32 => ?_)
  obtain ⟨j34, f35⟩ := q32
  have f38 := Fr.trans f29 f35 (by decide)
  refine x_aload (np := 55) (x := 0) (by decide +kernel) rfl (x_nc_le (by decide)) ?_
  refine x_iload (np := 56) (x := 2) (by decide +kernel) rfl la2 ?_
  refine x_iload (np := 58) (x := 6) (by decide +kernel) rfl l6 ?_
  refine x_cV (t := 8) (mj := 281) (n := 3) (rc := 13) (ml := 5) (nr := 0) (np := 61) (as := [x_r 63, iv_c a2, iv_c v5]) (rest := []) (lo1 := [x_r 63, iv_c a2, iv_c v5, 147573952589676412928, 147573952589676412928]) (by decide +kernel) (by decide) (by decide +kernel) (x_rb_of (by decide +kernel)) rfl rfl (x_wr (by decide) (x_wi la2 (x_wi l6 x_wn))) x_wn (by decide) rfl (c281_63 j34  (by first | decide | omega) (by first | decide | omega)) (fun h42 q41 => ?_)
  obtain ⟨j43, f44⟩ := q41
  have f47 := Fr.trans f38 f44 (by decide)
  refine x_retV (np := 62) (x := 0) (by decide +kernel) (by decide +kernel) ⟨rfl, ?_⟩
  exact ⟨j43, f47⟩
set_option maxHeartbeats 0 in
/-- LentNames$Search.tryLoans(IIIII)V -/
theorem c276_63_c3 {sc : Nat × Nat} {d a2 a3 a4 a5 : Nat} {h : xh} (hJ : J h) (ba2 : 2147483648 ≤ a2 ∧ a2 ≤ 2147483653) (ba3 : 2147483648 ≤ a3 ∧ a3 ≤ 2147483653) (ba4 : 0 ≤ a4 ∧ a4 ≤ 4294967295) (ba5 : 0 ≤ a5 ∧ a5 ≤ 4294967295) : X sc 276 (d + 9) (xV fun h' => J h' ∧ Fr 32769 h h') 0 0 0 [x_r 63, iv_c 2147483651, iv_c a2, iv_c a3, iv_c a4, iv_c a5, 147573952589676412928, 147573952589676412928, 147573952589676412928, 147573952589676412928] [] h := by
  have la2 : a2 < 4294967296 := by first | decide | omega
  have la3 : a3 < 4294967296 := by first | decide | omega
  have la4 : a4 < 4294967296 := by first | decide | omega
  have la5 : a5 < 4294967296 := by first | decide | omega
  have hF := Fr.refl 32769 h
  refine x_aload (np := 1) (x := 0) (by decide +kernel) rfl (x_nc_le (by decide)) ?_
  have q1 : h 63 5 = 45 := by have z := jB (e := 5) 0 hJ rg_63_5_0_1 (by decide) (by decide); omega
  refine x_getR (np := 4) (x := 773) (f := 5) (q := 45) (by decide +kernel) (by decide) (by decide +kernel) q1 ?_
  have q2 : h 45 0 = 46 := by have z := jB (e := 0) 0 hJ rg_45_0_0_1 (by decide) (by decide); omega
  refine x_getR (np := 7) (x := 64) (f := 0) (q := 46) (by decide +kernel) (by decide) (by decide +kernel) q2 ?_
  refine x_iload (np := 8) (x := 3) (by decide +kernel) rfl la3 ?_
  obtain ⟨u3, q4⟩ : ∃ z, a3 = 2147483648 + z := ⟨a3 - 2147483648, by first | decide | omega⟩
  refine x_aldC (np := 9) (x := 0) (n := 6) (i := u3) (q := (h 46 u3)) (by decide +kernel) (by decide +kernel) (by first | decide | omega) (by first | decide | omega) (by decide) rfl (fun l5 => ?_)
  refine x_aload (np := 10) (x := 0) (by decide +kernel) rfl (x_nc_le (by decide)) ?_
  have q6 : h 63 5 = 45 := by have z := jB (e := 5) 0 hJ rg_63_5_0_1 (by decide) (by decide); omega
  refine x_getR (np := 13) (x := 773) (f := 5) (q := 45) (by decide +kernel) (by decide) (by decide +kernel) q6 ?_
  have q7 : h 45 1 = 47 := by have z := jB (e := 1) 0 hJ rg_45_1_0_1 (by decide) (by decide); omega
  refine x_getR (np := 16) (x := 65) (f := 1) (q := 47) (by decide +kernel) (by decide) (by decide +kernel) q7 ?_
  refine x_iload (np := 17) (x := 2) (by decide +kernel) rfl la2 ?_
  refine x_iload (np := 18) (x := 3) (by decide +kernel) rfl la3 ?_
  refine x_nI (t := 7) (mj := 149) (n := 2) (rc := 0) (ml := 2) (nr := 2) (np := 21) (as := [iv_c a2, iv_c a3]) (rest := [x_r 47, iv_c (h 46 u3)]) (lo1 := [iv_c a2, iv_c a3]) (by decide +kernel) (by decide) (by decide +kernel) (Or.inl rfl) rfl rfl (x_wi la2 (x_wi la3 x_wn)) (x_wr (by decide) (x_wi l5 x_wn)) (by decide) rfl ?_
  refine x_iload (np := 1) (x := 0) (by decide +kernel) rfl la2 ?_
  refine x_const (np := 3) (x := 9223372064772063238) (a := 2147483654) (by decide +kernel) (by decide) (by decide) ?_
  obtain ⟨u8, q9⟩ : ∃ z, a2 = 2147483648 + z := ⟨a2 - 2147483648, by first | decide | omega⟩
  refine x_imul (np := 4) (x := 0) (i := u8) (j := 6) (v := (2147483648 + 6 * u8)) (by decide +kernel) (by first | decide | omega) (by first | decide | omega) (by first | decide | omega) (by first | decide | omega) la2 (by decide) ?_
  refine x_iload (np := 5) (x := 1) (by decide +kernel) rfl la3 ?_
  refine x_iadd (np := 6) (x := 0) (v := (6 * u8 + a3)) (by decide +kernel) (by first | decide | omega) la3 (by first | decide | omega) (by first | decide | omega) ?_
  refine x_retI (np := 7) (x := 0) (by decide +kernel) (by first | decide | omega) (Or.inl (by decide +kernel)) ⟨_, rfl, (by first | decide | omega), ?_⟩
  refine x_aldC (np := 22) (x := 0) (n := 36) (i := (6 * u8 + u3)) (q := ((h 47 (6 * u8 + u3)))) (by decide +kernel) (by decide +kernel) (by first | decide | omega) (by first | decide | omega) (by decide) rfl (fun l11 => ?_)
  refine x_const (np := 23) (x := 9223372034707292159) (a := 2147483647) (by decide +kernel) (by decide) (by decide) ?_
  refine x_any (np := 24) (k9 := 2) (by decide +kernel) (by decide) l11 (by decide) (fun v12 l13 => ?_)
  refine x_any (np := 25) (k9 := 0) (by decide +kernel) (by decide) l5 l13 (fun v14 l15 => ?_)
  refine x_aload (np := 26) (x := 0) (by decide +kernel) rfl (x_nc_le (by decide)) ?_
  have q16 : h 63 2 = 66 := by have z := jB (e := 2) 0 hJ rg_63_2_0_1 (by decide) (by decide); omega
  refine x_getR (np := 29) (x := 770) (f := 2) (q := 66) (by decide +kernel) (by decide) (by decide +kernel) q16 ?_
  refine x_iload (np := 30) (x := 2) (by decide +kernel) rfl la2 ?_
  refine x_aldC (np := 31) (x := 0) (n := 6) (i := u8) (q := (h 66 u8)) (by decide +kernel) (by decide +kernel) (by first | decide | omega) (by first | decide | omega) (by decide) rfl (fun l17 => ?_)
  refine x_const (np := 32) (x := 9223372034707292159) (a := 2147483647) (by decide +kernel) (by decide) (by decide) ?_
  refine x_any (np := 33) (k9 := 2) (by decide +kernel) (by decide) l17 (by decide) (fun v18 l19 => ?_)
  refine x_any (np := 34) (k9 := 0) (by decide +kernel) (by decide) l15 l19 (fun v20 l21 => ?_)
  refine x_istore (np := 36) (x := 6) (lo' := [x_r 63, iv_c 2147483651, iv_c a2, iv_c a3, iv_c a4, iv_c a5, iv_c v20, 147573952589676412928, 147573952589676412928, 147573952589676412928]) (by decide +kernel) l21 (Nat.le_of_ble_eq_true rfl) rfl ?_
  refine x_aload (np := 37) (x := 0) (by decide +kernel) rfl (x_nc_le (by decide)) ?_
  have q22 : h 63 1 = 65 := by have z := jB (e := 1) 0 hJ rg_63_1_0_1 (by decide) (by decide); omega
  refine x_getR (np := 40) (x := 769) (f := 1) (q := 65) (by decide +kernel) (by decide) (by decide +kernel) q22 ?_
  refine x_iload (np := 41) (x := 2) (by decide +kernel) rfl la2 ?_
  refine x_aldC (np := 42) (x := 0) (n := 6) (i := u8) (q := (h 65 u8)) (by decide +kernel) (by decide +kernel) (by first | decide | omega) (by first | decide | omega) (by decide) rfl (fun l23 => ?_)
  refine x_iload (np := 44) (x := 6) (by decide +kernel) rfl l21 ?_
  refine x_any (np := 45) (k9 := 0) (by decide +kernel) (by decide) l23 l21 (fun v24 l25 => ?_)
  refine x_istore (np := 47) (x := 7) (lo' := [x_r 63, iv_c 2147483651, iv_c a2, iv_c a3, iv_c a4, iv_c a5, iv_c v20, iv_c v24, 147573952589676412928, 147573952589676412928]) (by decide +kernel) l25 (Nat.le_of_ble_eq_true rfl) rfl ?_
  refine x_const (np := 48) (x := 9223372039002259456) (a := 2147483648) (by decide +kernel) (by decide) (by decide) ?_
  refine x_istore (np := 50) (x := 8) (lo' := [x_r 63, iv_c 2147483651, iv_c a2, iv_c a3, iv_c a4, iv_c a5, iv_c v20, iv_c v24, iv_c 2147483648, 147573952589676412928]) (by decide +kernel) (by decide) (Nat.le_of_ble_eq_true rfl) rfl ?_
  have p4060 : ∀ (n : Nat) (v4054 : Nat) (w4056 : Nat) (h4057 : xh), 4294967296 - v4054 < n → (2147483648 ≤ v4054 ∧ v4054 ≤ 2147483660) → J h4057 → Fr 32769 h h4057 → X sc 276 (d + 9) (xV fun h' => J h' ∧ Fr 32769 h h') 0 0 50 [x_r 63, iv_c 2147483651, iv_c a2, iv_c a3, iv_c a4, iv_c a5, iv_c v20, iv_c v24, iv_c v4054, w4056] [] h4057 := by
    intro n
    induction n with
    | zero => intro v4054 w4056 h4057 q4061; exact absurd q4061 (Nat.not_lt_zero _)
    | succ n i4062 =>
      intro v4054 w4056 h4057 q4061 b4055 j4059 f4058
      have f4063 := Fr.trans hF f4058 (by decide)
      refine x_iload (np := 52) (x := 8) (by decide +kernel) rfl (by first | decide | omega) ?_
      refine x_iload (np := 54) (x := 5) (by decide +kernel) rfl la5 ?_
      refine x_icmp (k := 4) (tg := 145) (np := 57) (by decide +kernel) (by decide) (by first | decide | omega) la5 (fun q4064 => ?_) (fun q4065 => ?_)
      · have q4064 : a5 < v4054 := q4064
        refine x_retV (np := 146) (x := 0) (by decide +kernel) (by decide +kernel) ⟨rfl, ?_⟩
        exact ⟨j4059, f4063⟩
      have q4065 : ¬ (a5 < v4054) := q4065
      refine x_iload (np := 59) (x := 8) (by decide +kernel) rfl (by first | decide | omega) ?_
      refine x_const (np := 61) (x := 9223372090541867020) (a := 2147483660) (by decide +kernel) (by decide) (by decide) ?_
      refine x_icmp (k := 3) (tg := 145) (np := 64) (by decide +kernel) (by decide) (by first | decide | omega) (by decide) (fun q4066 => ?_) (fun q4067 => ?_)
      · have q4066 : 2147483660 ≤ v4054 := q4066
        refine x_retV (np := 146) (x := 0) (by decide +kernel) (by decide +kernel) ⟨rfl, ?_⟩
        exact ⟨j4059, f4063⟩
      have q4067 : ¬ (2147483660 ≤ v4054) := q4067
      refine x_iload (np := 66) (x := 7) (by decide +kernel) rfl l25 ?_
      refine x_iload (np := 68) (x := 8) (by decide +kernel) rfl (by first | decide | omega) ?_
      refine x_cP (t := 7) (mj := 148) (n := 2) (rc := 0) (ml := 2) (nr := 0) (np := 71) (as := [iv_c v24, iv_c v4054]) (rest := []) (lo1 := [iv_c v24, iv_c v4054]) (by decide +kernel) (by decide) (by decide +kernel) (Or.inl rfl) rfl rfl (x_wi l25 (x_wi (by first | decide | omega) x_wn)) x_wn (by decide) rfl (c148 j4059 (by first | decide | omega) (by first | decide | omega)) (fun v4068 l4069 q4070 => ?_)
      obtain ⟨b4072, c4071⟩ := q4070
      refine x_ifz (k := 1) (tg := 77) (np := 74) (by decide +kernel) (by decide) l4069 (fun q4073 => ?_) (fun q4074 => ?_)
      · have q4073 : v4068 ≠ 2147483648 := q4073
        refine x_iload (np := 79) (x := 8) (by decide +kernel) rfl (by first | decide | omega) ?_
        refine x_istore (np := 81) (x := 9) (lo' := [x_r 63, iv_c 2147483651, iv_c a2, iv_c a3, iv_c a4, iv_c a5, iv_c v20, iv_c v24, iv_c v4054, iv_c v4054]) (by decide +kernel) (by first | decide | omega) (Nat.le_of_ble_eq_true rfl) rfl ?_
        have p4175 : ∀ (n : Nat) (v4170 : Nat) (h4172 : xh), 4294967296 - v4170 < n → (2147483648 ≤ v4170 ∧ v4170 ≤ 2147483660) → J h4172 → Fr 32769 h4057 h4172 → X sc 276 (d + 9) (xV fun h' => J h' ∧ Fr 32769 h h') 0 0 81 [x_r 63, iv_c 2147483651, iv_c a2, iv_c a3, iv_c a4, iv_c a5, iv_c v20, iv_c v24, iv_c v4054, iv_c v4170] [] h4172 := by
          intro n
          induction n with
          | zero => intro v4170 h4172 q4176; exact absurd q4176 (Nat.not_lt_zero _)
          | succ n i4177 =>
            intro v4170 h4172 q4176 b4171 j4174 f4173
            have f4178 := Fr.trans f4063 f4173 (by decide)
            have f4179 := Fr.trans f4058 f4173 (by decide)
            refine x_iload (np := 83) (x := 9) (by decide +kernel) rfl (by first | decide | omega) ?_
            refine x_const (np := 85) (x := 9223372090541867020) (a := 2147483660) (by decide +kernel) (by decide) (by decide) ?_
            refine x_icmp (k := 3) (tg := 139) (np := 88) (by decide +kernel) (by decide) (by first | decide | omega) (by decide) (fun q4180 => ?_) (fun q4181 => ?_)
            · have q4180 : 2147483660 ≤ v4170 := q4180
              refine x_iinc (np := 142) (i := 8) (j := 2147483649) (v := (1 + v4054)) (lo' := [x_r 63, iv_c 2147483651, iv_c a2, iv_c a3, iv_c a4, iv_c a5, iv_c v20, iv_c v24, iv_c (1 + v4054), iv_c v4170]) (by decide +kernel) (by decide) (by decide) rfl (by first | decide | omega) (by first | decide | omega) (by first | decide | omega) rfl ?_
              refine x_goto (np := 145) (x := 50) (by decide +kernel) ?_
              exact i4062 (1 + v4054) (iv_c v4170) h4172 (by first | decide | omega) (by first | decide | omega) j4174 f4179
            have q4181 : ¬ (2147483660 ≤ v4170) := q4181
            refine x_iload (np := 90) (x := 6) (by decide +kernel) rfl l21 ?_
            refine x_iload (np := 92) (x := 9) (by decide +kernel) rfl (by first | decide | omega) ?_
            refine x_cP (t := 7) (mj := 148) (n := 2) (rc := 0) (ml := 2) (nr := 0) (np := 95) (as := [iv_c v20, iv_c v4170]) (rest := []) (lo1 := [iv_c v20, iv_c v4170]) (by decide +kernel) (by decide) (by decide +kernel) (Or.inl rfl) rfl rfl (x_wi l21 (x_wi (by first | decide | omega) x_wn)) x_wn (by decide) rfl (c148 j4174 (by first | decide | omega) (by first | decide | omega)) (fun v4182 l4183 q4184 => ?_)
            obtain ⟨b4186, c4185⟩ := q4184
            refine x_ifz (k := 0) (tg := 139) (np := 98) (by decide +kernel) (by decide) l4183 (fun q4187 => ?_) (fun q4188 => ?_)
            · have q4187 : v4182 = 2147483648 := q4187
              refine x_iinc (np := 142) (i := 8) (j := 2147483649) (v := (1 + v4054)) (lo' := [x_r 63, iv_c 2147483651, iv_c a2, iv_c a3, iv_c a4, iv_c a5, iv_c v20, iv_c v24, iv_c (1 + v4054), iv_c v4170]) (by decide +kernel) (by decide) (by decide) rfl (by first | decide | omega) (by first | decide | omega) (by first | decide | omega) rfl ?_
              refine x_goto (np := 145) (x := 50) (by decide +kernel) ?_
              exact i4062 (1 + v4054) (iv_c v4170) h4172 (by first | decide | omega) (by first | decide | omega) j4174 f4179
            have q4188 : ¬ (v4182 = 2147483648) := q4188
            refine x_aload (np := 99) (x := 0) (by decide +kernel) rfl (x_nc_le (by decide)) ?_
            refine x_nI (t := 8) (mj := 278) (n := 1) (rc := 13) (ml := 1) (nr := 0) (np := 102) (as := [x_r 63]) (rest := []) (lo1 := [x_r 63]) (by decide +kernel) (by decide) (by decide +kernel) (x_rb_of (by decide +kernel)) rfl rfl (x_wr (by decide) x_wn) x_wn (by decide) rfl ?_
            refine x_aload (np := 1) (x := 0) (by decide +kernel) rfl (x_nc_le (by decide)) ?_
            have b4189 := jB (e := 9) 0 j4174 rg_63_9_0_1 (by first | decide | omega) (by first | decide | omega)
            refine x_getC (np := 4) (x := 777) (f := 9) (q := (h4172 63 9)) (by decide +kernel) (by decide) (by decide +kernel) rfl (fun l4190 => ?_)
            refine x_ifz (k := 1) (tg := 21) (np := 7) (by decide +kernel) (by decide) l4190 (fun q4191 => ?_) (fun q4192 => ?_)
            · have q4191 : (h4172 63 9) ≠ 2147483648 := q4191
              refine x_const (np := 22) (x := 9223372043297226753) (a := 2147483649) (by decide +kernel) (by decide) (by decide) ?_
              refine x_goto (np := 25) (x := 26) (by decide +kernel) ?_
              refine x_retI (np := 27) (x := 0) (by decide +kernel) (by decide) (Or.inr ⟨by decide +kernel, by first | decide | omega, by first | decide | omega⟩) ⟨_, rfl, (by decide), ?_⟩
              refine x_ifz (k := 1) (tg := 139) (np := 105) (by decide +kernel) (by decide) (by decide) (fun q4193 => ?_) (fun q4194 => ?_)
              · have q4193 : 2147483649 ≠ 2147483648 := q4193
                refine x_iinc (np := 142) (i := 8) (j := 2147483649) (v := (1 + v4054)) (lo' := [x_r 63, iv_c 2147483651, iv_c a2, iv_c a3, iv_c a4, iv_c a5, iv_c v20, iv_c v24, iv_c (1 + v4054), iv_c v4170]) (by decide +kernel) (by decide) (by decide) rfl (by first | decide | omega) (by first | decide | omega) (by first | decide | omega) rfl ?_
                refine x_goto (np := 145) (x := 50) (by decide +kernel) ?_
                exact i4062 (1 + v4054) (iv_c v4170) h4172 (by first | decide | omega) (by first | decide | omega) j4174 f4179
              have q4194 : ¬ (2147483649 ≠ 2147483648) := q4194
              exfalso; omega
            have q4192 : ¬ ((h4172 63 9) ≠ 2147483648) := q4192
            refine x_aload (np := 8) (x := 0) (by decide +kernel) rfl (x_nc_le (by decide)) ?_
            refine x_getC (np := 11) (x := 776) (f := 8) (q := (h4172 63 8)) (by decide +kernel) (by decide) (by decide +kernel) rfl (fun l4195 => ?_)
            refine x_ifz (k := 5) (tg := 25) (np := 14) (by decide +kernel) (by decide) l4195 (fun q4196 => ?_) (fun q4197 => ?_)
            · have q4196 : (h4172 63 8) ≤ 2147483648 := q4196
              refine x_const (np := 26) (x := 9223372039002259456) (a := 2147483648) (by decide +kernel) (by decide) (by decide) ?_
              refine x_retI (np := 27) (x := 0) (by decide +kernel) (by decide) (Or.inr ⟨by decide +kernel, by first | decide | omega, by first | decide | omega⟩) ⟨_, rfl, (by decide), ?_⟩
              refine x_ifz (k := 1) (tg := 139) (np := 105) (by decide +kernel) (by decide) (by decide) (fun q4198 => ?_) (fun q4199 => ?_)
              · have q4198 : 2147483648 ≠ 2147483648 := q4198
                exfalso; omega
              have q4199 : ¬ (2147483648 ≠ 2147483648) := q4199
              refine x_iload (np := 107) (x := 9) (by decide +kernel) rfl (by first | decide | omega) ?_
              refine x_iload (np := 109) (x := 4) (by decide +kernel) rfl la4 ?_
              refine x_icmp (k := 2) (tg := 133) (np := 112) (by decide +kernel) (by decide) (by first | decide | omega) la4 (fun q4200 => ?_) (fun q4201 => ?_)
              · have q4200 : v4170 < a4 := q4200
                refine x_iinc (np := 136) (i := 9) (j := 2147483649) (v := (1 + v4170)) (lo' := [x_r 63, iv_c 2147483651, iv_c a2, iv_c a3, iv_c a4, iv_c a5, iv_c v20, iv_c v24, iv_c v4054, iv_c (1 + v4170)]) (by decide +kernel) (by decide) (by decide) rfl (by first | decide | omega) (by first | decide | omega) (by first | decide | omega) rfl ?_
                refine x_goto (np := 139) (x := 81) (by decide +kernel) ?_
                exact i4177 (1 + v4170) h4172 (by first | decide | omega) (by first | decide | omega) j4174 f4173
              have q4201 : ¬ (v4170 < a4) := q4201
              refine x_iload (np := 114) (x := 7) (by decide +kernel) rfl l25 ?_
              refine x_iload (np := 116) (x := 9) (by decide +kernel) rfl (by first | decide | omega) ?_
              refine x_cP (t := 7) (mj := 148) (n := 2) (rc := 0) (ml := 2) (nr := 0) (np := 119) (as := [iv_c v24, iv_c v4170]) (rest := []) (lo1 := [iv_c v24, iv_c v4170]) (by decide +kernel) (by decide) (by decide +kernel) (Or.inl rfl) rfl rfl (x_wi l25 (x_wi (by first | decide | omega) x_wn)) x_wn (by decide) rfl (c148 j4174 (by first | decide | omega) (by first | decide | omega)) (fun v4202 l4203 q4204 => ?_)
              obtain ⟨b4206, c4205⟩ := q4204
              refine x_ifz (k := 0) (tg := 133) (np := 122) (by decide +kernel) (by decide) l4203 (fun q4207 => ?_) (fun q4208 => ?_)
              · have q4207 : v4202 = 2147483648 := q4207
                refine x_iinc (np := 136) (i := 9) (j := 2147483649) (v := (1 + v4170)) (lo' := [x_r 63, iv_c 2147483651, iv_c a2, iv_c a3, iv_c a4, iv_c a5, iv_c v20, iv_c v24, iv_c v4054, iv_c (1 + v4170)]) (by decide +kernel) (by decide) (by decide) rfl (by first | decide | omega) (by first | decide | omega) (by first | decide | omega) rfl ?_
                refine x_goto (np := 139) (x := 81) (by decide +kernel) ?_
                exact i4177 (1 + v4170) h4172 (by first | decide | omega) (by first | decide | omega) j4174 f4173
              have q4208 : ¬ (v4202 = 2147483648) := q4208
              refine x_aload (np := 123) (x := 0) (by decide +kernel) rfl (x_nc_le (by decide)) ?_
              refine x_iload (np := 124) (x := 1) (by decide +kernel) rfl (by decide) ?_
              refine x_iload (np := 125) (x := 2) (by decide +kernel) rfl la2 ?_
              refine x_iload (np := 126) (x := 3) (by decide +kernel) rfl la3 ?_
              refine x_iload (np := 128) (x := 8) (by decide +kernel) rfl (by first | decide | omega) ?_
              refine x_iload (np := 130) (x := 9) (by decide +kernel) rfl (by first | decide | omega) ?_
              refine x_cV (t := 8) (mj := 277) (n := 6) (rc := 13) (ml := 7) (nr := 0) (np := 133) (as := [x_r 63, iv_c 2147483651, iv_c a2, iv_c a3, iv_c v4054, iv_c v4170]) (rest := []) (lo1 := [x_r 63, iv_c 2147483651, iv_c a2, iv_c a3, iv_c v4054, iv_c v4170, 147573952589676412928]) (by decide +kernel) (by decide) (by decide +kernel) (x_rb_of (by decide +kernel)) rfl rfl (x_wr (by decide) (x_wi (by decide) (x_wi la2 (x_wi la3 (x_wi (by first | decide | omega) (x_wi (by first | decide | omega) x_wn)))))) x_wn (by decide) rfl (c277_63_c3 j4174   (by first | decide | omega) (by first | decide | omega) (by first | decide | omega) (by first | decide | omega)) (fun h4212 q4211 => ?_)
              obtain ⟨j4213, f4214⟩ := q4211
              have f4217 := Fr.trans f4178 f4214 (by decide)
              have f4218 := Fr.trans f4179 f4214 (by decide)
              have f4219 := Fr.trans f4173 f4214 (by decide)
              refine x_iinc (np := 136) (i := 9) (j := 2147483649) (v := (1 + v4170)) (lo' := [x_r 63, iv_c 2147483651, iv_c a2, iv_c a3, iv_c a4, iv_c a5, iv_c v20, iv_c v24, iv_c v4054, iv_c (1 + v4170)]) (by decide +kernel) (by decide) (by decide) rfl (by first | decide | omega) (by first | decide | omega) (by first | decide | omega) rfl ?_
              refine x_goto (np := 139) (x := 81) (by decide +kernel) ?_
              exact i4177 (1 + v4170) h4212 (by first | decide | omega) (by first | decide | omega) j4213 f4219
            have q4197 : ¬ ((h4172 63 8) ≤ 2147483648) := q4197
            refine x_aload (np := 15) (x := 0) (by decide +kernel) rfl (x_nc_le (by decide)) ?_
            refine x_vI (P := fun r9 h9 => X sc 278 _ _ 0 0 18 [x_r 63] (iv_c r9 :: []) h9) (np := 18) (x := 5246977) (kk := 1) (cls := 4) (mj := 54) (ml := 1) (nr := 0) (rest := []) (lo1 := [x_r 63]) (by decide +kernel) (by decide) (by decide) (by decide) (by decide +kernel) (by decide +kernel) (by decide) (by decide +kernel) (by decide +kernel) x_wn (by decide) rfl ?_ (fun _ _ _ z => z)
            refine x_const (np := 1) (x := 9223372043297226753) (a := 2147483649) (by decide +kernel) (by decide) (by decide) ?_
            refine x_retI (np := 2) (x := 0) (by decide +kernel) (by decide) (Or.inr ⟨by decide +kernel, by first | decide | omega, by first | decide | omega⟩) ⟨_, rfl, (by decide), ?_⟩
            refine x_ifz (k := 0) (tg := 25) (np := 21) (by decide +kernel) (by decide) (by decide) (fun q4220 => ?_) (fun q4221 => ?_)
            · have q4220 : 2147483649 = 2147483648 := q4220
              exfalso; omega
            have q4221 : ¬ (2147483649 = 2147483648) := q4221
            refine x_const (np := 22) (x := 9223372043297226753) (a := 2147483649) (by decide +kernel) (by decide) (by decide) ?_
            refine x_goto (np := 25) (x := 26) (by decide +kernel) ?_
            refine x_retI (np := 27) (x := 0) (by decide +kernel) (by decide) (Or.inr ⟨by decide +kernel, by first | decide | omega, by first | decide | omega⟩) ⟨_, rfl, (by decide), ?_⟩
            refine x_ifz (k := 1) (tg := 139) (np := 105) (by decide +kernel) (by decide) (by decide) (fun q4222 => ?_) (fun q4223 => ?_)
            · have q4222 : 2147483649 ≠ 2147483648 := q4222
              refine x_iinc (np := 142) (i := 8) (j := 2147483649) (v := (1 + v4054)) (lo' := [x_r 63, iv_c 2147483651, iv_c a2, iv_c a3, iv_c a4, iv_c a5, iv_c v20, iv_c v24, iv_c (1 + v4054), iv_c v4170]) (by decide +kernel) (by decide) (by decide) rfl (by first | decide | omega) (by first | decide | omega) (by first | decide | omega) rfl ?_
              refine x_goto (np := 145) (x := 50) (by decide +kernel) ?_
              exact i4062 (1 + v4054) (iv_c v4170) h4172 (by first | decide | omega) (by first | decide | omega) j4174 f4179
            have q4223 : ¬ (2147483649 ≠ 2147483648) := q4223
            exfalso; omega
        exact p4175 _ v4054 h4057 (Nat.lt_succ_self _) (by first | decide | omega) j4059 (Fr.refl _ _)
      have q4074 : ¬ (v4068 ≠ 2147483648) := q4074
      refine x_goto (np := 77) (x := 139) (by decide +kernel) ?_
      refine x_iinc (np := 142) (i := 8) (j := 2147483649) (v := (1 + v4054)) (lo' := [x_r 63, iv_c 2147483651, iv_c a2, iv_c a3, iv_c a4, iv_c a5, iv_c v20, iv_c v24, iv_c (1 + v4054), w4056]) (by decide +kernel) (by decide) (by decide) rfl (by first | decide | omega) (by first | decide | omega) (by first | decide | omega) rfl ?_
      refine x_goto (np := 145) (x := 50) (by decide +kernel) ?_
      exact i4062 (1 + v4054) w4056 h4057 (by first | decide | omega) (by first | decide | omega) j4059 f4058
  exact p4060 _ 2147483648 147573952589676412928 h (Nat.lt_succ_self _) (by first | decide | omega) hJ (Fr.refl _ _)
set_option maxHeartbeats 0 in
/-- LentNames$Search.mend(I)V -/
theorem c275_63_c3 {sc : Nat × Nat} {d  : Nat} {h : xh} (hJ : J h) : X sc 275 (d + 10) (xV fun h' => J h' ∧ Fr 32769 h h') 0 0 0 [x_r 63, iv_c 2147483651, 147573952589676412928, 147573952589676412928, 147573952589676412928, 147573952589676412928, 147573952589676412928, 147573952589676412928] [] h := by
  have hF := Fr.refl 32769 h
  refine x_aload (np := 1) (x := 0) (by decide +kernel) rfl (x_nc_le (by decide)) ?_
  refine x_getC (np := 4) (x := 778) (f := 10) (q := (h 63 10)) (by decide +kernel) (by decide) (by decide +kernel) rfl (fun l1 => ?_)
  refine x_istore (np := 5) (x := 2) (lo' := [x_r 63, iv_c 2147483651, iv_c (h 63 10), 147573952589676412928, 147573952589676412928, 147573952589676412928, 147573952589676412928, 147573952589676412928]) (by decide +kernel) l1 (Nat.le_of_ble_eq_true rfl) rfl ?_
  refine x_aload (np := 6) (x := 0) (by decide +kernel) rfl (x_nc_le (by decide)) ?_
  refine x_getC (np := 9) (x := 779) (f := 11) (q := (h 63 11)) (by decide +kernel) (by decide) (by decide +kernel) rfl (fun l2 => ?_)
  refine x_istore (np := 10) (x := 3) (lo' := [x_r 63, iv_c 2147483651, iv_c (h 63 10), iv_c (h 63 11), 147573952589676412928, 147573952589676412928, 147573952589676412928, 147573952589676412928]) (by decide +kernel) l2 (Nat.le_of_ble_eq_true rfl) rfl ?_
  refine x_aload (np := 11) (x := 0) (by decide +kernel) rfl (x_nc_le (by decide)) ?_
  refine x_getC (np := 14) (x := 780) (f := 12) (q := (h 63 12)) (by decide +kernel) (by decide) (by decide +kernel) rfl (fun l3 => ?_)
  refine x_istore (np := 16) (x := 4) (lo' := [x_r 63, iv_c 2147483651, iv_c (h 63 10), iv_c (h 63 11), iv_c (h 63 12), 147573952589676412928, 147573952589676412928, 147573952589676412928]) (by decide +kernel) l3 (Nat.le_of_ble_eq_true rfl) rfl ?_
  refine x_aload (np := 17) (x := 0) (by decide +kernel) rfl (x_nc_le (by decide)) ?_
  refine x_getC (np := 20) (x := 781) (f := 13) (q := (h 63 13)) (by decide +kernel) (by decide) (by decide +kernel) rfl (fun l4 => ?_)
  refine x_istore (np := 22) (x := 5) (lo' := [x_r 63, iv_c 2147483651, iv_c (h 63 10), iv_c (h 63 11), iv_c (h 63 12), iv_c (h 63 13), 147573952589676412928, 147573952589676412928]) (by decide +kernel) l4 (Nat.le_of_ble_eq_true rfl) rfl ?_
  refine x_const (np := 23) (x := 9223372039002259456) (a := 2147483648) (by decide +kernel) (by decide) (by decide) ?_
  refine x_istore (np := 25) (x := 6) (lo' := [x_r 63, iv_c 2147483651, iv_c (h 63 10), iv_c (h 63 11), iv_c (h 63 12), iv_c (h 63 13), iv_c 2147483648, 147573952589676412928]) (by decide +kernel) (by decide) (Nat.le_of_ble_eq_true rfl) rfl ?_
  have p1620 : ∀ (n : Nat) (v1614 : Nat) (w1616 : Nat) (h1617 : xh), 4294967296 - v1614 < n → (2147483648 ≤ v1614 ∧ v1614 ≤ 2147483654) → J h1617 → Fr 32769 h h1617 → X sc 275 (d + 10) (xV fun h' => J h' ∧ Fr 32769 h h') 0 0 25 [x_r 63, iv_c 2147483651, iv_c (h 63 10), iv_c (h 63 11), iv_c (h 63 12), iv_c (h 63 13), iv_c v1614, w1616] [] h1617 := by
    intro n
    induction n with
    | zero => intro v1614 w1616 h1617 q1621; exact absurd q1621 (Nat.not_lt_zero _)
    | succ n i1622 =>
      intro v1614 w1616 h1617 q1621 b1615 j1619 f1618
      have f1623 := Fr.trans hF f1618 (by decide)
      refine x_iload (np := 27) (x := 6) (by decide +kernel) rfl (by first | decide | omega) ?_
      refine x_aload (np := 28) (x := 0) (by decide +kernel) rfl (x_nc_le (by decide)) ?_
      have t1624 : tw (h1617 63 6) := j1619.2.2.2.2.2.1
      refine x_getR (np := 31) (x := 774) (f := 6) (q := (h1617 63 6)) (by decide +kernel) (by decide) (by decide +kernel) rfl ?_
      have q1625 : h1617 (h1617 63 6) 7 = h (h1617 63 6) 7 := jK 0 f1618 (rg_T0_7_0_1 t1624) (by first | decide | omega) (by first | decide | omega) (by decide)
      have b1626 := jB (e := 7) 0 hJ (rg_T0_7_0_1 t1624) (by first | decide | omega) (by first | decide | omega)
      refine x_getC (np := 34) (x := 519) (f := 7) (q := (h (h1617 63 6) 7)) (by decide +kernel) (by decide) (tg_0_519_7_0 t1624) q1625 (fun l1627 => ?_)
      refine x_icmp (k := 3) (tg := 95) (np := 37) (by decide +kernel) (by decide) (by first | decide | omega) l1627 (fun q1628 => ?_) (fun q1629 => ?_)
      · have q1628 : (h (h1617 63 6) 7) ≤ v1614 := q1628
        refine x_retV (np := 96) (x := 0) (by decide +kernel) (by decide +kernel) ⟨rfl, ?_⟩
        exact ⟨j1619, f1623⟩
      have q1629 : ¬ ((h (h1617 63 6) 7) ≤ v1614) := q1629
      refine x_const (np := 38) (x := 9223372039002259456) (a := 2147483648) (by decide +kernel) (by decide) (by decide) ?_
      refine x_istore (np := 40) (x := 7) (lo' := [x_r 63, iv_c 2147483651, iv_c (h 63 10), iv_c (h 63 11), iv_c (h 63 12), iv_c (h 63 13), iv_c v1614, iv_c 2147483648]) (by decide +kernel) (by decide) (Nat.le_of_ble_eq_true rfl) rfl ?_
      have p1851 : ∀ (n : Nat) (v1846 : Nat) (h1848 : xh), 4294967296 - v1846 < n → (2147483648 ≤ v1846 ∧ v1846 ≤ 2147483654) → J h1848 → Fr 32769 h1617 h1848 → X sc 275 (d + 10) (xV fun h' => J h' ∧ Fr 32769 h h') 0 0 40 [x_r 63, iv_c 2147483651, iv_c (h 63 10), iv_c (h 63 11), iv_c (h 63 12), iv_c (h 63 13), iv_c v1614, iv_c v1846] [] h1848 := by
        intro n
        induction n with
        | zero => intro v1846 h1848 q1852; exact absurd q1852 (Nat.not_lt_zero _)
        | succ n i1853 =>
          intro v1846 h1848 q1852 b1847 j1850 f1849
          have f1854 := Fr.trans f1623 f1849 (by decide)
          have f1855 := Fr.trans f1618 f1849 (by decide)
          refine x_iload (np := 42) (x := 7) (by decide +kernel) rfl (by first | decide | omega) ?_
          refine x_aload (np := 43) (x := 0) (by decide +kernel) rfl (x_nc_le (by decide)) ?_
          have t1856 : tw (h1848 63 6) := j1850.2.2.2.2.2.1
          refine x_getR (np := 46) (x := 774) (f := 6) (q := (h1848 63 6)) (by decide +kernel) (by decide) (by decide +kernel) rfl ?_
          have q1857 : h1848 (h1848 63 6) 7 = h1617 (h1848 63 6) 7 := jK 0 f1849 (rg_T0_7_0_1 t1856) (by first | decide | omega) (by first | decide | omega) (by decide)
          have q1858 : h1617 (h1848 63 6) 7 = h (h1848 63 6) 7 := jK 0 f1618 (rg_T0_7_0_1 t1856) (by first | decide | omega) (by first | decide | omega) (by decide)
          have b1859 := jB (e := 7) 0 hJ (rg_T0_7_0_1 t1856) (by first | decide | omega) (by first | decide | omega)
          refine x_getC (np := 49) (x := 519) (f := 7) (q := (h (h1848 63 6) 7)) (by decide +kernel) (by decide) (tg_0_519_7_0 t1856) (q1857.trans q1858) (fun l1860 => ?_)
          refine x_icmp (k := 3) (tg := 89) (np := 52) (by decide +kernel) (by decide) (by first | decide | omega) l1860 (fun q1861 => ?_) (fun q1862 => ?_)
          · have q1861 : (h (h1848 63 6) 7) ≤ v1846 := q1861
            refine x_iinc (np := 92) (i := 6) (j := 2147483649) (v := (1 + v1614)) (lo' := [x_r 63, iv_c 2147483651, iv_c (h 63 10), iv_c (h 63 11), iv_c (h 63 12), iv_c (h 63 13), iv_c (1 + v1614), iv_c v1846]) (by decide +kernel) (by decide) (by decide) rfl (by first | decide | omega) (by first | decide | omega) (by first | decide | omega) rfl ?_
            refine x_goto (np := 95) (x := 25) (by decide +kernel) ?_
            exact i1622 (1 + v1614) (iv_c v1846) h1848 (by first | decide | omega) (by first | decide | omega) j1850 f1855
          have q1862 : ¬ ((h (h1848 63 6) 7) ≤ v1846) := q1862
          refine x_iload (np := 53) (x := 2) (by decide +kernel) rfl l1 ?_
          refine x_iload (np := 55) (x := 6) (by decide +kernel) rfl (by first | decide | omega) ?_
          refine x_cP (t := 7) (mj := 148) (n := 2) (rc := 0) (ml := 2) (nr := 0) (np := 58) (as := [iv_c (h 63 10), iv_c v1614]) (rest := []) (lo1 := [iv_c (h 63 10), iv_c v1614]) (by decide +kernel) (by decide) (by decide +kernel) (Or.inl rfl) rfl rfl (x_wi l1 (x_wi (by first | decide | omega) x_wn)) x_wn (by decide) rfl (c148 j1850 (by first | decide | omega) (by first | decide | omega)) (fun v1863 l1864 q1865 => ?_)
          obtain ⟨b1867, c1866⟩ := q1865
          refine x_ifz (k := 0) (tg := 83) (np := 61) (by decide +kernel) (by decide) l1864 (fun q1868 => ?_) (fun q1869 => ?_)
          · have q1868 : v1863 = 2147483648 := q1868
            refine x_iinc (np := 86) (i := 7) (j := 2147483649) (v := (1 + v1846)) (lo' := [x_r 63, iv_c 2147483651, iv_c (h 63 10), iv_c (h 63 11), iv_c (h 63 12), iv_c (h 63 13), iv_c v1614, iv_c (1 + v1846)]) (by decide +kernel) (by decide) (by decide) rfl (by first | decide | omega) (by first | decide | omega) (by first | decide | omega) rfl ?_
            refine x_goto (np := 89) (x := 40) (by decide +kernel) ?_
            exact i1853 (1 + v1846) h1848 (by first | decide | omega) (by first | decide | omega) j1850 f1849
          have q1869 : ¬ (v1863 = 2147483648) := q1869
          refine x_iload (np := 62) (x := 3) (by decide +kernel) rfl l2 ?_
          refine x_iload (np := 64) (x := 7) (by decide +kernel) rfl (by first | decide | omega) ?_
          refine x_cP (t := 7) (mj := 148) (n := 2) (rc := 0) (ml := 2) (nr := 0) (np := 67) (as := [iv_c (h 63 11), iv_c v1846]) (rest := []) (lo1 := [iv_c (h 63 11), iv_c v1846]) (by decide +kernel) (by decide) (by decide +kernel) (Or.inl rfl) rfl rfl (x_wi l2 (x_wi (by first | decide | omega) x_wn)) x_wn (by decide) rfl (c148 j1850 (by first | decide | omega) (by first | decide | omega)) (fun v1870 l1871 q1872 => ?_)
          obtain ⟨b1874, c1873⟩ := q1872
          refine x_ifz (k := 0) (tg := 83) (np := 70) (by decide +kernel) (by decide) l1871 (fun q1875 => ?_) (fun q1876 => ?_)
          · have q1875 : v1870 = 2147483648 := q1875
            refine x_iinc (np := 86) (i := 7) (j := 2147483649) (v := (1 + v1846)) (lo' := [x_r 63, iv_c 2147483651, iv_c (h 63 10), iv_c (h 63 11), iv_c (h 63 12), iv_c (h 63 13), iv_c v1614, iv_c (1 + v1846)]) (by decide +kernel) (by decide) (by decide) rfl (by first | decide | omega) (by first | decide | omega) (by first | decide | omega) rfl ?_
            refine x_goto (np := 89) (x := 40) (by decide +kernel) ?_
            exact i1853 (1 + v1846) h1848 (by first | decide | omega) (by first | decide | omega) j1850 f1849
          have q1876 : ¬ (v1870 = 2147483648) := q1876
          refine x_aload (np := 71) (x := 0) (by decide +kernel) rfl (x_nc_le (by decide)) ?_
          refine x_iload (np := 72) (x := 1) (by decide +kernel) rfl (by decide) ?_
          refine x_iload (np := 74) (x := 6) (by decide +kernel) rfl (by first | decide | omega) ?_
          refine x_iload (np := 76) (x := 7) (by decide +kernel) rfl (by first | decide | omega) ?_
          refine x_iload (np := 78) (x := 4) (by decide +kernel) rfl l3 ?_
          refine x_iload (np := 80) (x := 5) (by decide +kernel) rfl l4 ?_
          refine x_cV (t := 8) (mj := 276) (n := 6) (rc := 13) (ml := 10) (nr := 0) (np := 83) (as := [x_r 63, iv_c 2147483651, iv_c v1614, iv_c v1846, iv_c (h 63 12), iv_c (h 63 13)]) (rest := []) (lo1 := [x_r 63, iv_c 2147483651, iv_c v1614, iv_c v1846, iv_c (h 63 12), iv_c (h 63 13), 147573952589676412928, 147573952589676412928, 147573952589676412928, 147573952589676412928]) (by decide +kernel) (by decide) (by decide +kernel) (x_rb_of (by decide +kernel)) rfl rfl (x_wr (by decide) (x_wi (by decide) (x_wi (by first | decide | omega) (x_wi (by first | decide | omega) (x_wi l3 (x_wi l4 x_wn)))))) x_wn (by decide) rfl (c276_63_c3 j1850   (by first | decide | omega) (by first | decide | omega) (by first | decide | omega) (by first | decide | omega)) (fun h1880 q1879 => ?_)
          obtain ⟨j1881, f1882⟩ := q1879
          have f1885 := Fr.trans f1854 f1882 (by decide)
          have f1886 := Fr.trans f1855 f1882 (by decide)
          have f1887 := Fr.trans f1849 f1882 (by decide)
          refine x_iinc (np := 86) (i := 7) (j := 2147483649) (v := (1 + v1846)) (lo' := [x_r 63, iv_c 2147483651, iv_c (h 63 10), iv_c (h 63 11), iv_c (h 63 12), iv_c (h 63 13), iv_c v1614, iv_c (1 + v1846)]) (by decide +kernel) (by decide) (by decide) rfl (by first | decide | omega) (by first | decide | omega) (by first | decide | omega) rfl ?_
          refine x_goto (np := 89) (x := 40) (by decide +kernel) ?_
          exact i1853 (1 + v1846) h1880 (by first | decide | omega) (by first | decide | omega) j1881 f1887
      exact p1851 _ 2147483648 h1617 (Nat.lt_succ_self _) (by first | decide | omega) j1619 (Fr.refl _ _)
  exact p1620 _ 2147483648 147573952589676412928 h (Nat.lt_succ_self _) (by first | decide | omega) hJ (Fr.refl _ _)
set_option maxHeartbeats 0 in
/-- LentNames$Search.keepSet(I)V -/
theorem c279_63_c3 {sc : Nat × Nat} {d  : Nat} {h : xh} (hJ : J h) : X sc 279 d (xV fun h' => J h' ∧ Fr 32769 h h') 0 0 0 [x_r 63, iv_c 2147483651, 147573952589676412928, 147573952589676412928] [] h := by
  have hF := Fr.refl 32769 h
  refine x_aload (np := 1) (x := 0) (by decide +kernel) rfl (x_nc_le (by decide)) ?_
  refine x_dup (np := 2) (x := 0) (by decide +kernel) (by have z := x_nc_le (k := 63) (by decide); unfold x_r; omega) ?_
  refine x_getC (np := 5) (x := 776) (f := 8) (q := (h 63 8)) (by decide +kernel) (by decide) (by decide +kernel) rfl (fun l1 => ?_)
  refine x_const (np := 6) (x := 9223372043297226753) (a := 2147483649) (by decide +kernel) (by decide) (by decide) ?_
  refine x_addA (by rw [tb_b279]; decide +kernel) l1 (by decide) (fun v2 l3 => ?_)
  refine x_putI (np := 10) (x := 776) (f := 8) (by decide +kernel) (by decide +kernel) l3 (Or.inl (by decide)) ?_
  have j5 := jU (e := 8) (v := v2) 0 hJ rg_63_8_0_1 (by first | decide | omega) (by first | decide | omega) (by first | decide | omega)
  have f7 := jF (e := 8) (v := v2) 0 hF rg_63_8_0_1 (by first | decide | omega) (by first | decide | omega) (by decide)
  generalize e6 : x_up h 63 8 v2 = h4 at j5 f7 ⊢
  refine x_aload (np := 11) (x := 0) (by decide +kernel) rfl (x_nc_le (by decide)) ?_
  have q8 : h4 63 8 = v2 := by rw [← e6]; exact x_up_at
  refine x_getC (np := 14) (x := 776) (f := 8) (q := v2) (by decide +kernel) (by decide) (by decide +kernel) q8 (fun l9 => ?_)
  refine x_const (np := 15) (x := 9223372043297226753) (a := 2147483649) (by decide +kernel) (by decide) (by decide) ?_
  refine x_icmp (k := 5) (tg := 19) (np := 18) (by decide +kernel) (by decide) l3 (by decide) (fun q10 => ?_) (fun q11 => ?_)
  · have q10 : v2 ≤ 2147483649 := q10
    refine x_aload (np := 20) (x := 0) (by decide +kernel) rfl (x_nc_le (by decide)) ?_
    refine x_iload (np := 21) (x := 1) (by decide +kernel) rfl (by decide) ?_
    refine x_putI (np := 24) (x := 783) (f := 15) (by decide +kernel) (by decide +kernel) (by decide) (Or.inl (by decide)) ?_
    have j13 := jU (e := 15) (v := 2147483651) 0 j5 rg_63_15_0_1 (by first | decide | omega) (by first | decide | omega) (by first | decide | omega)
    have f15 := jF (e := 15) (v := 2147483651) 0 f7 rg_63_15_0_1 (by first | decide | omega) (by first | decide | omega) (by decide)
    generalize e14 : x_up h4 63 15 2147483651 = h12 at j13 f15 ⊢
    refine x_const (np := 25) (x := 9223372039002259456) (a := 2147483648) (by decide +kernel) (by decide) (by decide) ?_
    refine x_istore (np := 26) (x := 2) (lo' := [x_r 63, iv_c 2147483651, iv_c 2147483648, 147573952589676412928]) (by decide +kernel) (by decide) (Nat.le_of_ble_eq_true rfl) rfl ?_
    have p622 : ∀ (n : Nat) (v616 : Nat) (w618 : Nat) (h619 : xh), 4294967296 - v616 < n → (2147483648 ≤ v616 ∧ v616 ≤ 2147483653) → J h619 → Fr 32768 h12 h619 → X sc 279 d (xV fun h' => J h' ∧ Fr 32769 h h') 0 0 26 [x_r 63, iv_c 2147483651, iv_c v616, w618] [] h619 := by
      intro n
      induction n with
      | zero => intro v616 w618 h619 q623; exact absurd q623 (Nat.not_lt_zero _)
      | succ n i624 =>
        intro v616 w618 h619 q623 b617 j621 f620
        have f625 := Fr.trans f15 f620 (by decide)
        refine x_iload (np := 27) (x := 2) (by decide +kernel) rfl (by first | decide | omega) ?_
        refine x_aload (np := 28) (x := 0) (by decide +kernel) rfl (x_nc_le (by decide)) ?_
        have b626 := jB (e := 15) 0 j621 rg_63_15_0_1 (by first | decide | omega) (by first | decide | omega)
        refine x_getC (np := 31) (x := 783) (f := 15) (q := (h619 63 15)) (by decide +kernel) (by decide) (by decide +kernel) rfl (fun l627 => ?_)
        refine x_icmp (k := 3) (tg := 95) (np := 34) (by decide +kernel) (by decide) (by first | decide | omega) l627 (fun q628 => ?_) (fun q629 => ?_)
        · have q628 : (h619 63 15) ≤ v616 := q628
          refine x_retV (np := 96) (x := 0) (by decide +kernel) (by decide +kernel) ⟨rfl, ?_⟩
          exact ⟨j621, f625⟩
        have q629 : ¬ ((h619 63 15) ≤ v616) := q629
        refine x_iload (np := 35) (x := 2) (by decide +kernel) rfl (by first | decide | omega) ?_
        refine x_istore (np := 36) (x := 3) (lo' := [x_r 63, iv_c 2147483651, iv_c v616, iv_c v616]) (by decide +kernel) (by first | decide | omega) (Nat.le_of_ble_eq_true rfl) rfl ?_
        have p704 : ∀ (n : Nat) (v699 : Nat) (h701 : xh), v699 < n → (2147483648 ≤ v699 ∧ v699 ≤ 2147483652) → J h701 → Fr 32768 h619 h701 → X sc 279 d (xV fun h' => J h' ∧ Fr 32769 h h') 0 0 36 [x_r 63, iv_c 2147483651, iv_c v616, iv_c v699] [] h701 := by
          intro n
          induction n with
          | zero => intro v699 h701 q705; exact absurd q705 (Nat.not_lt_zero _)
          | succ n i706 =>
            intro v699 h701 q705 b700 j703 f702
            have f707 := Fr.trans f625 f702 (by decide)
            have f708 := Fr.trans f620 f702 (by decide)
            refine x_iload (np := 37) (x := 3) (by decide +kernel) rfl (by first | decide | omega) ?_
            refine x_ifz (k := 5) (tg := 77) (np := 40) (by decide +kernel) (by decide) (by first | decide | omega) (fun q709 => ?_) (fun q710 => ?_)
            · have q709 : v699 ≤ 2147483648 := q709
              refine x_aload (np := 78) (x := 0) (by decide +kernel) rfl (x_nc_le (by decide)) ?_
              have q711 : h701 63 4 = 68 := by have z := jB (e := 4) 0 j703 rg_63_4_0_1 (by decide) (by decide); omega
              refine x_getR (np := 81) (x := 772) (f := 4) (q := 68) (by decide +kernel) (by decide) (by decide +kernel) q711 ?_
              refine x_iload (np := 82) (x := 3) (by decide +kernel) rfl (by first | decide | omega) ?_
              refine x_aload (np := 83) (x := 0) (by decide +kernel) rfl (x_nc_le (by decide)) ?_
              have q712 : h701 63 3 = 67 := by have z := jB (e := 3) 0 j703 rg_63_3_0_1 (by decide) (by decide); omega
              refine x_getR (np := 86) (x := 771) (f := 3) (q := 67) (by decide +kernel) (by decide) (by decide +kernel) q712 ?_
              refine x_iload (np := 87) (x := 2) (by decide +kernel) rfl (by first | decide | omega) ?_
              obtain ⟨u713, q714⟩ : ∃ z, v616 = 2147483648 + z := ⟨v616 - 2147483648, by first | decide | omega⟩
              refine x_aldC (np := 88) (x := 0) (n := 5) (i := u713) (q := (h701 67 u713)) (by decide +kernel) (by decide +kernel) (by first | decide | omega) (by first | decide | omega) (by decide) rfl (fun l715 => ?_)
              obtain ⟨u716, q717⟩ : ∃ z, v699 = 2147483648 + z := ⟨v699 - 2147483648, by first | decide | omega⟩
              refine x_ast (np := 89) (x := 0) (kd := 1) (n := 5) (i := u716) (by decide +kernel) (Or.inl rfl) (by decide +kernel) (by first | decide | omega) (by first | decide | omega) (by decide) l715 (fun z => absurd z (by decide)) ?_
              have j719 := jU (e := u716) (v := (h701 67 u713)) u716 j703 rg_68_0_1_5 (by first | decide | omega) (by first | decide | omega) (by first | decide | omega)
              have f721 := jF (e := u716) (v := (h701 67 u713)) u716 f707 rg_68_0_1_5 (by first | decide | omega) (by first | decide | omega) (by decide)
              have f722 := jF (e := u716) (v := (h701 67 u713)) u716 f708 rg_68_0_1_5 (by first | decide | omega) (by first | decide | omega) (by decide)
              generalize e720 : x_up h701 68 u716 (h701 67 u713) = h718 at j719 f721 f722 ⊢
              refine x_iinc (np := 92) (i := 2) (j := 2147483649) (v := (1 + v616)) (lo' := [x_r 63, iv_c 2147483651, iv_c (1 + v616), iv_c v699]) (by decide +kernel) (by decide) (by decide) rfl (by first | decide | omega) (by first | decide | omega) (by first | decide | omega) rfl ?_
              refine x_goto (np := 95) (x := 26) (by decide +kernel) ?_
              exact i624 (1 + v616) (iv_c v699) h718 (by first | decide | omega) (by first | decide | omega) j719 f722
            have q710 : ¬ (v699 ≤ 2147483648) := q710
            refine x_aload (np := 41) (x := 0) (by decide +kernel) rfl (x_nc_le (by decide)) ?_
            have q723 : h701 63 4 = 68 := by have z := jB (e := 4) 0 j703 rg_63_4_0_1 (by decide) (by decide); omega
            refine x_getR (np := 44) (x := 772) (f := 4) (q := 68) (by decide +kernel) (by decide) (by decide +kernel) q723 ?_
            refine x_iload (np := 45) (x := 3) (by decide +kernel) rfl (by first | decide | omega) ?_
            refine x_const (np := 46) (x := 9223372043297226753) (a := 2147483649) (by decide +kernel) (by decide) (by decide) ?_
            obtain ⟨v724, q725⟩ : ∃ z, z + 2147483649 = v699 + 2147483648 := ⟨v699 + 2147483648 - 2147483649, by first | decide | omega⟩
            refine x_isub (np := 47) (x := 0) (v := v724) (by decide +kernel) (by first | decide | omega) (by decide) (by first | decide | omega) (by first | decide | omega) ?_
            obtain ⟨u726, q727⟩ : ∃ z, v724 = 2147483648 + z := ⟨v724 - 2147483648, by first | decide | omega⟩
            refine x_aldC (np := 48) (x := 0) (n := 5) (i := u726) (q := (h701 68 u726)) (by decide +kernel) (by decide +kernel) (by first | decide | omega) (by first | decide | omega) (by decide) rfl (fun l728 => ?_)
            refine x_aload (np := 49) (x := 0) (by decide +kernel) rfl (x_nc_le (by decide)) ?_
            have q729 : h701 63 3 = 67 := by have z := jB (e := 3) 0 j703 rg_63_3_0_1 (by decide) (by decide); omega
            refine x_getR (np := 52) (x := 771) (f := 3) (q := 67) (by decide +kernel) (by decide) (by decide +kernel) q729 ?_
            refine x_iload (np := 53) (x := 2) (by decide +kernel) rfl (by first | decide | omega) ?_
            obtain ⟨u730, q731⟩ : ∃ z, v616 = 2147483648 + z := ⟨v616 - 2147483648, by first | decide | omega⟩
            refine x_aldC (np := 54) (x := 0) (n := 5) (i := u730) (q := (h701 67 u730)) (by decide +kernel) (by decide +kernel) (by first | decide | omega) (by first | decide | omega) (by decide) rfl (fun l732 => ?_)
            refine x_icmp (k := 5) (tg := 77) (np := 57) (by decide +kernel) (by decide) l728 l732 (fun q733 => ?_) (fun q734 => ?_)
            · have q733 : (h701 68 u726) ≤ (h701 67 u730) := q733
              refine x_aload (np := 78) (x := 0) (by decide +kernel) rfl (x_nc_le (by decide)) ?_
              have q735 : h701 63 4 = 68 := by have z := jB (e := 4) 0 j703 rg_63_4_0_1 (by decide) (by decide); omega
              refine x_getR (np := 81) (x := 772) (f := 4) (q := 68) (by decide +kernel) (by decide) (by decide +kernel) q735 ?_
              refine x_iload (np := 82) (x := 3) (by decide +kernel) rfl (by first | decide | omega) ?_
              refine x_aload (np := 83) (x := 0) (by decide +kernel) rfl (x_nc_le (by decide)) ?_
              have q736 : h701 63 3 = 67 := by have z := jB (e := 3) 0 j703 rg_63_3_0_1 (by decide) (by decide); omega
              refine x_getR (np := 86) (x := 771) (f := 3) (q := 67) (by decide +kernel) (by decide) (by decide +kernel) q736 ?_
              refine x_iload (np := 87) (x := 2) (by decide +kernel) rfl (by first | decide | omega) ?_
              refine x_aldC (np := 88) (x := 0) (n := 5) (i := u730) (q := (h701 67 u730)) (by decide +kernel) (by decide +kernel) (by first | decide | omega) (by first | decide | omega) (by decide) rfl (fun l737 => ?_)
              obtain ⟨u738, q739⟩ : ∃ z, v699 = 2147483648 + z := ⟨v699 - 2147483648, by first | decide | omega⟩
              refine x_ast (np := 89) (x := 0) (kd := 1) (n := 5) (i := u738) (by decide +kernel) (Or.inl rfl) (by decide +kernel) (by first | decide | omega) (by first | decide | omega) (by decide) l732 (fun z => absurd z (by decide)) ?_
              have j741 := jU (e := u738) (v := (h701 67 u730)) u738 j703 rg_68_0_1_5 (by first | decide | omega) (by first | decide | omega) (by first | decide | omega)
              have f743 := jF (e := u738) (v := (h701 67 u730)) u738 f707 rg_68_0_1_5 (by first | decide | omega) (by first | decide | omega) (by decide)
              have f744 := jF (e := u738) (v := (h701 67 u730)) u738 f708 rg_68_0_1_5 (by first | decide | omega) (by first | decide | omega) (by decide)
              generalize e742 : x_up h701 68 u738 (h701 67 u730) = h740 at j741 f743 f744 ⊢
              refine x_iinc (np := 92) (i := 2) (j := 2147483649) (v := (1 + v616)) (lo' := [x_r 63, iv_c 2147483651, iv_c (1 + v616), iv_c v699]) (by decide +kernel) (by decide) (by decide) rfl (by first | decide | omega) (by first | decide | omega) (by first | decide | omega) rfl ?_
              refine x_goto (np := 95) (x := 26) (by decide +kernel) ?_
              exact i624 (1 + v616) (iv_c v699) h740 (by first | decide | omega) (by first | decide | omega) j741 f744
            have q734 : ¬ ((h701 68 u726) ≤ (h701 67 u730)) := q734
            refine x_aload (np := 58) (x := 0) (by decide +kernel) rfl (x_nc_le (by decide)) ?_
            have q745 : h701 63 4 = 68 := by have z := jB (e := 4) 0 j703 rg_63_4_0_1 (by decide) (by decide); omega
            refine x_getR (np := 61) (x := 772) (f := 4) (q := 68) (by decide +kernel) (by decide) (by decide +kernel) q745 ?_
            refine x_iload (np := 62) (x := 3) (by decide +kernel) rfl (by first | decide | omega) ?_
            refine x_aload (np := 63) (x := 0) (by decide +kernel) rfl (x_nc_le (by decide)) ?_
            have q746 : h701 63 4 = 68 := by have z := jB (e := 4) 0 j703 rg_63_4_0_1 (by decide) (by decide); omega
            refine x_getR (np := 66) (x := 772) (f := 4) (q := 68) (by decide +kernel) (by decide) (by decide +kernel) q746 ?_
            refine x_iload (np := 67) (x := 3) (by decide +kernel) rfl (by first | decide | omega) ?_
            refine x_const (np := 68) (x := 9223372043297226753) (a := 2147483649) (by decide +kernel) (by decide) (by decide) ?_
            obtain ⟨v747, q748⟩ : ∃ z, z + 2147483649 = v699 + 2147483648 := ⟨v699 + 2147483648 - 2147483649, by first | decide | omega⟩
            refine x_isub (np := 69) (x := 0) (v := v747) (by decide +kernel) (by first | decide | omega) (by decide) (by first | decide | omega) (by first | decide | omega) ?_
            obtain ⟨u749, q750⟩ : ∃ z, v747 = 2147483648 + z := ⟨v747 - 2147483648, by first | decide | omega⟩
            refine x_aldC (np := 70) (x := 0) (n := 5) (i := u749) (q := (h701 68 u749)) (by decide +kernel) (by decide +kernel) (by first | decide | omega) (by first | decide | omega) (by decide) rfl (fun l751 => ?_)
            obtain ⟨u752, q753⟩ : ∃ z, v699 = 2147483648 + z := ⟨v699 - 2147483648, by first | decide | omega⟩
            refine x_ast (np := 71) (x := 0) (kd := 1) (n := 5) (i := u752) (by decide +kernel) (Or.inl rfl) (by decide +kernel) (by first | decide | omega) (by first | decide | omega) (by decide) l751 (fun z => absurd z (by decide)) ?_
            have j755 := jU (e := u752) (v := (h701 68 u749)) u752 j703 rg_68_0_1_5 (by first | decide | omega) (by first | decide | omega) (by first | decide | omega)
            have f757 := jF (e := u752) (v := (h701 68 u749)) u752 f707 rg_68_0_1_5 (by first | decide | omega) (by first | decide | omega) (by decide)
            have f758 := jF (e := u752) (v := (h701 68 u749)) u752 f708 rg_68_0_1_5 (by first | decide | omega) (by first | decide | omega) (by decide)
            have f759 := jF (e := u752) (v := (h701 68 u749)) u752 f702 rg_68_0_1_5 (by first | decide | omega) (by first | decide | omega) (by decide)
            generalize e756 : x_up h701 68 u752 (h701 68 u749) = h754 at j755 f757 f758 f759 ⊢
            obtain ⟨v760, q761⟩ : ∃ z, z + 1 = v699 := ⟨v699 - 1, by first | decide | omega⟩
            refine x_iinc (np := 74) (i := 3) (j := 2147483647) (v := v760) (lo' := [x_r 63, iv_c 2147483651, iv_c v616, iv_c v760]) (by decide +kernel) (by decide) (by decide) rfl (by first | decide | omega) (by first | decide | omega) (by first | decide | omega) rfl ?_
            refine x_goto (np := 77) (x := 36) (by decide +kernel) ?_
            exact i706 v760 h754 (by first | decide | omega) (by first | decide | omega) j755 f759
        exact p704 _ v616 h619 (Nat.lt_succ_self _) (by first | decide | omega) j621 (Fr.refl _ _)
    exact p622 _ 2147483648 147573952589676412928 h12 (Nat.lt_succ_self _) (by first | decide | omega) j13 (Fr.refl _ _)
  have q11 : ¬ (v2 ≤ 2147483649) := q11
  refine x_retV (np := 19) (x := 0) (by decide +kernel) (by decide +kernel) ⟨rfl, ?_⟩
  exact ⟨j5, f7⟩
set_option maxHeartbeats 0 in
/-- LentNames$Search.come(I)V -/
theorem c274_63_c3 {sc : Nat × Nat} {d  : Nat} {h : xh} (hJ : J h) : X sc 274 (d + 11) (xV fun h' => J h' ∧ Fr 32769 h h') 0 0 0 [x_r 63, iv_c 2147483651] [] h := by
  have hF := Fr.refl 32769 h
  refine x_aload (np := 1) (x := 0) (by decide +kernel) rfl (x_nc_le (by decide)) ?_
  refine x_dup (np := 2) (x := 0) (by decide +kernel) (by have z := x_nc_le (k := 63) (by decide); unfold x_r; omega) ?_
  refine x_getC (np := 5) (x := 785) (f := 17) (q := (h 63 17)) (by decide +kernel) (by decide) (by decide +kernel) rfl (fun l1 => ?_)
  refine x_const (np := 6) (x := 9223372043297226753) (a := 2147483649) (by decide +kernel) (by decide) (by decide) ?_
  refine x_addA (by rw [tb_b274]; decide +kernel) l1 (by decide) (fun v2 l3 => ?_)
  refine x_putI (np := 10) (x := 785) (f := 17) (by decide +kernel) (by decide +kernel) l3 (Or.inl (by decide)) ?_
  have j5 := jU (e := 17) (v := v2) 0 hJ rg_63_17_0_1 (by first | decide | omega) (by first | decide | omega) (by first | decide | omega)
  have f7 := jF (e := 17) (v := v2) 0 hF rg_63_17_0_1 (by first | decide | omega) (by first | decide | omega) (by decide)
  generalize e6 : x_up h 63 17 v2 = h4 at j5 f7 ⊢
  refine x_aload (np := 11) (x := 0) (by decide +kernel) rfl (x_nc_le (by decide)) ?_
  have q8 : h4 63 17 = v2 := by rw [← e6]; exact x_up_at
  refine x_getC (np := 14) (x := 785) (f := 17) (q := v2) (by decide +kernel) (by decide) (by decide +kernel) q8 (fun l9 => ?_)
  refine x_const (np := 17) (x := 9223457938348199456) (a := 2147503648) (by decide +kernel) (by decide) (by decide) ?_
  refine x_icmp (k := 5) (tg := 28) (np := 20) (by decide +kernel) (by decide) l3 (by decide) (fun q10 => ?_) (fun q11 => ?_)
  · have q10 : v2 ≤ 2147503648 := q10
    refine x_aload (np := 29) (x := 0) (by decide +kernel) rfl (x_nc_le (by decide)) ?_
    refine x_vI (P := fun r9 h9 => X sc 274 _ _ 0 0 32 [x_r 63, iv_c 2147483651] (iv_c r9 :: []) h9) (np := 32) (x := 5246979) (kk := 3) (cls := 4) (mj := 56) (ml := 1) (nr := 0) (rest := []) (lo1 := [x_r 63]) (by decide +kernel) (by decide) (by decide) (by decide) (by decide +kernel) (by decide +kernel) (by decide) (by decide +kernel) (by decide +kernel) x_wn (by decide) rfl ?_ (fun _ _ _ z => z)
    refine x_aload (np := 1) (x := 0) (by decide +kernel) rfl (x_nc_le (by decide)) ?_
    refine x_cI (t := 6) (mj := 57) (n := 1) (rc := 5) (ml := 5) (nr := 0) (np := 4) (as := [x_r 63]) (rest := []) (lo1 := [x_r 63, 147573952589676412928, 147573952589676412928, 147573952589676412928, 147573952589676412928]) (by decide +kernel) (by decide) (by decide +kernel) (x_rb_of (by decide +kernel)) rfl rfl (x_wr (by decide) x_wn) x_wn (by decide) rfl (c57_63 j5 ) (fun v12 h15 l13 q14 => ?_)
    obtain ⟨j16, f17, b18⟩ := q14
    have f19 := Fr.trans f7 f17 (by decide)
    refine x_ifz (k := 1) (tg := 14) (np := 7) (by decide +kernel) (by decide) l13 (fun q20 => ?_) (fun q21 => ?_)
    · have q20 : v12 ≠ 2147483648 := q20
      refine x_const (np := 15) (x := 9223372043297226753) (a := 2147483649) (by decide +kernel) (by decide) (by decide) ?_
      refine x_goto (np := 18) (x := 19) (by decide +kernel) ?_
      refine x_retI (np := 20) (x := 0) (by decide +kernel) (by decide) (Or.inr ⟨by decide +kernel, by first | decide | omega, by first | decide | omega⟩) ⟨_, rfl, (by decide), ?_⟩
      refine x_ifz (k := 1) (tg := 43) (np := 35) (by decide +kernel) (by decide) (by decide) (fun q22 => ?_) (fun q23 => ?_)
      · have q22 : 2147483649 ≠ 2147483648 := q22
        refine x_iload (np := 44) (x := 1) (by decide +kernel) rfl (by decide) ?_
        refine x_aload (np := 45) (x := 0) (by decide +kernel) rfl (x_nc_le (by decide)) ?_
        refine x_getC (np := 48) (x := 784) (f := 16) (q := (h15 63 16)) (by decide +kernel) (by decide) (by decide +kernel) rfl (fun l24 => ?_)
        refine x_icmp (k := 3) (tg := 61) (np := 51) (by decide +kernel) (by decide) (by decide) l24 (fun q25 => ?_) (fun q26 => ?_)
        · have q25 : (h15 63 16) ≤ 2147483651 := q25
          refine x_retV (np := 62) (x := 0) (by decide +kernel) (by decide +kernel) ⟨rfl, ?_⟩
          exact ⟨j16, f19⟩
        have q26 : ¬ ((h15 63 16) ≤ 2147483651) := q26
        refine x_iload (np := 52) (x := 1) (by decide +kernel) rfl (by decide) ?_
        refine x_const (np := 53) (x := 9223372060477095941) (a := 2147483653) (by decide +kernel) (by decide) (by decide) ?_
        refine x_icmp (k := 3) (tg := 61) (np := 56) (by decide +kernel) (by decide) (by decide) (by decide) (fun q27 => ?_) (fun q28 => ?_)
        · have q27 : 2147483653 ≤ 2147483651 := q27
          exfalso; omega
        have q28 : ¬ (2147483653 ≤ 2147483651) := q28
        refine x_aload (np := 57) (x := 0) (by decide +kernel) rfl (x_nc_le (by decide)) ?_
        refine x_iload (np := 58) (x := 1) (by decide +kernel) rfl (by decide) ?_
        refine x_cV (t := 8) (mj := 275) (n := 2) (rc := 13) (ml := 8) (nr := 0) (np := 61) (as := [x_r 63, iv_c 2147483651]) (rest := []) (lo1 := [x_r 63, iv_c 2147483651, 147573952589676412928, 147573952589676412928, 147573952589676412928, 147573952589676412928, 147573952589676412928, 147573952589676412928]) (by decide +kernel) (by decide) (by decide +kernel) (x_rb_of (by decide +kernel)) rfl rfl (x_wr (by decide) (x_wi (by decide) x_wn)) x_wn (by decide) rfl (c275_63_c3 j16  ) (fun h32 q31 => ?_)
        obtain ⟨j33, f34⟩ := q31
        have f37 := Fr.trans f19 f34 (by decide)
        refine x_retV (np := 62) (x := 0) (by decide +kernel) (by decide +kernel) ⟨rfl, ?_⟩
        exact ⟨j33, f37⟩
      have q23 : ¬ (2147483649 ≠ 2147483648) := q23
      exfalso; omega
    have q21 : ¬ (v12 ≠ 2147483648) := q21
    refine x_aload (np := 8) (x := 0) (by decide +kernel) rfl (x_nc_le (by decide)) ?_
    refine x_cI (t := 6) (mj := 58) (n := 1) (rc := 5) (ml := 4) (nr := 0) (np := 11) (as := [x_r 63]) (rest := []) (lo1 := [x_r 63, 147573952589676412928, 147573952589676412928, 147573952589676412928]) (by decide +kernel) (by decide) (by decide +kernel) (x_rb_of (by decide +kernel)) rfl rfl (x_wr (by decide) x_wn) x_wn (by decide) rfl (c58_63 j16 ) (fun v38 h41 l39 q40 => ?_)
    obtain ⟨j42, f43, b44⟩ := q40
    have f45 := Fr.trans f19 f43 (by decide)
    refine x_ifz (k := 0) (tg := 18) (np := 14) (by decide +kernel) (by decide) l39 (fun q46 => ?_) (fun q47 => ?_)
    · have q46 : v38 = 2147483648 := q46
      refine x_const (np := 19) (x := 9223372039002259456) (a := 2147483648) (by decide +kernel) (by decide) (by decide) ?_
      refine x_retI (np := 20) (x := 0) (by decide +kernel) (by decide) (Or.inr ⟨by decide +kernel, by first | decide | omega, by first | decide | omega⟩) ⟨_, rfl, (by decide), ?_⟩
      refine x_ifz (k := 1) (tg := 43) (np := 35) (by decide +kernel) (by decide) (by decide) (fun q48 => ?_) (fun q49 => ?_)
      · have q48 : 2147483648 ≠ 2147483648 := q48
        exfalso; omega
      have q49 : ¬ (2147483648 ≠ 2147483648) := q49
      refine x_aload (np := 36) (x := 0) (by decide +kernel) rfl (x_nc_le (by decide)) ?_
      refine x_iload (np := 37) (x := 1) (by decide +kernel) rfl (by decide) ?_
      refine x_cV (t := 8) (mj := 279) (n := 2) (rc := 13) (ml := 4) (nr := 0) (np := 40) (as := [x_r 63, iv_c 2147483651]) (rest := []) (lo1 := [x_r 63, iv_c 2147483651, 147573952589676412928, 147573952589676412928]) (by decide +kernel) (by decide) (by decide +kernel) (x_rb_of (by decide +kernel)) rfl rfl (x_wr (by decide) (x_wi (by decide) x_wn)) x_wn (by decide) rfl (c279_63_c3 j42  ) (fun h53 q52 => ?_)
      obtain ⟨j54, f55⟩ := q52
      have f58 := Fr.trans f45 f55 (by decide)
      refine x_goto (np := 43) (x := 61) (by decide +kernel) ?_
      refine x_retV (np := 62) (x := 0) (by decide +kernel) (by decide +kernel) ⟨rfl, ?_⟩
      exact ⟨j54, f58⟩
    have q47 : ¬ (v38 = 2147483648) := q47
    refine x_const (np := 15) (x := 9223372043297226753) (a := 2147483649) (by decide +kernel) (by decide) (by decide) ?_
    refine x_goto (np := 18) (x := 19) (by decide +kernel) ?_
    refine x_retI (np := 20) (x := 0) (by decide +kernel) (by decide) (Or.inr ⟨by decide +kernel, by first | decide | omega, by first | decide | omega⟩) ⟨_, rfl, (by decide), ?_⟩
    refine x_ifz (k := 1) (tg := 43) (np := 35) (by decide +kernel) (by decide) (by decide) (fun q59 => ?_) (fun q60 => ?_)
    · have q59 : 2147483649 ≠ 2147483648 := q59
      refine x_iload (np := 44) (x := 1) (by decide +kernel) rfl (by decide) ?_
      refine x_aload (np := 45) (x := 0) (by decide +kernel) rfl (x_nc_le (by decide)) ?_
      refine x_getC (np := 48) (x := 784) (f := 16) (q := (h41 63 16)) (by decide +kernel) (by decide) (by decide +kernel) rfl (fun l61 => ?_)
      refine x_icmp (k := 3) (tg := 61) (np := 51) (by decide +kernel) (by decide) (by decide) l61 (fun q62 => ?_) (fun q63 => ?_)
      · have q62 : (h41 63 16) ≤ 2147483651 := q62
        refine x_retV (np := 62) (x := 0) (by decide +kernel) (by decide +kernel) ⟨rfl, ?_⟩
        exact ⟨j42, f45⟩
      have q63 : ¬ ((h41 63 16) ≤ 2147483651) := q63
      refine x_iload (np := 52) (x := 1) (by decide +kernel) rfl (by decide) ?_
      refine x_const (np := 53) (x := 9223372060477095941) (a := 2147483653) (by decide +kernel) (by decide) (by decide) ?_
      refine x_icmp (k := 3) (tg := 61) (np := 56) (by decide +kernel) (by decide) (by decide) (by decide) (fun q64 => ?_) (fun q65 => ?_)
      · have q64 : 2147483653 ≤ 2147483651 := q64
        exfalso; omega
      have q65 : ¬ (2147483653 ≤ 2147483651) := q65
      refine x_aload (np := 57) (x := 0) (by decide +kernel) rfl (x_nc_le (by decide)) ?_
      refine x_iload (np := 58) (x := 1) (by decide +kernel) rfl (by decide) ?_
      refine x_cV (t := 8) (mj := 275) (n := 2) (rc := 13) (ml := 8) (nr := 0) (np := 61) (as := [x_r 63, iv_c 2147483651]) (rest := []) (lo1 := [x_r 63, iv_c 2147483651, 147573952589676412928, 147573952589676412928, 147573952589676412928, 147573952589676412928, 147573952589676412928, 147573952589676412928]) (by decide +kernel) (by decide) (by decide +kernel) (x_rb_of (by decide +kernel)) rfl rfl (x_wr (by decide) (x_wi (by decide) x_wn)) x_wn (by decide) rfl (c275_63_c3 j42  ) (fun h69 q68 => ?_)
      obtain ⟨j70, f71⟩ := q68
      have f74 := Fr.trans f45 f71 (by decide)
      refine x_retV (np := 62) (x := 0) (by decide +kernel) (by decide +kernel) ⟨rfl, ?_⟩
      exact ⟨j70, f74⟩
    have q60 : ¬ (2147483649 ≠ 2147483648) := q60
    exfalso; omega
  have q11 : ¬ (v2 ≤ 2147503648) := q11
  refine x_aload (np := 21) (x := 0) (by decide +kernel) rfl (x_nc_le (by decide)) ?_
  refine x_const (np := 22) (x := 9223372043297226753) (a := 2147483649) (by decide +kernel) (by decide) (by decide) ?_
  refine x_putI (np := 25) (x := 4873) (f := 9) (by decide +kernel) (by decide +kernel) (by decide) (Or.inr ⟨by decide, by first | decide | omega, by first | decide | omega⟩) ?_
  have j76 := jU (e := 9) (v := 2147483649) 0 j5 rg_63_9_0_1 (by first | decide | omega) (by first | decide | omega) (by first | decide | omega)
  have f78 := jF (e := 9) (v := 2147483649) 0 f7 rg_63_9_0_1 (by first | decide | omega) (by first | decide | omega) (by decide)
  generalize e77 : x_up h4 63 9 2147483649 = h75 at j76 f78 ⊢
  refine x_goto (np := 28) (x := 61) (by decide +kernel) ?_
  refine x_retV (np := 62) (x := 0) (by decide +kernel) (by decide +kernel) ⟨rfl, ?_⟩
  exact ⟨j76, f78⟩
set_option maxHeartbeats 0 in
/-- LentNames$Search.tryLoan(IIIII)V -/
theorem c277_63_c2 {sc : Nat × Nat} {d a2 a3 a4 a5 : Nat} {h : xh} (hJ : J h) (ba2 : 2147483648 ≤ a2 ∧ a2 ≤ 2147483653) (ba3 : 2147483648 ≤ a3 ∧ a3 ≤ 2147483653) (ba4 : 2147483648 ≤ a4 ∧ a4 ≤ 2147483659) (ba5 : 2147483648 ≤ a5 ∧ a5 ≤ 2147483659) : X sc 277 (d + 12) (xV fun h' => J h' ∧ Fr 32769 h h') 0 0 0 [x_r 63, iv_c 2147483650, iv_c a2, iv_c a3, iv_c a4, iv_c a5, 147573952589676412928] [] h := by
  have la2 : a2 < 4294967296 := by first | decide | omega
  have la3 : a3 < 4294967296 := by first | decide | omega
  have la4 : a4 < 4294967296 := by first | decide | omega
  have la5 : a5 < 4294967296 := by first | decide | omega
  have hF := Fr.refl 32769 h
  refine x_const (np := 1) (x := 9223372043297226753) (a := 2147483649) (by decide +kernel) (by decide) (by decide) ?_
  refine x_iload (np := 3) (x := 5) (by decide +kernel) rfl la5 ?_
  refine x_const (np := 4) (x := 9223372043297226753) (a := 2147483649) (by decide +kernel) (by decide) (by decide) ?_
  refine x_iadd (np := 5) (x := 0) (v := (1 + a5)) (by decide +kernel) la5 (by decide) (by first | decide | omega) (by first | decide | omega) ?_
  refine x_any (np := 6) (k9 := 3) (by decide +kernel) (by decide) (by decide) (by first | decide | omega) (fun v1 l2 => ?_)
  refine x_const (np := 7) (x := 9223372043297226753) (a := 2147483649) (by decide +kernel) (by decide) (by decide) ?_
  refine x_iload (np := 9) (x := 4) (by decide +kernel) rfl la4 ?_
  refine x_any (np := 10) (k9 := 3) (by decide +kernel) (by decide) (by decide) la4 (fun v3 l4 => ?_)
  refine x_subA (by rw [tb_b277]; decide +kernel) l2 l4 (fun v5 l6 => ?_)
  refine x_istore (np := 13) (x := 6) (lo' := [x_r 63, iv_c 2147483650, iv_c a2, iv_c a3, iv_c a4, iv_c a5, iv_c v5]) (by decide +kernel) l6 (Nat.le_of_ble_eq_true rfl) rfl ?_
  refine x_aload (np := 14) (x := 0) (by decide +kernel) rfl (x_nc_le (by decide)) ?_
  have q7 : h 63 3 = 67 := by have z := jB (e := 3) 0 hJ rg_63_3_0_1 (by decide) (by decide); omega
  refine x_getR (np := 17) (x := 771) (f := 3) (q := 67) (by decide +kernel) (by decide) (by decide +kernel) q7 ?_
  refine x_iload (np := 18) (x := 1) (by decide +kernel) rfl (by decide) ?_
  refine x_const (np := 21) (x := 9223414988675229456) (a := 2147493648) (by decide +kernel) (by decide) (by decide) ?_
  refine x_iload (np := 22) (x := 2) (by decide +kernel) rfl la2 ?_
  obtain ⟨u8, q9⟩ : ∃ z, a2 = 2147483648 + z := ⟨a2 - 2147483648, by first | decide | omega⟩
  refine x_imul (np := 23) (x := 0) (i := 10000) (j := u8) (v := (2147483648 + 10000 * u8)) (by decide +kernel) (by first | decide | omega) (by first | decide | omega) (by first | decide | omega) (by first | decide | omega) (by decide) la2 ?_
  refine x_const (np := 26) (x := 9223376333969556456) (a := 2147484648) (by decide +kernel) (by decide) (by decide) ?_
  refine x_iload (np := 27) (x := 3) (by decide +kernel) rfl la3 ?_
  obtain ⟨u11, q12⟩ : ∃ z, a3 = 2147483648 + z := ⟨a3 - 2147483648, by first | decide | omega⟩
  refine x_imul (np := 28) (x := 0) (i := 1000) (j := u11) (v := (2147483648 + 1000 * u11)) (by decide +kernel) (by first | decide | omega) (by first | decide | omega) (by first | decide | omega) (by first | decide | omega) (by decide) la3 ?_
  refine x_iadd (np := 29) (x := 0) (v := (2147483648 + 10000 * u8 + 1000 * u11)) (by decide +kernel) (by first | decide | omega) (by first | decide | omega) (by first | decide | omega) (by first | decide | omega) ?_
  refine x_const (np := 31) (x := 9223372124901605396) (a := 2147483668) (by decide +kernel) (by decide) (by decide) ?_
  refine x_iload (np := 33) (x := 4) (by decide +kernel) rfl la4 ?_
  obtain ⟨u14, q15⟩ : ∃ z, a4 = 2147483648 + z := ⟨a4 - 2147483648, by first | decide | omega⟩
  refine x_imul (np := 34) (x := 0) (i := 20) (j := u14) (v := (2147483648 + 20 * u14)) (by decide +kernel) (by first | decide | omega) (by first | decide | omega) (by first | decide | omega) (by first | decide | omega) (by decide) la4 ?_
  refine x_iadd (np := 35) (x := 0) (v := (2147483648 + 10000 * u8 + 1000 * u11 + 20 * u14)) (by decide +kernel) (by first | decide | omega) (by first | decide | omega) (by first | decide | omega) (by first | decide | omega) ?_
  refine x_iload (np := 37) (x := 5) (by decide +kernel) rfl la5 ?_
  refine x_iadd (np := 38) (x := 0) (v := (10000 * u8 + 1000 * u11 + 20 * u14 + a5)) (by decide +kernel) (by first | decide | omega) la5 (by first | decide | omega) (by first | decide | omega) ?_
  refine x_ast (np := 39) (x := 0) (kd := 1) (n := 5) (i := 2) (by decide +kernel) (Or.inl rfl) (by decide +kernel) (by first | decide | omega) (by first | decide | omega) (by decide) (by first | decide | omega) (fun z => absurd z (by decide)) ?_
  have j18 := jU (e := 2) (v := (10000 * u8 + 1000 * u11 + 20 * u14 + a5)) 2 hJ rg_67_0_1_5 (by first | decide | omega) (by first | decide | omega) (by first | decide | omega)
  have f20 := jF (e := 2) (v := (10000 * u8 + 1000 * u11 + 20 * u14 + a5)) 2 hF rg_67_0_1_5 (by first | decide | omega) (by first | decide | omega) (by decide)
  generalize e19 : x_up h 67 2 (10000 * u8 + 1000 * u11 + 20 * u14 + a5) = h17 at j18 f20 ⊢
  refine x_aload (np := 40) (x := 0) (by decide +kernel) rfl (x_nc_le (by decide)) ?_
  refine x_iload (np := 41) (x := 2) (by decide +kernel) rfl la2 ?_
  refine x_iload (np := 42) (x := 3) (by decide +kernel) rfl la3 ?_
  refine x_iload (np := 44) (x := 6) (by decide +kernel) rfl l6 ?_
  refine x_cV (t := 8) (mj := 280) (n := 4) (rc := 13) (ml := 5) (nr := 0) (np := 47) (as := [x_r 63, iv_c a2, iv_c a3, iv_c v5]) (rest := []) (lo1 := [x_r 63, iv_c a2, iv_c a3, iv_c v5, 147573952589676412928]) (by decide +kernel) (by decide) (by decide +kernel) (x_rb_of (by decide +kernel)) rfl rfl (x_wr (by decide) (x_wi la2 (x_wi la3 (x_wi l6 x_wn)))) x_wn (by decide) rfl (c280_63 j18  (by first | decide | omega) (by first | decide | omega) (by first | decide | omega)) (fun h24 q23 => ?_)
  obtain ⟨j25, f26⟩ := q23
  have f29 := Fr.trans f20 f26 (by decide)
  refine x_aload (np := 48) (x := 0) (by decide +kernel) rfl (x_nc_le (by decide)) ?_
  refine x_iload (np := 49) (x := 1) (by decide +kernel) rfl (by decide) ?_
  refine x_const (np := 50) (x := 9223372043297226753) (a := 2147483649) (by decide +kernel) (by decide) (by decide) ?_
  refine x_iadd (np := 51) (x := 0) (v := 2147483651) (by decide +kernel) (by decide) (by decide) (by first | decide | omega) (by first | decide | omega) ?_
  refine x_cV (t := 8) (mj := 274) (n := 2) (rc := 13) (ml := 2) (nr := 0) (np := 54) (as := [x_r 63, iv_c 2147483651]) (rest := []) (lo1 := [x_r 63, iv_c 2147483651]) (by decide +kernel) (by decide) (by decide +kernel) (x_rb_of (by decide +kernel)) rfl rfl (x_wr (by decide) (x_wi (by decide) x_wn)) x_wn (by decide) rfl (c274_63_c3 j25  ) (fun h33 q32 => ?_)
  obtain ⟨j34, f35⟩ := q32
  have f38 := Fr.trans f29 f35 (by decide)
  refine x_aload (np := 55) (x := 0) (by decide +kernel) rfl (x_nc_le (by decide)) ?_
  refine x_iload (np := 56) (x := 2) (by decide +kernel) rfl la2 ?_
  refine x_iload (np := 58) (x := 6) (by decide +kernel) rfl l6 ?_
  refine x_cV (t := 8) (mj := 281) (n := 3) (rc := 13) (ml := 5) (nr := 0) (np := 61) (as := [x_r 63, iv_c a2, iv_c v5]) (rest := []) (lo1 := [x_r 63, iv_c a2, iv_c v5, 147573952589676412928, 147573952589676412928]) (by decide +kernel) (by decide) (by decide +kernel) (x_rb_of (by decide +kernel)) rfl rfl (x_wr (by decide) (x_wi la2 (x_wi l6 x_wn))) x_wn (by decide) rfl (c281_63 j34  (by first | decide | omega) (by first | decide | omega)) (fun h42 q41 => ?_)
  obtain ⟨j43, f44⟩ := q41
  have f47 := Fr.trans f38 f44 (by decide)
  refine x_retV (np := 62) (x := 0) (by decide +kernel) (by decide +kernel) ⟨rfl, ?_⟩
  exact ⟨j43, f47⟩
set_option maxHeartbeats 0 in
/-- LentNames$Search.tryLoans(IIIII)V -/
theorem c276_63_c2 {sc : Nat × Nat} {d a2 a3 a4 a5 : Nat} {h : xh} (hJ : J h) (ba2 : 2147483648 ≤ a2 ∧ a2 ≤ 2147483653) (ba3 : 2147483648 ≤ a3 ∧ a3 ≤ 2147483653) (ba4 : 0 ≤ a4 ∧ a4 ≤ 4294967295) (ba5 : 0 ≤ a5 ∧ a5 ≤ 4294967295) : X sc 276 (d + 13) (xV fun h' => J h' ∧ Fr 32769 h h') 0 0 0 [x_r 63, iv_c 2147483650, iv_c a2, iv_c a3, iv_c a4, iv_c a5, 147573952589676412928, 147573952589676412928, 147573952589676412928, 147573952589676412928] [] h := by
  have la2 : a2 < 4294967296 := by first | decide | omega
  have la3 : a3 < 4294967296 := by first | decide | omega
  have la4 : a4 < 4294967296 := by first | decide | omega
  have la5 : a5 < 4294967296 := by first | decide | omega
  have hF := Fr.refl 32769 h
  refine x_aload (np := 1) (x := 0) (by decide +kernel) rfl (x_nc_le (by decide)) ?_
  have q1 : h 63 5 = 45 := by have z := jB (e := 5) 0 hJ rg_63_5_0_1 (by decide) (by decide); omega
  refine x_getR (np := 4) (x := 773) (f := 5) (q := 45) (by decide +kernel) (by decide) (by decide +kernel) q1 ?_
  have q2 : h 45 0 = 46 := by have z := jB (e := 0) 0 hJ rg_45_0_0_1 (by decide) (by decide); omega
  refine x_getR (np := 7) (x := 64) (f := 0) (q := 46) (by decide +kernel) (by decide) (by decide +kernel) q2 ?_
  refine x_iload (np := 8) (x := 3) (by decide +kernel) rfl la3 ?_
  obtain ⟨u3, q4⟩ : ∃ z, a3 = 2147483648 + z := ⟨a3 - 2147483648, by first | decide | omega⟩
  refine x_aldC (np := 9) (x := 0) (n := 6) (i := u3) (q := (h 46 u3)) (by decide +kernel) (by decide +kernel) (by first | decide | omega) (by first | decide | omega) (by decide) rfl (fun l5 => ?_)
  refine x_aload (np := 10) (x := 0) (by decide +kernel) rfl (x_nc_le (by decide)) ?_
  have q6 : h 63 5 = 45 := by have z := jB (e := 5) 0 hJ rg_63_5_0_1 (by decide) (by decide); omega
  refine x_getR (np := 13) (x := 773) (f := 5) (q := 45) (by decide +kernel) (by decide) (by decide +kernel) q6 ?_
  have q7 : h 45 1 = 47 := by have z := jB (e := 1) 0 hJ rg_45_1_0_1 (by decide) (by decide); omega
  refine x_getR (np := 16) (x := 65) (f := 1) (q := 47) (by decide +kernel) (by decide) (by decide +kernel) q7 ?_
  refine x_iload (np := 17) (x := 2) (by decide +kernel) rfl la2 ?_
  refine x_iload (np := 18) (x := 3) (by decide +kernel) rfl la3 ?_
  refine x_nI (t := 7) (mj := 149) (n := 2) (rc := 0) (ml := 2) (nr := 2) (np := 21) (as := [iv_c a2, iv_c a3]) (rest := [x_r 47, iv_c (h 46 u3)]) (lo1 := [iv_c a2, iv_c a3]) (by decide +kernel) (by decide) (by decide +kernel) (Or.inl rfl) rfl rfl (x_wi la2 (x_wi la3 x_wn)) (x_wr (by decide) (x_wi l5 x_wn)) (by decide) rfl ?_
  refine x_iload (np := 1) (x := 0) (by decide +kernel) rfl la2 ?_
  refine x_const (np := 3) (x := 9223372064772063238) (a := 2147483654) (by decide +kernel) (by decide) (by decide) ?_
  obtain ⟨u8, q9⟩ : ∃ z, a2 = 2147483648 + z := ⟨a2 - 2147483648, by first | decide | omega⟩
  refine x_imul (np := 4) (x := 0) (i := u8) (j := 6) (v := (2147483648 + 6 * u8)) (by decide +kernel) (by first | decide | omega) (by first | decide | omega) (by first | decide | omega) (by first | decide | omega) la2 (by decide) ?_
  refine x_iload (np := 5) (x := 1) (by decide +kernel) rfl la3 ?_
  refine x_iadd (np := 6) (x := 0) (v := (6 * u8 + a3)) (by decide +kernel) (by first | decide | omega) la3 (by first | decide | omega) (by first | decide | omega) ?_
  refine x_retI (np := 7) (x := 0) (by decide +kernel) (by first | decide | omega) (Or.inl (by decide +kernel)) ⟨_, rfl, (by first | decide | omega), ?_⟩
  refine x_aldC (np := 22) (x := 0) (n := 36) (i := (6 * u8 + u3)) (q := ((h 47 (6 * u8 + u3)))) (by decide +kernel) (by decide +kernel) (by first | decide | omega) (by first | decide | omega) (by decide) rfl (fun l11 => ?_)
  refine x_const (np := 23) (x := 9223372034707292159) (a := 2147483647) (by decide +kernel) (by decide) (by decide) ?_
  refine x_any (np := 24) (k9 := 2) (by decide +kernel) (by decide) l11 (by decide) (fun v12 l13 => ?_)
  refine x_any (np := 25) (k9 := 0) (by decide +kernel) (by decide) l5 l13 (fun v14 l15 => ?_)
  refine x_aload (np := 26) (x := 0) (by decide +kernel) rfl (x_nc_le (by decide)) ?_
  have q16 : h 63 2 = 66 := by have z := jB (e := 2) 0 hJ rg_63_2_0_1 (by decide) (by decide); omega
  refine x_getR (np := 29) (x := 770) (f := 2) (q := 66) (by decide +kernel) (by decide) (by decide +kernel) q16 ?_
  refine x_iload (np := 30) (x := 2) (by decide +kernel) rfl la2 ?_
  refine x_aldC (np := 31) (x := 0) (n := 6) (i := u8) (q := (h 66 u8)) (by decide +kernel) (by decide +kernel) (by first | decide | omega) (by first | decide | omega) (by decide) rfl (fun l17 => ?_)
  refine x_const (np := 32) (x := 9223372034707292159) (a := 2147483647) (by decide +kernel) (by decide) (by decide) ?_
  refine x_any (np := 33) (k9 := 2) (by decide +kernel) (by decide) l17 (by decide) (fun v18 l19 => ?_)
  refine x_any (np := 34) (k9 := 0) (by decide +kernel) (by decide) l15 l19 (fun v20 l21 => ?_)
  refine x_istore (np := 36) (x := 6) (lo' := [x_r 63, iv_c 2147483650, iv_c a2, iv_c a3, iv_c a4, iv_c a5, iv_c v20, 147573952589676412928, 147573952589676412928, 147573952589676412928]) (by decide +kernel) l21 (Nat.le_of_ble_eq_true rfl) rfl ?_
  refine x_aload (np := 37) (x := 0) (by decide +kernel) rfl (x_nc_le (by decide)) ?_
  have q22 : h 63 1 = 65 := by have z := jB (e := 1) 0 hJ rg_63_1_0_1 (by decide) (by decide); omega
  refine x_getR (np := 40) (x := 769) (f := 1) (q := 65) (by decide +kernel) (by decide) (by decide +kernel) q22 ?_
  refine x_iload (np := 41) (x := 2) (by decide +kernel) rfl la2 ?_
  refine x_aldC (np := 42) (x := 0) (n := 6) (i := u8) (q := (h 65 u8)) (by decide +kernel) (by decide +kernel) (by first | decide | omega) (by first | decide | omega) (by decide) rfl (fun l23 => ?_)
  refine x_iload (np := 44) (x := 6) (by decide +kernel) rfl l21 ?_
  refine x_any (np := 45) (k9 := 0) (by decide +kernel) (by decide) l23 l21 (fun v24 l25 => ?_)
  refine x_istore (np := 47) (x := 7) (lo' := [x_r 63, iv_c 2147483650, iv_c a2, iv_c a3, iv_c a4, iv_c a5, iv_c v20, iv_c v24, 147573952589676412928, 147573952589676412928]) (by decide +kernel) l25 (Nat.le_of_ble_eq_true rfl) rfl ?_
  refine x_const (np := 48) (x := 9223372039002259456) (a := 2147483648) (by decide +kernel) (by decide) (by decide) ?_
  refine x_istore (np := 50) (x := 8) (lo' := [x_r 63, iv_c 2147483650, iv_c a2, iv_c a3, iv_c a4, iv_c a5, iv_c v20, iv_c v24, iv_c 2147483648, 147573952589676412928]) (by decide +kernel) (by decide) (Nat.le_of_ble_eq_true rfl) rfl ?_
  have p4060 : ∀ (n : Nat) (v4054 : Nat) (w4056 : Nat) (h4057 : xh), 4294967296 - v4054 < n → (2147483648 ≤ v4054 ∧ v4054 ≤ 2147483660) → J h4057 → Fr 32769 h h4057 → X sc 276 (d + 13) (xV fun h' => J h' ∧ Fr 32769 h h') 0 0 50 [x_r 63, iv_c 2147483650, iv_c a2, iv_c a3, iv_c a4, iv_c a5, iv_c v20, iv_c v24, iv_c v4054, w4056] [] h4057 := by
    intro n
    induction n with
    | zero => intro v4054 w4056 h4057 q4061; exact absurd q4061 (Nat.not_lt_zero _)
    | succ n i4062 =>
      intro v4054 w4056 h4057 q4061 b4055 j4059 f4058
      have f4063 := Fr.trans hF f4058 (by decide)
      refine x_iload (np := 52) (x := 8) (by decide +kernel) rfl (by first | decide | omega) ?_
      refine x_iload (np := 54) (x := 5) (by decide +kernel) rfl la5 ?_
      refine x_icmp (k := 4) (tg := 145) (np := 57) (by decide +kernel) (by decide) (by first | decide | omega) la5 (fun q4064 => ?_) (fun q4065 => ?_)
      · have q4064 : a5 < v4054 := q4064
        refine x_retV (np := 146) (x := 0) (by decide +kernel) (by decide +kernel) ⟨rfl, ?_⟩
        exact ⟨j4059, f4063⟩
      have q4065 : ¬ (a5 < v4054) := q4065
      refine x_iload (np := 59) (x := 8) (by decide +kernel) rfl (by first | decide | omega) ?_
      refine x_const (np := 61) (x := 9223372090541867020) (a := 2147483660) (by decide +kernel) (by decide) (by decide) ?_
      refine x_icmp (k := 3) (tg := 145) (np := 64) (by decide +kernel) (by decide) (by first | decide | omega) (by decide) (fun q4066 => ?_) (fun q4067 => ?_)
      · have q4066 : 2147483660 ≤ v4054 := q4066
        refine x_retV (np := 146) (x := 0) (by decide +kernel) (by decide +kernel) ⟨rfl, ?_⟩
        exact ⟨j4059, f4063⟩
      have q4067 : ¬ (2147483660 ≤ v4054) := q4067
      refine x_iload (np := 66) (x := 7) (by decide +kernel) rfl l25 ?_
      refine x_iload (np := 68) (x := 8) (by decide +kernel) rfl (by first | decide | omega) ?_
      refine x_cP (t := 7) (mj := 148) (n := 2) (rc := 0) (ml := 2) (nr := 0) (np := 71) (as := [iv_c v24, iv_c v4054]) (rest := []) (lo1 := [iv_c v24, iv_c v4054]) (by decide +kernel) (by decide) (by decide +kernel) (Or.inl rfl) rfl rfl (x_wi l25 (x_wi (by first | decide | omega) x_wn)) x_wn (by decide) rfl (c148 j4059 (by first | decide | omega) (by first | decide | omega)) (fun v4068 l4069 q4070 => ?_)
      obtain ⟨b4072, c4071⟩ := q4070
      refine x_ifz (k := 1) (tg := 77) (np := 74) (by decide +kernel) (by decide) l4069 (fun q4073 => ?_) (fun q4074 => ?_)
      · have q4073 : v4068 ≠ 2147483648 := q4073
        refine x_iload (np := 79) (x := 8) (by decide +kernel) rfl (by first | decide | omega) ?_
        refine x_istore (np := 81) (x := 9) (lo' := [x_r 63, iv_c 2147483650, iv_c a2, iv_c a3, iv_c a4, iv_c a5, iv_c v20, iv_c v24, iv_c v4054, iv_c v4054]) (by decide +kernel) (by first | decide | omega) (Nat.le_of_ble_eq_true rfl) rfl ?_
        have p4175 : ∀ (n : Nat) (v4170 : Nat) (h4172 : xh), 4294967296 - v4170 < n → (2147483648 ≤ v4170 ∧ v4170 ≤ 2147483660) → J h4172 → Fr 32769 h4057 h4172 → X sc 276 (d + 13) (xV fun h' => J h' ∧ Fr 32769 h h') 0 0 81 [x_r 63, iv_c 2147483650, iv_c a2, iv_c a3, iv_c a4, iv_c a5, iv_c v20, iv_c v24, iv_c v4054, iv_c v4170] [] h4172 := by
          intro n
          induction n with
          | zero => intro v4170 h4172 q4176; exact absurd q4176 (Nat.not_lt_zero _)
          | succ n i4177 =>
            intro v4170 h4172 q4176 b4171 j4174 f4173
            have f4178 := Fr.trans f4063 f4173 (by decide)
            have f4179 := Fr.trans f4058 f4173 (by decide)
            refine x_iload (np := 83) (x := 9) (by decide +kernel) rfl (by first | decide | omega) ?_
            refine x_const (np := 85) (x := 9223372090541867020) (a := 2147483660) (by decide +kernel) (by decide) (by decide) ?_
            refine x_icmp (k := 3) (tg := 139) (np := 88) (by decide +kernel) (by decide) (by first | decide | omega) (by decide) (fun q4180 => ?_) (fun q4181 => ?_)
            · have q4180 : 2147483660 ≤ v4170 := q4180
              refine x_iinc (np := 142) (i := 8) (j := 2147483649) (v := (1 + v4054)) (lo' := [x_r 63, iv_c 2147483650, iv_c a2, iv_c a3, iv_c a4, iv_c a5, iv_c v20, iv_c v24, iv_c (1 + v4054), iv_c v4170]) (by decide +kernel) (by decide) (by decide) rfl (by first | decide | omega) (by first | decide | omega) (by first | decide | omega) rfl ?_
              refine x_goto (np := 145) (x := 50) (by decide +kernel) ?_
              exact i4062 (1 + v4054) (iv_c v4170) h4172 (by first | decide | omega) (by first | decide | omega) j4174 f4179
            have q4181 : ¬ (2147483660 ≤ v4170) := q4181
            refine x_iload (np := 90) (x := 6) (by decide +kernel) rfl l21 ?_
            refine x_iload (np := 92) (x := 9) (by decide +kernel) rfl (by first | decide | omega) ?_
            refine x_cP (t := 7) (mj := 148) (n := 2) (rc := 0) (ml := 2) (nr := 0) (np := 95) (as := [iv_c v20, iv_c v4170]) (rest := []) (lo1 := [iv_c v20, iv_c v4170]) (by decide +kernel) (by decide) (by decide +kernel) (Or.inl rfl) rfl rfl (x_wi l21 (x_wi (by first | decide | omega) x_wn)) x_wn (by decide) rfl (c148 j4174 (by first | decide | omega) (by first | decide | omega)) (fun v4182 l4183 q4184 => ?_)
            obtain ⟨b4186, c4185⟩ := q4184
            refine x_ifz (k := 0) (tg := 139) (np := 98) (by decide +kernel) (by decide) l4183 (fun q4187 => ?_) (fun q4188 => ?_)
            · have q4187 : v4182 = 2147483648 := q4187
              refine x_iinc (np := 142) (i := 8) (j := 2147483649) (v := (1 + v4054)) (lo' := [x_r 63, iv_c 2147483650, iv_c a2, iv_c a3, iv_c a4, iv_c a5, iv_c v20, iv_c v24, iv_c (1 + v4054), iv_c v4170]) (by decide +kernel) (by decide) (by decide) rfl (by first | decide | omega) (by first | decide | omega) (by first | decide | omega) rfl ?_
              refine x_goto (np := 145) (x := 50) (by decide +kernel) ?_
              exact i4062 (1 + v4054) (iv_c v4170) h4172 (by first | decide | omega) (by first | decide | omega) j4174 f4179
            have q4188 : ¬ (v4182 = 2147483648) := q4188
            refine x_aload (np := 99) (x := 0) (by decide +kernel) rfl (x_nc_le (by decide)) ?_
            refine x_nI (t := 8) (mj := 278) (n := 1) (rc := 13) (ml := 1) (nr := 0) (np := 102) (as := [x_r 63]) (rest := []) (lo1 := [x_r 63]) (by decide +kernel) (by decide) (by decide +kernel) (x_rb_of (by decide +kernel)) rfl rfl (x_wr (by decide) x_wn) x_wn (by decide) rfl ?_
            refine x_aload (np := 1) (x := 0) (by decide +kernel) rfl (x_nc_le (by decide)) ?_
            have b4189 := jB (e := 9) 0 j4174 rg_63_9_0_1 (by first | decide | omega) (by first | decide | omega)
            refine x_getC (np := 4) (x := 777) (f := 9) (q := (h4172 63 9)) (by decide +kernel) (by decide) (by decide +kernel) rfl (fun l4190 => ?_)
            refine x_ifz (k := 1) (tg := 21) (np := 7) (by decide +kernel) (by decide) l4190 (fun q4191 => ?_) (fun q4192 => ?_)
            · have q4191 : (h4172 63 9) ≠ 2147483648 := q4191
              refine x_const (np := 22) (x := 9223372043297226753) (a := 2147483649) (by decide +kernel) (by decide) (by decide) ?_
              refine x_goto (np := 25) (x := 26) (by decide +kernel) ?_
              refine x_retI (np := 27) (x := 0) (by decide +kernel) (by decide) (Or.inr ⟨by decide +kernel, by first | decide | omega, by first | decide | omega⟩) ⟨_, rfl, (by decide), ?_⟩
              refine x_ifz (k := 1) (tg := 139) (np := 105) (by decide +kernel) (by decide) (by decide) (fun q4193 => ?_) (fun q4194 => ?_)
              · have q4193 : 2147483649 ≠ 2147483648 := q4193
                refine x_iinc (np := 142) (i := 8) (j := 2147483649) (v := (1 + v4054)) (lo' := [x_r 63, iv_c 2147483650, iv_c a2, iv_c a3, iv_c a4, iv_c a5, iv_c v20, iv_c v24, iv_c (1 + v4054), iv_c v4170]) (by decide +kernel) (by decide) (by decide) rfl (by first | decide | omega) (by first | decide | omega) (by first | decide | omega) rfl ?_
                refine x_goto (np := 145) (x := 50) (by decide +kernel) ?_
                exact i4062 (1 + v4054) (iv_c v4170) h4172 (by first | decide | omega) (by first | decide | omega) j4174 f4179
              have q4194 : ¬ (2147483649 ≠ 2147483648) := q4194
              exfalso; omega
            have q4192 : ¬ ((h4172 63 9) ≠ 2147483648) := q4192
            refine x_aload (np := 8) (x := 0) (by decide +kernel) rfl (x_nc_le (by decide)) ?_
            refine x_getC (np := 11) (x := 776) (f := 8) (q := (h4172 63 8)) (by decide +kernel) (by decide) (by decide +kernel) rfl (fun l4195 => ?_)
            refine x_ifz (k := 5) (tg := 25) (np := 14) (by decide +kernel) (by decide) l4195 (fun q4196 => ?_) (fun q4197 => ?_)
            · have q4196 : (h4172 63 8) ≤ 2147483648 := q4196
              refine x_const (np := 26) (x := 9223372039002259456) (a := 2147483648) (by decide +kernel) (by decide) (by decide) ?_
              refine x_retI (np := 27) (x := 0) (by decide +kernel) (by decide) (Or.inr ⟨by decide +kernel, by first | decide | omega, by first | decide | omega⟩) ⟨_, rfl, (by decide), ?_⟩
              refine x_ifz (k := 1) (tg := 139) (np := 105) (by decide +kernel) (by decide) (by decide) (fun q4198 => ?_) (fun q4199 => ?_)
              · have q4198 : 2147483648 ≠ 2147483648 := q4198
                exfalso; omega
              have q4199 : ¬ (2147483648 ≠ 2147483648) := q4199
              refine x_iload (np := 107) (x := 9) (by decide +kernel) rfl (by first | decide | omega) ?_
              refine x_iload (np := 109) (x := 4) (by decide +kernel) rfl la4 ?_
              refine x_icmp (k := 2) (tg := 133) (np := 112) (by decide +kernel) (by decide) (by first | decide | omega) la4 (fun q4200 => ?_) (fun q4201 => ?_)
              · have q4200 : v4170 < a4 := q4200
                refine x_iinc (np := 136) (i := 9) (j := 2147483649) (v := (1 + v4170)) (lo' := [x_r 63, iv_c 2147483650, iv_c a2, iv_c a3, iv_c a4, iv_c a5, iv_c v20, iv_c v24, iv_c v4054, iv_c (1 + v4170)]) (by decide +kernel) (by decide) (by decide) rfl (by first | decide | omega) (by first | decide | omega) (by first | decide | omega) rfl ?_
                refine x_goto (np := 139) (x := 81) (by decide +kernel) ?_
                exact i4177 (1 + v4170) h4172 (by first | decide | omega) (by first | decide | omega) j4174 f4173
              have q4201 : ¬ (v4170 < a4) := q4201
              refine x_iload (np := 114) (x := 7) (by decide +kernel) rfl l25 ?_
              refine x_iload (np := 116) (x := 9) (by decide +kernel) rfl (by first | decide | omega) ?_
              refine x_cP (t := 7) (mj := 148) (n := 2) (rc := 0) (ml := 2) (nr := 0) (np := 119) (as := [iv_c v24, iv_c v4170]) (rest := []) (lo1 := [iv_c v24, iv_c v4170]) (by decide +kernel) (by decide) (by decide +kernel) (Or.inl rfl) rfl rfl (x_wi l25 (x_wi (by first | decide | omega) x_wn)) x_wn (by decide) rfl (c148 j4174 (by first | decide | omega) (by first | decide | omega)) (fun v4202 l4203 q4204 => ?_)
              obtain ⟨b4206, c4205⟩ := q4204
              refine x_ifz (k := 0) (tg := 133) (np := 122) (by decide +kernel) (by decide) l4203 (fun q4207 => ?_) (fun q4208 => ?_)
              · have q4207 : v4202 = 2147483648 := q4207
                refine x_iinc (np := 136) (i := 9) (j := 2147483649) (v := (1 + v4170)) (lo' := [x_r 63, iv_c 2147483650, iv_c a2, iv_c a3, iv_c a4, iv_c a5, iv_c v20, iv_c v24, iv_c v4054, iv_c (1 + v4170)]) (by decide +kernel) (by decide) (by decide) rfl (by first | decide | omega) (by first | decide | omega) (by first | decide | omega) rfl ?_
                refine x_goto (np := 139) (x := 81) (by decide +kernel) ?_
                exact i4177 (1 + v4170) h4172 (by first | decide | omega) (by first | decide | omega) j4174 f4173
              have q4208 : ¬ (v4202 = 2147483648) := q4208
              refine x_aload (np := 123) (x := 0) (by decide +kernel) rfl (x_nc_le (by decide)) ?_
              refine x_iload (np := 124) (x := 1) (by decide +kernel) rfl (by decide) ?_
              refine x_iload (np := 125) (x := 2) (by decide +kernel) rfl la2 ?_
              refine x_iload (np := 126) (x := 3) (by decide +kernel) rfl la3 ?_
              refine x_iload (np := 128) (x := 8) (by decide +kernel) rfl (by first | decide | omega) ?_
              refine x_iload (np := 130) (x := 9) (by decide +kernel) rfl (by first | decide | omega) ?_
              refine x_cV (t := 8) (mj := 277) (n := 6) (rc := 13) (ml := 7) (nr := 0) (np := 133) (as := [x_r 63, iv_c 2147483650, iv_c a2, iv_c a3, iv_c v4054, iv_c v4170]) (rest := []) (lo1 := [x_r 63, iv_c 2147483650, iv_c a2, iv_c a3, iv_c v4054, iv_c v4170, 147573952589676412928]) (by decide +kernel) (by decide) (by decide +kernel) (x_rb_of (by decide +kernel)) rfl rfl (x_wr (by decide) (x_wi (by decide) (x_wi la2 (x_wi la3 (x_wi (by first | decide | omega) (x_wi (by first | decide | omega) x_wn)))))) x_wn (by decide) rfl (c277_63_c2 j4174   (by first | decide | omega) (by first | decide | omega) (by first | decide | omega) (by first | decide | omega)) (fun h4212 q4211 => ?_)
              obtain ⟨j4213, f4214⟩ := q4211
              have f4217 := Fr.trans f4178 f4214 (by decide)
              have f4218 := Fr.trans f4179 f4214 (by decide)
              have f4219 := Fr.trans f4173 f4214 (by decide)
              refine x_iinc (np := 136) (i := 9) (j := 2147483649) (v := (1 + v4170)) (lo' := [x_r 63, iv_c 2147483650, iv_c a2, iv_c a3, iv_c a4, iv_c a5, iv_c v20, iv_c v24, iv_c v4054, iv_c (1 + v4170)]) (by decide +kernel) (by decide) (by decide) rfl (by first | decide | omega) (by first | decide | omega) (by first | decide | omega) rfl ?_
              refine x_goto (np := 139) (x := 81) (by decide +kernel) ?_
              exact i4177 (1 + v4170) h4212 (by first | decide | omega) (by first | decide | omega) j4213 f4219
            have q4197 : ¬ ((h4172 63 8) ≤ 2147483648) := q4197
            refine x_aload (np := 15) (x := 0) (by decide +kernel) rfl (x_nc_le (by decide)) ?_
            refine x_vI (P := fun r9 h9 => X sc 278 _ _ 0 0 18 [x_r 63] (iv_c r9 :: []) h9) (np := 18) (x := 5246977) (kk := 1) (cls := 4) (mj := 54) (ml := 1) (nr := 0) (rest := []) (lo1 := [x_r 63]) (by decide +kernel) (by decide) (by decide) (by decide) (by decide +kernel) (by decide +kernel) (by decide) (by decide +kernel) (by decide +kernel) x_wn (by decide) rfl ?_ (fun _ _ _ z => z)
            refine x_const (np := 1) (x := 9223372043297226753) (a := 2147483649) (by decide +kernel) (by decide) (by decide) ?_
            refine x_retI (np := 2) (x := 0) (by decide +kernel) (by decide) (Or.inr ⟨by decide +kernel, by first | decide | omega, by first | decide | omega⟩) ⟨_, rfl, (by decide), ?_⟩
            refine x_ifz (k := 0) (tg := 25) (np := 21) (by decide +kernel) (by decide) (by decide) (fun q4220 => ?_) (fun q4221 => ?_)
            · have q4220 : 2147483649 = 2147483648 := q4220
              exfalso; omega
            have q4221 : ¬ (2147483649 = 2147483648) := q4221
            refine x_const (np := 22) (x := 9223372043297226753) (a := 2147483649) (by decide +kernel) (by decide) (by decide) ?_
            refine x_goto (np := 25) (x := 26) (by decide +kernel) ?_
            refine x_retI (np := 27) (x := 0) (by decide +kernel) (by decide) (Or.inr ⟨by decide +kernel, by first | decide | omega, by first | decide | omega⟩) ⟨_, rfl, (by decide), ?_⟩
            refine x_ifz (k := 1) (tg := 139) (np := 105) (by decide +kernel) (by decide) (by decide) (fun q4222 => ?_) (fun q4223 => ?_)
            · have q4222 : 2147483649 ≠ 2147483648 := q4222
              refine x_iinc (np := 142) (i := 8) (j := 2147483649) (v := (1 + v4054)) (lo' := [x_r 63, iv_c 2147483650, iv_c a2, iv_c a3, iv_c a4, iv_c a5, iv_c v20, iv_c v24, iv_c (1 + v4054), iv_c v4170]) (by decide +kernel) (by decide) (by decide) rfl (by first | decide | omega) (by first | decide | omega) (by first | decide | omega) rfl ?_
              refine x_goto (np := 145) (x := 50) (by decide +kernel) ?_
              exact i4062 (1 + v4054) (iv_c v4170) h4172 (by first | decide | omega) (by first | decide | omega) j4174 f4179
            have q4223 : ¬ (2147483649 ≠ 2147483648) := q4223
            exfalso; omega
        exact p4175 _ v4054 h4057 (Nat.lt_succ_self _) (by first | decide | omega) j4059 (Fr.refl _ _)
      have q4074 : ¬ (v4068 ≠ 2147483648) := q4074
      refine x_goto (np := 77) (x := 139) (by decide +kernel) ?_
      refine x_iinc (np := 142) (i := 8) (j := 2147483649) (v := (1 + v4054)) (lo' := [x_r 63, iv_c 2147483650, iv_c a2, iv_c a3, iv_c a4, iv_c a5, iv_c v20, iv_c v24, iv_c (1 + v4054), w4056]) (by decide +kernel) (by decide) (by decide) rfl (by first | decide | omega) (by first | decide | omega) (by first | decide | omega) rfl ?_
      refine x_goto (np := 145) (x := 50) (by decide +kernel) ?_
      exact i4062 (1 + v4054) w4056 h4057 (by first | decide | omega) (by first | decide | omega) j4059 f4058
  exact p4060 _ 2147483648 147573952589676412928 h (Nat.lt_succ_self _) (by first | decide | omega) hJ (Fr.refl _ _)
set_option maxHeartbeats 0 in
/-- LentNames$Search.mend(I)V -/
theorem c275_63_c2 {sc : Nat × Nat} {d  : Nat} {h : xh} (hJ : J h) : X sc 275 (d + 14) (xV fun h' => J h' ∧ Fr 32769 h h') 0 0 0 [x_r 63, iv_c 2147483650, 147573952589676412928, 147573952589676412928, 147573952589676412928, 147573952589676412928, 147573952589676412928, 147573952589676412928] [] h := by
  have hF := Fr.refl 32769 h
  refine x_aload (np := 1) (x := 0) (by decide +kernel) rfl (x_nc_le (by decide)) ?_
  refine x_getC (np := 4) (x := 778) (f := 10) (q := (h 63 10)) (by decide +kernel) (by decide) (by decide +kernel) rfl (fun l1 => ?_)
  refine x_istore (np := 5) (x := 2) (lo' := [x_r 63, iv_c 2147483650, iv_c (h 63 10), 147573952589676412928, 147573952589676412928, 147573952589676412928, 147573952589676412928, 147573952589676412928]) (by decide +kernel) l1 (Nat.le_of_ble_eq_true rfl) rfl ?_
  refine x_aload (np := 6) (x := 0) (by decide +kernel) rfl (x_nc_le (by decide)) ?_
  refine x_getC (np := 9) (x := 779) (f := 11) (q := (h 63 11)) (by decide +kernel) (by decide) (by decide +kernel) rfl (fun l2 => ?_)
  refine x_istore (np := 10) (x := 3) (lo' := [x_r 63, iv_c 2147483650, iv_c (h 63 10), iv_c (h 63 11), 147573952589676412928, 147573952589676412928, 147573952589676412928, 147573952589676412928]) (by decide +kernel) l2 (Nat.le_of_ble_eq_true rfl) rfl ?_
  refine x_aload (np := 11) (x := 0) (by decide +kernel) rfl (x_nc_le (by decide)) ?_
  refine x_getC (np := 14) (x := 780) (f := 12) (q := (h 63 12)) (by decide +kernel) (by decide) (by decide +kernel) rfl (fun l3 => ?_)
  refine x_istore (np := 16) (x := 4) (lo' := [x_r 63, iv_c 2147483650, iv_c (h 63 10), iv_c (h 63 11), iv_c (h 63 12), 147573952589676412928, 147573952589676412928, 147573952589676412928]) (by decide +kernel) l3 (Nat.le_of_ble_eq_true rfl) rfl ?_
  refine x_aload (np := 17) (x := 0) (by decide +kernel) rfl (x_nc_le (by decide)) ?_
  refine x_getC (np := 20) (x := 781) (f := 13) (q := (h 63 13)) (by decide +kernel) (by decide) (by decide +kernel) rfl (fun l4 => ?_)
  refine x_istore (np := 22) (x := 5) (lo' := [x_r 63, iv_c 2147483650, iv_c (h 63 10), iv_c (h 63 11), iv_c (h 63 12), iv_c (h 63 13), 147573952589676412928, 147573952589676412928]) (by decide +kernel) l4 (Nat.le_of_ble_eq_true rfl) rfl ?_
  refine x_const (np := 23) (x := 9223372039002259456) (a := 2147483648) (by decide +kernel) (by decide) (by decide) ?_
  refine x_istore (np := 25) (x := 6) (lo' := [x_r 63, iv_c 2147483650, iv_c (h 63 10), iv_c (h 63 11), iv_c (h 63 12), iv_c (h 63 13), iv_c 2147483648, 147573952589676412928]) (by decide +kernel) (by decide) (Nat.le_of_ble_eq_true rfl) rfl ?_
  have p1620 : ∀ (n : Nat) (v1614 : Nat) (w1616 : Nat) (h1617 : xh), 4294967296 - v1614 < n → (2147483648 ≤ v1614 ∧ v1614 ≤ 2147483654) → J h1617 → Fr 32769 h h1617 → X sc 275 (d + 14) (xV fun h' => J h' ∧ Fr 32769 h h') 0 0 25 [x_r 63, iv_c 2147483650, iv_c (h 63 10), iv_c (h 63 11), iv_c (h 63 12), iv_c (h 63 13), iv_c v1614, w1616] [] h1617 := by
    intro n
    induction n with
    | zero => intro v1614 w1616 h1617 q1621; exact absurd q1621 (Nat.not_lt_zero _)
    | succ n i1622 =>
      intro v1614 w1616 h1617 q1621 b1615 j1619 f1618
      have f1623 := Fr.trans hF f1618 (by decide)
      refine x_iload (np := 27) (x := 6) (by decide +kernel) rfl (by first | decide | omega) ?_
      refine x_aload (np := 28) (x := 0) (by decide +kernel) rfl (x_nc_le (by decide)) ?_
      have t1624 : tw (h1617 63 6) := j1619.2.2.2.2.2.1
      refine x_getR (np := 31) (x := 774) (f := 6) (q := (h1617 63 6)) (by decide +kernel) (by decide) (by decide +kernel) rfl ?_
      have q1625 : h1617 (h1617 63 6) 7 = h (h1617 63 6) 7 := jK 0 f1618 (rg_T0_7_0_1 t1624) (by first | decide | omega) (by first | decide | omega) (by decide)
      have b1626 := jB (e := 7) 0 hJ (rg_T0_7_0_1 t1624) (by first | decide | omega) (by first | decide | omega)
      refine x_getC (np := 34) (x := 519) (f := 7) (q := (h (h1617 63 6) 7)) (by decide +kernel) (by decide) (tg_0_519_7_0 t1624) q1625 (fun l1627 => ?_)
      refine x_icmp (k := 3) (tg := 95) (np := 37) (by decide +kernel) (by decide) (by first | decide | omega) l1627 (fun q1628 => ?_) (fun q1629 => ?_)
      · have q1628 : (h (h1617 63 6) 7) ≤ v1614 := q1628
        refine x_retV (np := 96) (x := 0) (by decide +kernel) (by decide +kernel) ⟨rfl, ?_⟩
        exact ⟨j1619, f1623⟩
      have q1629 : ¬ ((h (h1617 63 6) 7) ≤ v1614) := q1629
      refine x_const (np := 38) (x := 9223372039002259456) (a := 2147483648) (by decide +kernel) (by decide) (by decide) ?_
      refine x_istore (np := 40) (x := 7) (lo' := [x_r 63, iv_c 2147483650, iv_c (h 63 10), iv_c (h 63 11), iv_c (h 63 12), iv_c (h 63 13), iv_c v1614, iv_c 2147483648]) (by decide +kernel) (by decide) (Nat.le_of_ble_eq_true rfl) rfl ?_
      have p1851 : ∀ (n : Nat) (v1846 : Nat) (h1848 : xh), 4294967296 - v1846 < n → (2147483648 ≤ v1846 ∧ v1846 ≤ 2147483654) → J h1848 → Fr 32769 h1617 h1848 → X sc 275 (d + 14) (xV fun h' => J h' ∧ Fr 32769 h h') 0 0 40 [x_r 63, iv_c 2147483650, iv_c (h 63 10), iv_c (h 63 11), iv_c (h 63 12), iv_c (h 63 13), iv_c v1614, iv_c v1846] [] h1848 := by
        intro n
        induction n with
        | zero => intro v1846 h1848 q1852; exact absurd q1852 (Nat.not_lt_zero _)
        | succ n i1853 =>
          intro v1846 h1848 q1852 b1847 j1850 f1849
          have f1854 := Fr.trans f1623 f1849 (by decide)
          have f1855 := Fr.trans f1618 f1849 (by decide)
          refine x_iload (np := 42) (x := 7) (by decide +kernel) rfl (by first | decide | omega) ?_
          refine x_aload (np := 43) (x := 0) (by decide +kernel) rfl (x_nc_le (by decide)) ?_
          have t1856 : tw (h1848 63 6) := j1850.2.2.2.2.2.1
          refine x_getR (np := 46) (x := 774) (f := 6) (q := (h1848 63 6)) (by decide +kernel) (by decide) (by decide +kernel) rfl ?_
          have q1857 : h1848 (h1848 63 6) 7 = h1617 (h1848 63 6) 7 := jK 0 f1849 (rg_T0_7_0_1 t1856) (by first | decide | omega) (by first | decide | omega) (by decide)
          have q1858 : h1617 (h1848 63 6) 7 = h (h1848 63 6) 7 := jK 0 f1618 (rg_T0_7_0_1 t1856) (by first | decide | omega) (by first | decide | omega) (by decide)
          have b1859 := jB (e := 7) 0 hJ (rg_T0_7_0_1 t1856) (by first | decide | omega) (by first | decide | omega)
          refine x_getC (np := 49) (x := 519) (f := 7) (q := (h (h1848 63 6) 7)) (by decide +kernel) (by decide) (tg_0_519_7_0 t1856) (q1857.trans q1858) (fun l1860 => ?_)
          refine x_icmp (k := 3) (tg := 89) (np := 52) (by decide +kernel) (by decide) (by first | decide | omega) l1860 (fun q1861 => ?_) (fun q1862 => ?_)
          · have q1861 : (h (h1848 63 6) 7) ≤ v1846 := q1861
            refine x_iinc (np := 92) (i := 6) (j := 2147483649) (v := (1 + v1614)) (lo' := [x_r 63, iv_c 2147483650, iv_c (h 63 10), iv_c (h 63 11), iv_c (h 63 12), iv_c (h 63 13), iv_c (1 + v1614), iv_c v1846]) (by decide +kernel) (by decide) (by decide) rfl (by first | decide | omega) (by first | decide | omega) (by first | decide | omega) rfl ?_
            refine x_goto (np := 95) (x := 25) (by decide +kernel) ?_
            exact i1622 (1 + v1614) (iv_c v1846) h1848 (by first | decide | omega) (by first | decide | omega) j1850 f1855
          have q1862 : ¬ ((h (h1848 63 6) 7) ≤ v1846) := q1862
          refine x_iload (np := 53) (x := 2) (by decide +kernel) rfl l1 ?_
          refine x_iload (np := 55) (x := 6) (by decide +kernel) rfl (by first | decide | omega) ?_
          refine x_cP (t := 7) (mj := 148) (n := 2) (rc := 0) (ml := 2) (nr := 0) (np := 58) (as := [iv_c (h 63 10), iv_c v1614]) (rest := []) (lo1 := [iv_c (h 63 10), iv_c v1614]) (by decide +kernel) (by decide) (by decide +kernel) (Or.inl rfl) rfl rfl (x_wi l1 (x_wi (by first | decide | omega) x_wn)) x_wn (by decide) rfl (c148 j1850 (by first | decide | omega) (by first | decide | omega)) (fun v1863 l1864 q1865 => ?_)
          obtain ⟨b1867, c1866⟩ := q1865
          refine x_ifz (k := 0) (tg := 83) (np := 61) (by decide +kernel) (by decide) l1864 (fun q1868 => ?_) (fun q1869 => ?_)
          · have q1868 : v1863 = 2147483648 := q1868
            refine x_iinc (np := 86) (i := 7) (j := 2147483649) (v := (1 + v1846)) (lo' := [x_r 63, iv_c 2147483650, iv_c (h 63 10), iv_c (h 63 11), iv_c (h 63 12), iv_c (h 63 13), iv_c v1614, iv_c (1 + v1846)]) (by decide +kernel) (by decide) (by decide) rfl (by first | decide | omega) (by first | decide | omega) (by first | decide | omega) rfl ?_
            refine x_goto (np := 89) (x := 40) (by decide +kernel) ?_
            exact i1853 (1 + v1846) h1848 (by first | decide | omega) (by first | decide | omega) j1850 f1849
          have q1869 : ¬ (v1863 = 2147483648) := q1869
          refine x_iload (np := 62) (x := 3) (by decide +kernel) rfl l2 ?_
          refine x_iload (np := 64) (x := 7) (by decide +kernel) rfl (by first | decide | omega) ?_
          refine x_cP (t := 7) (mj := 148) (n := 2) (rc := 0) (ml := 2) (nr := 0) (np := 67) (as := [iv_c (h 63 11), iv_c v1846]) (rest := []) (lo1 := [iv_c (h 63 11), iv_c v1846]) (by decide +kernel) (by decide) (by decide +kernel) (Or.inl rfl) rfl rfl (x_wi l2 (x_wi (by first | decide | omega) x_wn)) x_wn (by decide) rfl (c148 j1850 (by first | decide | omega) (by first | decide | omega)) (fun v1870 l1871 q1872 => ?_)
          obtain ⟨b1874, c1873⟩ := q1872
          refine x_ifz (k := 0) (tg := 83) (np := 70) (by decide +kernel) (by decide) l1871 (fun q1875 => ?_) (fun q1876 => ?_)
          · have q1875 : v1870 = 2147483648 := q1875
            refine x_iinc (np := 86) (i := 7) (j := 2147483649) (v := (1 + v1846)) (lo' := [x_r 63, iv_c 2147483650, iv_c (h 63 10), iv_c (h 63 11), iv_c (h 63 12), iv_c (h 63 13), iv_c v1614, iv_c (1 + v1846)]) (by decide +kernel) (by decide) (by decide) rfl (by first | decide | omega) (by first | decide | omega) (by first | decide | omega) rfl ?_
            refine x_goto (np := 89) (x := 40) (by decide +kernel) ?_
            exact i1853 (1 + v1846) h1848 (by first | decide | omega) (by first | decide | omega) j1850 f1849
          have q1876 : ¬ (v1870 = 2147483648) := q1876
          refine x_aload (np := 71) (x := 0) (by decide +kernel) rfl (x_nc_le (by decide)) ?_
          refine x_iload (np := 72) (x := 1) (by decide +kernel) rfl (by decide) ?_
          refine x_iload (np := 74) (x := 6) (by decide +kernel) rfl (by first | decide | omega) ?_
          refine x_iload (np := 76) (x := 7) (by decide +kernel) rfl (by first | decide | omega) ?_
          refine x_iload (np := 78) (x := 4) (by decide +kernel) rfl l3 ?_
          refine x_iload (np := 80) (x := 5) (by decide +kernel) rfl l4 ?_
          refine x_cV (t := 8) (mj := 276) (n := 6) (rc := 13) (ml := 10) (nr := 0) (np := 83) (as := [x_r 63, iv_c 2147483650, iv_c v1614, iv_c v1846, iv_c (h 63 12), iv_c (h 63 13)]) (rest := []) (lo1 := [x_r 63, iv_c 2147483650, iv_c v1614, iv_c v1846, iv_c (h 63 12), iv_c (h 63 13), 147573952589676412928, 147573952589676412928, 147573952589676412928, 147573952589676412928]) (by decide +kernel) (by decide) (by decide +kernel) (x_rb_of (by decide +kernel)) rfl rfl (x_wr (by decide) (x_wi (by decide) (x_wi (by first | decide | omega) (x_wi (by first | decide | omega) (x_wi l3 (x_wi l4 x_wn)))))) x_wn (by decide) rfl (c276_63_c2 j1850   (by first | decide | omega) (by first | decide | omega) (by first | decide | omega) (by first | decide | omega)) (fun h1880 q1879 => ?_)
          obtain ⟨j1881, f1882⟩ := q1879
          have f1885 := Fr.trans f1854 f1882 (by decide)
          have f1886 := Fr.trans f1855 f1882 (by decide)
          have f1887 := Fr.trans f1849 f1882 (by decide)
          refine x_iinc (np := 86) (i := 7) (j := 2147483649) (v := (1 + v1846)) (lo' := [x_r 63, iv_c 2147483650, iv_c (h 63 10), iv_c (h 63 11), iv_c (h 63 12), iv_c (h 63 13), iv_c v1614, iv_c (1 + v1846)]) (by decide +kernel) (by decide) (by decide) rfl (by first | decide | omega) (by first | decide | omega) (by first | decide | omega) rfl ?_
          refine x_goto (np := 89) (x := 40) (by decide +kernel) ?_
          exact i1853 (1 + v1846) h1880 (by first | decide | omega) (by first | decide | omega) j1881 f1887
      exact p1851 _ 2147483648 h1617 (Nat.lt_succ_self _) (by first | decide | omega) j1619 (Fr.refl _ _)
  exact p1620 _ 2147483648 147573952589676412928 h (Nat.lt_succ_self _) (by first | decide | omega) hJ (Fr.refl _ _)
set_option maxHeartbeats 0 in
/-- LentNames$Search.keepSet(I)V -/
theorem c279_63_c2 {sc : Nat × Nat} {d  : Nat} {h : xh} (hJ : J h) : X sc 279 d (xV fun h' => J h' ∧ Fr 32769 h h') 0 0 0 [x_r 63, iv_c 2147483650, 147573952589676412928, 147573952589676412928] [] h := by
  have hF := Fr.refl 32769 h
  refine x_aload (np := 1) (x := 0) (by decide +kernel) rfl (x_nc_le (by decide)) ?_
  refine x_dup (np := 2) (x := 0) (by decide +kernel) (by have z := x_nc_le (k := 63) (by decide); unfold x_r; omega) ?_
  refine x_getC (np := 5) (x := 776) (f := 8) (q := (h 63 8)) (by decide +kernel) (by decide) (by decide +kernel) rfl (fun l1 => ?_)
  refine x_const (np := 6) (x := 9223372043297226753) (a := 2147483649) (by decide +kernel) (by decide) (by decide) ?_
  refine x_addA (by rw [tb_b279]; decide +kernel) l1 (by decide) (fun v2 l3 => ?_)
  refine x_putI (np := 10) (x := 776) (f := 8) (by decide +kernel) (by decide +kernel) l3 (Or.inl (by decide)) ?_
  have j5 := jU (e := 8) (v := v2) 0 hJ rg_63_8_0_1 (by first | decide | omega) (by first | decide | omega) (by first | decide | omega)
  have f7 := jF (e := 8) (v := v2) 0 hF rg_63_8_0_1 (by first | decide | omega) (by first | decide | omega) (by decide)
  generalize e6 : x_up h 63 8 v2 = h4 at j5 f7 ⊢
  refine x_aload (np := 11) (x := 0) (by decide +kernel) rfl (x_nc_le (by decide)) ?_
  have q8 : h4 63 8 = v2 := by rw [← e6]; exact x_up_at
  refine x_getC (np := 14) (x := 776) (f := 8) (q := v2) (by decide +kernel) (by decide) (by decide +kernel) q8 (fun l9 => ?_)
  refine x_const (np := 15) (x := 9223372043297226753) (a := 2147483649) (by decide +kernel) (by decide) (by decide) ?_
  refine x_icmp (k := 5) (tg := 19) (np := 18) (by decide +kernel) (by decide) l3 (by decide) (fun q10 => ?_) (fun q11 => ?_)
  · have q10 : v2 ≤ 2147483649 := q10
    refine x_aload (np := 20) (x := 0) (by decide +kernel) rfl (x_nc_le (by decide)) ?_
    refine x_iload (np := 21) (x := 1) (by decide +kernel) rfl (by decide) ?_
    refine x_putI (np := 24) (x := 783) (f := 15) (by decide +kernel) (by decide +kernel) (by decide) (Or.inl (by decide)) ?_
    have j13 := jU (e := 15) (v := 2147483650) 0 j5 rg_63_15_0_1 (by first | decide | omega) (by first | decide | omega) (by first | decide | omega)
    have f15 := jF (e := 15) (v := 2147483650) 0 f7 rg_63_15_0_1 (by first | decide | omega) (by first | decide | omega) (by decide)
    generalize e14 : x_up h4 63 15 2147483650 = h12 at j13 f15 ⊢
    refine x_const (np := 25) (x := 9223372039002259456) (a := 2147483648) (by decide +kernel) (by decide) (by decide) ?_
    refine x_istore (np := 26) (x := 2) (lo' := [x_r 63, iv_c 2147483650, iv_c 2147483648, 147573952589676412928]) (by decide +kernel) (by decide) (Nat.le_of_ble_eq_true rfl) rfl ?_
    have p622 : ∀ (n : Nat) (v616 : Nat) (w618 : Nat) (h619 : xh), 4294967296 - v616 < n → (2147483648 ≤ v616 ∧ v616 ≤ 2147483653) → J h619 → Fr 32768 h12 h619 → X sc 279 d (xV fun h' => J h' ∧ Fr 32769 h h') 0 0 26 [x_r 63, iv_c 2147483650, iv_c v616, w618] [] h619 := by
      intro n
      induction n with
      | zero => intro v616 w618 h619 q623; exact absurd q623 (Nat.not_lt_zero _)
      | succ n i624 =>
        intro v616 w618 h619 q623 b617 j621 f620
        have f625 := Fr.trans f15 f620 (by decide)
        refine x_iload (np := 27) (x := 2) (by decide +kernel) rfl (by first | decide | omega) ?_
        refine x_aload (np := 28) (x := 0) (by decide +kernel) rfl (x_nc_le (by decide)) ?_
        have b626 := jB (e := 15) 0 j621 rg_63_15_0_1 (by first | decide | omega) (by first | decide | omega)
        refine x_getC (np := 31) (x := 783) (f := 15) (q := (h619 63 15)) (by decide +kernel) (by decide) (by decide +kernel) rfl (fun l627 => ?_)
        refine x_icmp (k := 3) (tg := 95) (np := 34) (by decide +kernel) (by decide) (by first | decide | omega) l627 (fun q628 => ?_) (fun q629 => ?_)
        · have q628 : (h619 63 15) ≤ v616 := q628
          refine x_retV (np := 96) (x := 0) (by decide +kernel) (by decide +kernel) ⟨rfl, ?_⟩
          exact ⟨j621, f625⟩
        have q629 : ¬ ((h619 63 15) ≤ v616) := q629
        refine x_iload (np := 35) (x := 2) (by decide +kernel) rfl (by first | decide | omega) ?_
        refine x_istore (np := 36) (x := 3) (lo' := [x_r 63, iv_c 2147483650, iv_c v616, iv_c v616]) (by decide +kernel) (by first | decide | omega) (Nat.le_of_ble_eq_true rfl) rfl ?_
        have p704 : ∀ (n : Nat) (v699 : Nat) (h701 : xh), v699 < n → (2147483648 ≤ v699 ∧ v699 ≤ 2147483652) → J h701 → Fr 32768 h619 h701 → X sc 279 d (xV fun h' => J h' ∧ Fr 32769 h h') 0 0 36 [x_r 63, iv_c 2147483650, iv_c v616, iv_c v699] [] h701 := by
          intro n
          induction n with
          | zero => intro v699 h701 q705; exact absurd q705 (Nat.not_lt_zero _)
          | succ n i706 =>
            intro v699 h701 q705 b700 j703 f702
            have f707 := Fr.trans f625 f702 (by decide)
            have f708 := Fr.trans f620 f702 (by decide)
            refine x_iload (np := 37) (x := 3) (by decide +kernel) rfl (by first | decide | omega) ?_
            refine x_ifz (k := 5) (tg := 77) (np := 40) (by decide +kernel) (by decide) (by first | decide | omega) (fun q709 => ?_) (fun q710 => ?_)
            · have q709 : v699 ≤ 2147483648 := q709
              refine x_aload (np := 78) (x := 0) (by decide +kernel) rfl (x_nc_le (by decide)) ?_
              have q711 : h701 63 4 = 68 := by have z := jB (e := 4) 0 j703 rg_63_4_0_1 (by decide) (by decide); omega
              refine x_getR (np := 81) (x := 772) (f := 4) (q := 68) (by decide +kernel) (by decide) (by decide +kernel) q711 ?_
              refine x_iload (np := 82) (x := 3) (by decide +kernel) rfl (by first | decide | omega) ?_
              refine x_aload (np := 83) (x := 0) (by decide +kernel) rfl (x_nc_le (by decide)) ?_
              have q712 : h701 63 3 = 67 := by have z := jB (e := 3) 0 j703 rg_63_3_0_1 (by decide) (by decide); omega
              refine x_getR (np := 86) (x := 771) (f := 3) (q := 67) (by decide +kernel) (by decide) (by decide +kernel) q712 ?_
              refine x_iload (np := 87) (x := 2) (by decide +kernel) rfl (by first | decide | omega) ?_
              obtain ⟨u713, q714⟩ : ∃ z, v616 = 2147483648 + z := ⟨v616 - 2147483648, by first | decide | omega⟩
              refine x_aldC (np := 88) (x := 0) (n := 5) (i := u713) (q := (h701 67 u713)) (by decide +kernel) (by decide +kernel) (by first | decide | omega) (by first | decide | omega) (by decide) rfl (fun l715 => ?_)
              obtain ⟨u716, q717⟩ : ∃ z, v699 = 2147483648 + z := ⟨v699 - 2147483648, by first | decide | omega⟩
              refine x_ast (np := 89) (x := 0) (kd := 1) (n := 5) (i := u716) (by decide +kernel) (Or.inl rfl) (by decide +kernel) (by first | decide | omega) (by first | decide | omega) (by decide) l715 (fun z => absurd z (by decide)) ?_
              have j719 := jU (e := u716) (v := (h701 67 u713)) u716 j703 rg_68_0_1_5 (by first | decide | omega) (by first | decide | omega) (by first | decide | omega)
              have f721 := jF (e := u716) (v := (h701 67 u713)) u716 f707 rg_68_0_1_5 (by first | decide | omega) (by first | decide | omega) (by decide)
              have f722 := jF (e := u716) (v := (h701 67 u713)) u716 f708 rg_68_0_1_5 (by first | decide | omega) (by first | decide | omega) (by decide)
              generalize e720 : x_up h701 68 u716 (h701 67 u713) = h718 at j719 f721 f722 ⊢
              refine x_iinc (np := 92) (i := 2) (j := 2147483649) (v := (1 + v616)) (lo' := [x_r 63, iv_c 2147483650, iv_c (1 + v616), iv_c v699]) (by decide +kernel) (by decide) (by decide) rfl (by first | decide | omega) (by first | decide | omega) (by first | decide | omega) rfl ?_
              refine x_goto (np := 95) (x := 26) (by decide +kernel) ?_
              exact i624 (1 + v616) (iv_c v699) h718 (by first | decide | omega) (by first | decide | omega) j719 f722
            have q710 : ¬ (v699 ≤ 2147483648) := q710
            refine x_aload (np := 41) (x := 0) (by decide +kernel) rfl (x_nc_le (by decide)) ?_
            have q723 : h701 63 4 = 68 := by have z := jB (e := 4) 0 j703 rg_63_4_0_1 (by decide) (by decide); omega
            refine x_getR (np := 44) (x := 772) (f := 4) (q := 68) (by decide +kernel) (by decide) (by decide +kernel) q723 ?_
            refine x_iload (np := 45) (x := 3) (by decide +kernel) rfl (by first | decide | omega) ?_
            refine x_const (np := 46) (x := 9223372043297226753) (a := 2147483649) (by decide +kernel) (by decide) (by decide) ?_
            obtain ⟨v724, q725⟩ : ∃ z, z + 2147483649 = v699 + 2147483648 := ⟨v699 + 2147483648 - 2147483649, by first | decide | omega⟩
            refine x_isub (np := 47) (x := 0) (v := v724) (by decide +kernel) (by first | decide | omega) (by decide) (by first | decide | omega) (by first | decide | omega) ?_
            obtain ⟨u726, q727⟩ : ∃ z, v724 = 2147483648 + z := ⟨v724 - 2147483648, by first | decide | omega⟩
            refine x_aldC (np := 48) (x := 0) (n := 5) (i := u726) (q := (h701 68 u726)) (by decide +kernel) (by decide +kernel) (by first | decide | omega) (by first | decide | omega) (by decide) rfl (fun l728 => ?_)
            refine x_aload (np := 49) (x := 0) (by decide +kernel) rfl (x_nc_le (by decide)) ?_
            have q729 : h701 63 3 = 67 := by have z := jB (e := 3) 0 j703 rg_63_3_0_1 (by decide) (by decide); omega
            refine x_getR (np := 52) (x := 771) (f := 3) (q := 67) (by decide +kernel) (by decide) (by decide +kernel) q729 ?_
            refine x_iload (np := 53) (x := 2) (by decide +kernel) rfl (by first | decide | omega) ?_
            obtain ⟨u730, q731⟩ : ∃ z, v616 = 2147483648 + z := ⟨v616 - 2147483648, by first | decide | omega⟩
            refine x_aldC (np := 54) (x := 0) (n := 5) (i := u730) (q := (h701 67 u730)) (by decide +kernel) (by decide +kernel) (by first | decide | omega) (by first | decide | omega) (by decide) rfl (fun l732 => ?_)
            refine x_icmp (k := 5) (tg := 77) (np := 57) (by decide +kernel) (by decide) l728 l732 (fun q733 => ?_) (fun q734 => ?_)
            · have q733 : (h701 68 u726) ≤ (h701 67 u730) := q733
              refine x_aload (np := 78) (x := 0) (by decide +kernel) rfl (x_nc_le (by decide)) ?_
              have q735 : h701 63 4 = 68 := by have z := jB (e := 4) 0 j703 rg_63_4_0_1 (by decide) (by decide); omega
              refine x_getR (np := 81) (x := 772) (f := 4) (q := 68) (by decide +kernel) (by decide) (by decide +kernel) q735 ?_
              refine x_iload (np := 82) (x := 3) (by decide +kernel) rfl (by first | decide | omega) ?_
              refine x_aload (np := 83) (x := 0) (by decide +kernel) rfl (x_nc_le (by decide)) ?_
              have q736 : h701 63 3 = 67 := by have z := jB (e := 3) 0 j703 rg_63_3_0_1 (by decide) (by decide); omega
              refine x_getR (np := 86) (x := 771) (f := 3) (q := 67) (by decide +kernel) (by decide) (by decide +kernel) q736 ?_
              refine x_iload (np := 87) (x := 2) (by decide +kernel) rfl (by first | decide | omega) ?_
              refine x_aldC (np := 88) (x := 0) (n := 5) (i := u730) (q := (h701 67 u730)) (by decide +kernel) (by decide +kernel) (by first | decide | omega) (by first | decide | omega) (by decide) rfl (fun l737 => ?_)
              obtain ⟨u738, q739⟩ : ∃ z, v699 = 2147483648 + z := ⟨v699 - 2147483648, by first | decide | omega⟩
              refine x_ast (np := 89) (x := 0) (kd := 1) (n := 5) (i := u738) (by decide +kernel) (Or.inl rfl) (by decide +kernel) (by first | decide | omega) (by first | decide | omega) (by decide) l732 (fun z => absurd z (by decide)) ?_
              have j741 := jU (e := u738) (v := (h701 67 u730)) u738 j703 rg_68_0_1_5 (by first | decide | omega) (by first | decide | omega) (by first | decide | omega)
              have f743 := jF (e := u738) (v := (h701 67 u730)) u738 f707 rg_68_0_1_5 (by first | decide | omega) (by first | decide | omega) (by decide)
              have f744 := jF (e := u738) (v := (h701 67 u730)) u738 f708 rg_68_0_1_5 (by first | decide | omega) (by first | decide | omega) (by decide)
              generalize e742 : x_up h701 68 u738 (h701 67 u730) = h740 at j741 f743 f744 ⊢
              refine x_iinc (np := 92) (i := 2) (j := 2147483649) (v := (1 + v616)) (lo' := [x_r 63, iv_c 2147483650, iv_c (1 + v616), iv_c v699]) (by decide +kernel) (by decide) (by decide) rfl (by first | decide | omega) (by first | decide | omega) (by first | decide | omega) rfl ?_
              refine x_goto (np := 95) (x := 26) (by decide +kernel) ?_
              exact i624 (1 + v616) (iv_c v699) h740 (by first | decide | omega) (by first | decide | omega) j741 f744
            have q734 : ¬ ((h701 68 u726) ≤ (h701 67 u730)) := q734
            refine x_aload (np := 58) (x := 0) (by decide +kernel) rfl (x_nc_le (by decide)) ?_
            have q745 : h701 63 4 = 68 := by have z := jB (e := 4) 0 j703 rg_63_4_0_1 (by decide) (by decide); omega
            refine x_getR (np := 61) (x := 772) (f := 4) (q := 68) (by decide +kernel) (by decide) (by decide +kernel) q745 ?_
            refine x_iload (np := 62) (x := 3) (by decide +kernel) rfl (by first | decide | omega) ?_
            refine x_aload (np := 63) (x := 0) (by decide +kernel) rfl (x_nc_le (by decide)) ?_
            have q746 : h701 63 4 = 68 := by have z := jB (e := 4) 0 j703 rg_63_4_0_1 (by decide) (by decide); omega
            refine x_getR (np := 66) (x := 772) (f := 4) (q := 68) (by decide +kernel) (by decide) (by decide +kernel) q746 ?_
            refine x_iload (np := 67) (x := 3) (by decide +kernel) rfl (by first | decide | omega) ?_
            refine x_const (np := 68) (x := 9223372043297226753) (a := 2147483649) (by decide +kernel) (by decide) (by decide) ?_
            obtain ⟨v747, q748⟩ : ∃ z, z + 2147483649 = v699 + 2147483648 := ⟨v699 + 2147483648 - 2147483649, by first | decide | omega⟩
            refine x_isub (np := 69) (x := 0) (v := v747) (by decide +kernel) (by first | decide | omega) (by decide) (by first | decide | omega) (by first | decide | omega) ?_
            obtain ⟨u749, q750⟩ : ∃ z, v747 = 2147483648 + z := ⟨v747 - 2147483648, by first | decide | omega⟩
            refine x_aldC (np := 70) (x := 0) (n := 5) (i := u749) (q := (h701 68 u749)) (by decide +kernel) (by decide +kernel) (by first | decide | omega) (by first | decide | omega) (by decide) rfl (fun l751 => ?_)
            obtain ⟨u752, q753⟩ : ∃ z, v699 = 2147483648 + z := ⟨v699 - 2147483648, by first | decide | omega⟩
            refine x_ast (np := 71) (x := 0) (kd := 1) (n := 5) (i := u752) (by decide +kernel) (Or.inl rfl) (by decide +kernel) (by first | decide | omega) (by first | decide | omega) (by decide) l751 (fun z => absurd z (by decide)) ?_
            have j755 := jU (e := u752) (v := (h701 68 u749)) u752 j703 rg_68_0_1_5 (by first | decide | omega) (by first | decide | omega) (by first | decide | omega)
            have f757 := jF (e := u752) (v := (h701 68 u749)) u752 f707 rg_68_0_1_5 (by first | decide | omega) (by first | decide | omega) (by decide)
            have f758 := jF (e := u752) (v := (h701 68 u749)) u752 f708 rg_68_0_1_5 (by first | decide | omega) (by first | decide | omega) (by decide)
            have f759 := jF (e := u752) (v := (h701 68 u749)) u752 f702 rg_68_0_1_5 (by first | decide | omega) (by first | decide | omega) (by decide)
            generalize e756 : x_up h701 68 u752 (h701 68 u749) = h754 at j755 f757 f758 f759 ⊢
            obtain ⟨v760, q761⟩ : ∃ z, z + 1 = v699 := ⟨v699 - 1, by first | decide | omega⟩
            refine x_iinc (np := 74) (i := 3) (j := 2147483647) (v := v760) (lo' := [x_r 63, iv_c 2147483650, iv_c v616, iv_c v760]) (by decide +kernel) (by decide) (by decide) rfl (by first | decide | omega) (by first | decide | omega) (by first | decide | omega) rfl ?_
            refine x_goto (np := 77) (x := 36) (by decide +kernel) ?_
            exact i706 v760 h754 (by first | decide | omega) (by first | decide | omega) j755 f759
        exact p704 _ v616 h619 (Nat.lt_succ_self _) (by first | decide | omega) j621 (Fr.refl _ _)
    exact p622 _ 2147483648 147573952589676412928 h12 (Nat.lt_succ_self _) (by first | decide | omega) j13 (Fr.refl _ _)
  have q11 : ¬ (v2 ≤ 2147483649) := q11
  refine x_retV (np := 19) (x := 0) (by decide +kernel) (by decide +kernel) ⟨rfl, ?_⟩
  exact ⟨j5, f7⟩
set_option maxHeartbeats 0 in
/-- LentNames$Search.come(I)V -/
theorem c274_63_c2 {sc : Nat × Nat} {d  : Nat} {h : xh} (hJ : J h) : X sc 274 (d + 15) (xV fun h' => J h' ∧ Fr 32769 h h') 0 0 0 [x_r 63, iv_c 2147483650] [] h := by
  have hF := Fr.refl 32769 h
  refine x_aload (np := 1) (x := 0) (by decide +kernel) rfl (x_nc_le (by decide)) ?_
  refine x_dup (np := 2) (x := 0) (by decide +kernel) (by have z := x_nc_le (k := 63) (by decide); unfold x_r; omega) ?_
  refine x_getC (np := 5) (x := 785) (f := 17) (q := (h 63 17)) (by decide +kernel) (by decide) (by decide +kernel) rfl (fun l1 => ?_)
  refine x_const (np := 6) (x := 9223372043297226753) (a := 2147483649) (by decide +kernel) (by decide) (by decide) ?_
  refine x_addA (by rw [tb_b274]; decide +kernel) l1 (by decide) (fun v2 l3 => ?_)
  refine x_putI (np := 10) (x := 785) (f := 17) (by decide +kernel) (by decide +kernel) l3 (Or.inl (by decide)) ?_
  have j5 := jU (e := 17) (v := v2) 0 hJ rg_63_17_0_1 (by first | decide | omega) (by first | decide | omega) (by first | decide | omega)
  have f7 := jF (e := 17) (v := v2) 0 hF rg_63_17_0_1 (by first | decide | omega) (by first | decide | omega) (by decide)
  generalize e6 : x_up h 63 17 v2 = h4 at j5 f7 ⊢
  refine x_aload (np := 11) (x := 0) (by decide +kernel) rfl (x_nc_le (by decide)) ?_
  have q8 : h4 63 17 = v2 := by rw [← e6]; exact x_up_at
  refine x_getC (np := 14) (x := 785) (f := 17) (q := v2) (by decide +kernel) (by decide) (by decide +kernel) q8 (fun l9 => ?_)
  refine x_const (np := 17) (x := 9223457938348199456) (a := 2147503648) (by decide +kernel) (by decide) (by decide) ?_
  refine x_icmp (k := 5) (tg := 28) (np := 20) (by decide +kernel) (by decide) l3 (by decide) (fun q10 => ?_) (fun q11 => ?_)
  · have q10 : v2 ≤ 2147503648 := q10
    refine x_aload (np := 29) (x := 0) (by decide +kernel) rfl (x_nc_le (by decide)) ?_
    refine x_vI (P := fun r9 h9 => X sc 274 _ _ 0 0 32 [x_r 63, iv_c 2147483650] (iv_c r9 :: []) h9) (np := 32) (x := 5246979) (kk := 3) (cls := 4) (mj := 56) (ml := 1) (nr := 0) (rest := []) (lo1 := [x_r 63]) (by decide +kernel) (by decide) (by decide) (by decide) (by decide +kernel) (by decide +kernel) (by decide) (by decide +kernel) (by decide +kernel) x_wn (by decide) rfl ?_ (fun _ _ _ z => z)
    refine x_aload (np := 1) (x := 0) (by decide +kernel) rfl (x_nc_le (by decide)) ?_
    refine x_cI (t := 6) (mj := 57) (n := 1) (rc := 5) (ml := 5) (nr := 0) (np := 4) (as := [x_r 63]) (rest := []) (lo1 := [x_r 63, 147573952589676412928, 147573952589676412928, 147573952589676412928, 147573952589676412928]) (by decide +kernel) (by decide) (by decide +kernel) (x_rb_of (by decide +kernel)) rfl rfl (x_wr (by decide) x_wn) x_wn (by decide) rfl (c57_63 j5 ) (fun v12 h15 l13 q14 => ?_)
    obtain ⟨j16, f17, b18⟩ := q14
    have f19 := Fr.trans f7 f17 (by decide)
    refine x_ifz (k := 1) (tg := 14) (np := 7) (by decide +kernel) (by decide) l13 (fun q20 => ?_) (fun q21 => ?_)
    · have q20 : v12 ≠ 2147483648 := q20
      refine x_const (np := 15) (x := 9223372043297226753) (a := 2147483649) (by decide +kernel) (by decide) (by decide) ?_
      refine x_goto (np := 18) (x := 19) (by decide +kernel) ?_
      refine x_retI (np := 20) (x := 0) (by decide +kernel) (by decide) (Or.inr ⟨by decide +kernel, by first | decide | omega, by first | decide | omega⟩) ⟨_, rfl, (by decide), ?_⟩
      refine x_ifz (k := 1) (tg := 43) (np := 35) (by decide +kernel) (by decide) (by decide) (fun q22 => ?_) (fun q23 => ?_)
      · have q22 : 2147483649 ≠ 2147483648 := q22
        refine x_iload (np := 44) (x := 1) (by decide +kernel) rfl (by decide) ?_
        refine x_aload (np := 45) (x := 0) (by decide +kernel) rfl (x_nc_le (by decide)) ?_
        refine x_getC (np := 48) (x := 784) (f := 16) (q := (h15 63 16)) (by decide +kernel) (by decide) (by decide +kernel) rfl (fun l24 => ?_)
        refine x_icmp (k := 3) (tg := 61) (np := 51) (by decide +kernel) (by decide) (by decide) l24 (fun q25 => ?_) (fun q26 => ?_)
        · have q25 : (h15 63 16) ≤ 2147483650 := q25
          refine x_retV (np := 62) (x := 0) (by decide +kernel) (by decide +kernel) ⟨rfl, ?_⟩
          exact ⟨j16, f19⟩
        have q26 : ¬ ((h15 63 16) ≤ 2147483650) := q26
        refine x_iload (np := 52) (x := 1) (by decide +kernel) rfl (by decide) ?_
        refine x_const (np := 53) (x := 9223372060477095941) (a := 2147483653) (by decide +kernel) (by decide) (by decide) ?_
        refine x_icmp (k := 3) (tg := 61) (np := 56) (by decide +kernel) (by decide) (by decide) (by decide) (fun q27 => ?_) (fun q28 => ?_)
        · have q27 : 2147483653 ≤ 2147483650 := q27
          exfalso; omega
        have q28 : ¬ (2147483653 ≤ 2147483650) := q28
        refine x_aload (np := 57) (x := 0) (by decide +kernel) rfl (x_nc_le (by decide)) ?_
        refine x_iload (np := 58) (x := 1) (by decide +kernel) rfl (by decide) ?_
        refine x_cV (t := 8) (mj := 275) (n := 2) (rc := 13) (ml := 8) (nr := 0) (np := 61) (as := [x_r 63, iv_c 2147483650]) (rest := []) (lo1 := [x_r 63, iv_c 2147483650, 147573952589676412928, 147573952589676412928, 147573952589676412928, 147573952589676412928, 147573952589676412928, 147573952589676412928]) (by decide +kernel) (by decide) (by decide +kernel) (x_rb_of (by decide +kernel)) rfl rfl (x_wr (by decide) (x_wi (by decide) x_wn)) x_wn (by decide) rfl (c275_63_c2 j16  ) (fun h32 q31 => ?_)
        obtain ⟨j33, f34⟩ := q31
        have f37 := Fr.trans f19 f34 (by decide)
        refine x_retV (np := 62) (x := 0) (by decide +kernel) (by decide +kernel) ⟨rfl, ?_⟩
        exact ⟨j33, f37⟩
      have q23 : ¬ (2147483649 ≠ 2147483648) := q23
      exfalso; omega
    have q21 : ¬ (v12 ≠ 2147483648) := q21
    refine x_aload (np := 8) (x := 0) (by decide +kernel) rfl (x_nc_le (by decide)) ?_
    refine x_cI (t := 6) (mj := 58) (n := 1) (rc := 5) (ml := 4) (nr := 0) (np := 11) (as := [x_r 63]) (rest := []) (lo1 := [x_r 63, 147573952589676412928, 147573952589676412928, 147573952589676412928]) (by decide +kernel) (by decide) (by decide +kernel) (x_rb_of (by decide +kernel)) rfl rfl (x_wr (by decide) x_wn) x_wn (by decide) rfl (c58_63 j16 ) (fun v38 h41 l39 q40 => ?_)
    obtain ⟨j42, f43, b44⟩ := q40
    have f45 := Fr.trans f19 f43 (by decide)
    refine x_ifz (k := 0) (tg := 18) (np := 14) (by decide +kernel) (by decide) l39 (fun q46 => ?_) (fun q47 => ?_)
    · have q46 : v38 = 2147483648 := q46
      refine x_const (np := 19) (x := 9223372039002259456) (a := 2147483648) (by decide +kernel) (by decide) (by decide) ?_
      refine x_retI (np := 20) (x := 0) (by decide +kernel) (by decide) (Or.inr ⟨by decide +kernel, by first | decide | omega, by first | decide | omega⟩) ⟨_, rfl, (by decide), ?_⟩
      refine x_ifz (k := 1) (tg := 43) (np := 35) (by decide +kernel) (by decide) (by decide) (fun q48 => ?_) (fun q49 => ?_)
      · have q48 : 2147483648 ≠ 2147483648 := q48
        exfalso; omega
      have q49 : ¬ (2147483648 ≠ 2147483648) := q49
      refine x_aload (np := 36) (x := 0) (by decide +kernel) rfl (x_nc_le (by decide)) ?_
      refine x_iload (np := 37) (x := 1) (by decide +kernel) rfl (by decide) ?_
      refine x_cV (t := 8) (mj := 279) (n := 2) (rc := 13) (ml := 4) (nr := 0) (np := 40) (as := [x_r 63, iv_c 2147483650]) (rest := []) (lo1 := [x_r 63, iv_c 2147483650, 147573952589676412928, 147573952589676412928]) (by decide +kernel) (by decide) (by decide +kernel) (x_rb_of (by decide +kernel)) rfl rfl (x_wr (by decide) (x_wi (by decide) x_wn)) x_wn (by decide) rfl (c279_63_c2 j42  ) (fun h53 q52 => ?_)
      obtain ⟨j54, f55⟩ := q52
      have f58 := Fr.trans f45 f55 (by decide)
      refine x_goto (np := 43) (x := 61) (by decide +kernel) ?_
      refine x_retV (np := 62) (x := 0) (by decide +kernel) (by decide +kernel) ⟨rfl, ?_⟩
      exact ⟨j54, f58⟩
    have q47 : ¬ (v38 = 2147483648) := q47
    refine x_const (np := 15) (x := 9223372043297226753) (a := 2147483649) (by decide +kernel) (by decide) (by decide) ?_
    refine x_goto (np := 18) (x := 19) (by decide +kernel) ?_
    refine x_retI (np := 20) (x := 0) (by decide +kernel) (by decide) (Or.inr ⟨by decide +kernel, by first | decide | omega, by first | decide | omega⟩) ⟨_, rfl, (by decide), ?_⟩
    refine x_ifz (k := 1) (tg := 43) (np := 35) (by decide +kernel) (by decide) (by decide) (fun q59 => ?_) (fun q60 => ?_)
    · have q59 : 2147483649 ≠ 2147483648 := q59
      refine x_iload (np := 44) (x := 1) (by decide +kernel) rfl (by decide) ?_
      refine x_aload (np := 45) (x := 0) (by decide +kernel) rfl (x_nc_le (by decide)) ?_
      refine x_getC (np := 48) (x := 784) (f := 16) (q := (h41 63 16)) (by decide +kernel) (by decide) (by decide +kernel) rfl (fun l61 => ?_)
      refine x_icmp (k := 3) (tg := 61) (np := 51) (by decide +kernel) (by decide) (by decide) l61 (fun q62 => ?_) (fun q63 => ?_)
      · have q62 : (h41 63 16) ≤ 2147483650 := q62
        refine x_retV (np := 62) (x := 0) (by decide +kernel) (by decide +kernel) ⟨rfl, ?_⟩
        exact ⟨j42, f45⟩
      have q63 : ¬ ((h41 63 16) ≤ 2147483650) := q63
      refine x_iload (np := 52) (x := 1) (by decide +kernel) rfl (by decide) ?_
      refine x_const (np := 53) (x := 9223372060477095941) (a := 2147483653) (by decide +kernel) (by decide) (by decide) ?_
      refine x_icmp (k := 3) (tg := 61) (np := 56) (by decide +kernel) (by decide) (by decide) (by decide) (fun q64 => ?_) (fun q65 => ?_)
      · have q64 : 2147483653 ≤ 2147483650 := q64
        exfalso; omega
      have q65 : ¬ (2147483653 ≤ 2147483650) := q65
      refine x_aload (np := 57) (x := 0) (by decide +kernel) rfl (x_nc_le (by decide)) ?_
      refine x_iload (np := 58) (x := 1) (by decide +kernel) rfl (by decide) ?_
      refine x_cV (t := 8) (mj := 275) (n := 2) (rc := 13) (ml := 8) (nr := 0) (np := 61) (as := [x_r 63, iv_c 2147483650]) (rest := []) (lo1 := [x_r 63, iv_c 2147483650, 147573952589676412928, 147573952589676412928, 147573952589676412928, 147573952589676412928, 147573952589676412928, 147573952589676412928]) (by decide +kernel) (by decide) (by decide +kernel) (x_rb_of (by decide +kernel)) rfl rfl (x_wr (by decide) (x_wi (by decide) x_wn)) x_wn (by decide) rfl (c275_63_c2 j42  ) (fun h69 q68 => ?_)
      obtain ⟨j70, f71⟩ := q68
      have f74 := Fr.trans f45 f71 (by decide)
      refine x_retV (np := 62) (x := 0) (by decide +kernel) (by decide +kernel) ⟨rfl, ?_⟩
      exact ⟨j70, f74⟩
    have q60 : ¬ (2147483649 ≠ 2147483648) := q60
    exfalso; omega
  have q11 : ¬ (v2 ≤ 2147503648) := q11
  refine x_aload (np := 21) (x := 0) (by decide +kernel) rfl (x_nc_le (by decide)) ?_
  refine x_const (np := 22) (x := 9223372043297226753) (a := 2147483649) (by decide +kernel) (by decide) (by decide) ?_
  refine x_putI (np := 25) (x := 4873) (f := 9) (by decide +kernel) (by decide +kernel) (by decide) (Or.inr ⟨by decide, by first | decide | omega, by first | decide | omega⟩) ?_
  have j76 := jU (e := 9) (v := 2147483649) 0 j5 rg_63_9_0_1 (by first | decide | omega) (by first | decide | omega) (by first | decide | omega)
  have f78 := jF (e := 9) (v := 2147483649) 0 f7 rg_63_9_0_1 (by first | decide | omega) (by first | decide | omega) (by decide)
  generalize e77 : x_up h4 63 9 2147483649 = h75 at j76 f78 ⊢
  refine x_goto (np := 28) (x := 61) (by decide +kernel) ?_
  refine x_retV (np := 62) (x := 0) (by decide +kernel) (by decide +kernel) ⟨rfl, ?_⟩
  exact ⟨j76, f78⟩
set_option maxHeartbeats 0 in
/-- LentNames$Search.tryLoan(IIIII)V -/
theorem c277_63_c1 {sc : Nat × Nat} {d a2 a3 a4 a5 : Nat} {h : xh} (hJ : J h) (ba2 : 2147483648 ≤ a2 ∧ a2 ≤ 2147483653) (ba3 : 2147483648 ≤ a3 ∧ a3 ≤ 2147483653) (ba4 : 2147483648 ≤ a4 ∧ a4 ≤ 2147483659) (ba5 : 2147483648 ≤ a5 ∧ a5 ≤ 2147483659) : X sc 277 (d + 16) (xV fun h' => J h' ∧ Fr 32769 h h') 0 0 0 [x_r 63, iv_c 2147483649, iv_c a2, iv_c a3, iv_c a4, iv_c a5, 147573952589676412928] [] h := by
  have la2 : a2 < 4294967296 := by first | decide | omega
  have la3 : a3 < 4294967296 := by first | decide | omega
  have la4 : a4 < 4294967296 := by first | decide | omega
  have la5 : a5 < 4294967296 := by first | decide | omega
  have hF := Fr.refl 32769 h
  refine x_const (np := 1) (x := 9223372043297226753) (a := 2147483649) (by decide +kernel) (by decide) (by decide) ?_
  refine x_iload (np := 3) (x := 5) (by decide +kernel) rfl la5 ?_
  refine x_const (np := 4) (x := 9223372043297226753) (a := 2147483649) (by decide +kernel) (by decide) (by decide) ?_
  refine x_iadd (np := 5) (x := 0) (v := (1 + a5)) (by decide +kernel) la5 (by decide) (by first | decide | omega) (by first | decide | omega) ?_
  refine x_any (np := 6) (k9 := 3) (by decide +kernel) (by decide) (by decide) (by first | decide | omega) (fun v1 l2 => ?_)
  refine x_const (np := 7) (x := 9223372043297226753) (a := 2147483649) (by decide +kernel) (by decide) (by decide) ?_
  refine x_iload (np := 9) (x := 4) (by decide +kernel) rfl la4 ?_
  refine x_any (np := 10) (k9 := 3) (by decide +kernel) (by decide) (by decide) la4 (fun v3 l4 => ?_)
  refine x_subA (by rw [tb_b277]; decide +kernel) l2 l4 (fun v5 l6 => ?_)
  refine x_istore (np := 13) (x := 6) (lo' := [x_r 63, iv_c 2147483649, iv_c a2, iv_c a3, iv_c a4, iv_c a5, iv_c v5]) (by decide +kernel) l6 (Nat.le_of_ble_eq_true rfl) rfl ?_
  refine x_aload (np := 14) (x := 0) (by decide +kernel) rfl (x_nc_le (by decide)) ?_
  have q7 : h 63 3 = 67 := by have z := jB (e := 3) 0 hJ rg_63_3_0_1 (by decide) (by decide); omega
  refine x_getR (np := 17) (x := 771) (f := 3) (q := 67) (by decide +kernel) (by decide) (by decide +kernel) q7 ?_
  refine x_iload (np := 18) (x := 1) (by decide +kernel) rfl (by decide) ?_
  refine x_const (np := 21) (x := 9223414988675229456) (a := 2147493648) (by decide +kernel) (by decide) (by decide) ?_
  refine x_iload (np := 22) (x := 2) (by decide +kernel) rfl la2 ?_
  obtain ⟨u8, q9⟩ : ∃ z, a2 = 2147483648 + z := ⟨a2 - 2147483648, by first | decide | omega⟩
  refine x_imul (np := 23) (x := 0) (i := 10000) (j := u8) (v := (2147483648 + 10000 * u8)) (by decide +kernel) (by first | decide | omega) (by first | decide | omega) (by first | decide | omega) (by first | decide | omega) (by decide) la2 ?_
  refine x_const (np := 26) (x := 9223376333969556456) (a := 2147484648) (by decide +kernel) (by decide) (by decide) ?_
  refine x_iload (np := 27) (x := 3) (by decide +kernel) rfl la3 ?_
  obtain ⟨u11, q12⟩ : ∃ z, a3 = 2147483648 + z := ⟨a3 - 2147483648, by first | decide | omega⟩
  refine x_imul (np := 28) (x := 0) (i := 1000) (j := u11) (v := (2147483648 + 1000 * u11)) (by decide +kernel) (by first | decide | omega) (by first | decide | omega) (by first | decide | omega) (by first | decide | omega) (by decide) la3 ?_
  refine x_iadd (np := 29) (x := 0) (v := (2147483648 + 10000 * u8 + 1000 * u11)) (by decide +kernel) (by first | decide | omega) (by first | decide | omega) (by first | decide | omega) (by first | decide | omega) ?_
  refine x_const (np := 31) (x := 9223372124901605396) (a := 2147483668) (by decide +kernel) (by decide) (by decide) ?_
  refine x_iload (np := 33) (x := 4) (by decide +kernel) rfl la4 ?_
  obtain ⟨u14, q15⟩ : ∃ z, a4 = 2147483648 + z := ⟨a4 - 2147483648, by first | decide | omega⟩
  refine x_imul (np := 34) (x := 0) (i := 20) (j := u14) (v := (2147483648 + 20 * u14)) (by decide +kernel) (by first | decide | omega) (by first | decide | omega) (by first | decide | omega) (by first | decide | omega) (by decide) la4 ?_
  refine x_iadd (np := 35) (x := 0) (v := (2147483648 + 10000 * u8 + 1000 * u11 + 20 * u14)) (by decide +kernel) (by first | decide | omega) (by first | decide | omega) (by first | decide | omega) (by first | decide | omega) ?_
  refine x_iload (np := 37) (x := 5) (by decide +kernel) rfl la5 ?_
  refine x_iadd (np := 38) (x := 0) (v := (10000 * u8 + 1000 * u11 + 20 * u14 + a5)) (by decide +kernel) (by first | decide | omega) la5 (by first | decide | omega) (by first | decide | omega) ?_
  refine x_ast (np := 39) (x := 0) (kd := 1) (n := 5) (i := 1) (by decide +kernel) (Or.inl rfl) (by decide +kernel) (by first | decide | omega) (by first | decide | omega) (by decide) (by first | decide | omega) (fun z => absurd z (by decide)) ?_
  have j18 := jU (e := 1) (v := (10000 * u8 + 1000 * u11 + 20 * u14 + a5)) 1 hJ rg_67_0_1_5 (by first | decide | omega) (by first | decide | omega) (by first | decide | omega)
  have f20 := jF (e := 1) (v := (10000 * u8 + 1000 * u11 + 20 * u14 + a5)) 1 hF rg_67_0_1_5 (by first | decide | omega) (by first | decide | omega) (by decide)
  generalize e19 : x_up h 67 1 (10000 * u8 + 1000 * u11 + 20 * u14 + a5) = h17 at j18 f20 ⊢
  refine x_aload (np := 40) (x := 0) (by decide +kernel) rfl (x_nc_le (by decide)) ?_
  refine x_iload (np := 41) (x := 2) (by decide +kernel) rfl la2 ?_
  refine x_iload (np := 42) (x := 3) (by decide +kernel) rfl la3 ?_
  refine x_iload (np := 44) (x := 6) (by decide +kernel) rfl l6 ?_
  refine x_cV (t := 8) (mj := 280) (n := 4) (rc := 13) (ml := 5) (nr := 0) (np := 47) (as := [x_r 63, iv_c a2, iv_c a3, iv_c v5]) (rest := []) (lo1 := [x_r 63, iv_c a2, iv_c a3, iv_c v5, 147573952589676412928]) (by decide +kernel) (by decide) (by decide +kernel) (x_rb_of (by decide +kernel)) rfl rfl (x_wr (by decide) (x_wi la2 (x_wi la3 (x_wi l6 x_wn)))) x_wn (by decide) rfl (c280_63 j18  (by first | decide | omega) (by first | decide | omega) (by first | decide | omega)) (fun h24 q23 => ?_)
  obtain ⟨j25, f26⟩ := q23
  have f29 := Fr.trans f20 f26 (by decide)
  refine x_aload (np := 48) (x := 0) (by decide +kernel) rfl (x_nc_le (by decide)) ?_
  refine x_iload (np := 49) (x := 1) (by decide +kernel) rfl (by decide) ?_
  refine x_const (np := 50) (x := 9223372043297226753) (a := 2147483649) (by decide +kernel) (by decide) (by decide) ?_
  refine x_iadd (np := 51) (x := 0) (v := 2147483650) (by decide +kernel) (by decide) (by decide) (by first | decide | omega) (by first | decide | omega) ?_
  refine x_cV (t := 8) (mj := 274) (n := 2) (rc := 13) (ml := 2) (nr := 0) (np := 54) (as := [x_r 63, iv_c 2147483650]) (rest := []) (lo1 := [x_r 63, iv_c 2147483650]) (by decide +kernel) (by decide) (by decide +kernel) (x_rb_of (by decide +kernel)) rfl rfl (x_wr (by decide) (x_wi (by decide) x_wn)) x_wn (by decide) rfl (c274_63_c2 j25  ) (fun h33 q32 => ?_)
  obtain ⟨j34, f35⟩ := q32
  have f38 := Fr.trans f29 f35 (by decide)
  refine x_aload (np := 55) (x := 0) (by decide +kernel) rfl (x_nc_le (by decide)) ?_
  refine x_iload (np := 56) (x := 2) (by decide +kernel) rfl la2 ?_
  refine x_iload (np := 58) (x := 6) (by decide +kernel) rfl l6 ?_
  refine x_cV (t := 8) (mj := 281) (n := 3) (rc := 13) (ml := 5) (nr := 0) (np := 61) (as := [x_r 63, iv_c a2, iv_c v5]) (rest := []) (lo1 := [x_r 63, iv_c a2, iv_c v5, 147573952589676412928, 147573952589676412928]) (by decide +kernel) (by decide) (by decide +kernel) (x_rb_of (by decide +kernel)) rfl rfl (x_wr (by decide) (x_wi la2 (x_wi l6 x_wn))) x_wn (by decide) rfl (c281_63 j34  (by first | decide | omega) (by first | decide | omega)) (fun h42 q41 => ?_)
  obtain ⟨j43, f44⟩ := q41
  have f47 := Fr.trans f38 f44 (by decide)
  refine x_retV (np := 62) (x := 0) (by decide +kernel) (by decide +kernel) ⟨rfl, ?_⟩
  exact ⟨j43, f47⟩
set_option maxHeartbeats 0 in
/-- LentNames$Search.tryLoans(IIIII)V -/
theorem c276_63_c1 {sc : Nat × Nat} {d a2 a3 a4 a5 : Nat} {h : xh} (hJ : J h) (ba2 : 2147483648 ≤ a2 ∧ a2 ≤ 2147483653) (ba3 : 2147483648 ≤ a3 ∧ a3 ≤ 2147483653) (ba4 : 0 ≤ a4 ∧ a4 ≤ 4294967295) (ba5 : 0 ≤ a5 ∧ a5 ≤ 4294967295) : X sc 276 (d + 17) (xV fun h' => J h' ∧ Fr 32769 h h') 0 0 0 [x_r 63, iv_c 2147483649, iv_c a2, iv_c a3, iv_c a4, iv_c a5, 147573952589676412928, 147573952589676412928, 147573952589676412928, 147573952589676412928] [] h := by
  have la2 : a2 < 4294967296 := by first | decide | omega
  have la3 : a3 < 4294967296 := by first | decide | omega
  have la4 : a4 < 4294967296 := by first | decide | omega
  have la5 : a5 < 4294967296 := by first | decide | omega
  have hF := Fr.refl 32769 h
  refine x_aload (np := 1) (x := 0) (by decide +kernel) rfl (x_nc_le (by decide)) ?_
  have q1 : h 63 5 = 45 := by have z := jB (e := 5) 0 hJ rg_63_5_0_1 (by decide) (by decide); omega
  refine x_getR (np := 4) (x := 773) (f := 5) (q := 45) (by decide +kernel) (by decide) (by decide +kernel) q1 ?_
  have q2 : h 45 0 = 46 := by have z := jB (e := 0) 0 hJ rg_45_0_0_1 (by decide) (by decide); omega
  refine x_getR (np := 7) (x := 64) (f := 0) (q := 46) (by decide +kernel) (by decide) (by decide +kernel) q2 ?_
  refine x_iload (np := 8) (x := 3) (by decide +kernel) rfl la3 ?_
  obtain ⟨u3, q4⟩ : ∃ z, a3 = 2147483648 + z := ⟨a3 - 2147483648, by first | decide | omega⟩
  refine x_aldC (np := 9) (x := 0) (n := 6) (i := u3) (q := (h 46 u3)) (by decide +kernel) (by decide +kernel) (by first | decide | omega) (by first | decide | omega) (by decide) rfl (fun l5 => ?_)
  refine x_aload (np := 10) (x := 0) (by decide +kernel) rfl (x_nc_le (by decide)) ?_
  have q6 : h 63 5 = 45 := by have z := jB (e := 5) 0 hJ rg_63_5_0_1 (by decide) (by decide); omega
  refine x_getR (np := 13) (x := 773) (f := 5) (q := 45) (by decide +kernel) (by decide) (by decide +kernel) q6 ?_
  have q7 : h 45 1 = 47 := by have z := jB (e := 1) 0 hJ rg_45_1_0_1 (by decide) (by decide); omega
  refine x_getR (np := 16) (x := 65) (f := 1) (q := 47) (by decide +kernel) (by decide) (by decide +kernel) q7 ?_
  refine x_iload (np := 17) (x := 2) (by decide +kernel) rfl la2 ?_
  refine x_iload (np := 18) (x := 3) (by decide +kernel) rfl la3 ?_
  refine x_nI (t := 7) (mj := 149) (n := 2) (rc := 0) (ml := 2) (nr := 2) (np := 21) (as := [iv_c a2, iv_c a3]) (rest := [x_r 47, iv_c (h 46 u3)]) (lo1 := [iv_c a2, iv_c a3]) (by decide +kernel) (by decide) (by decide +kernel) (Or.inl rfl) rfl rfl (x_wi la2 (x_wi la3 x_wn)) (x_wr (by decide) (x_wi l5 x_wn)) (by decide) rfl ?_
  refine x_iload (np := 1) (x := 0) (by decide +kernel) rfl la2 ?_
  refine x_const (np := 3) (x := 9223372064772063238) (a := 2147483654) (by decide +kernel) (by decide) (by decide) ?_
  obtain ⟨u8, q9⟩ : ∃ z, a2 = 2147483648 + z := ⟨a2 - 2147483648, by first | decide | omega⟩
  refine x_imul (np := 4) (x := 0) (i := u8) (j := 6) (v := (2147483648 + 6 * u8)) (by decide +kernel) (by first | decide | omega) (by first | decide | omega) (by first | decide | omega) (by first | decide | omega) la2 (by decide) ?_
  refine x_iload (np := 5) (x := 1) (by decide +kernel) rfl la3 ?_
  refine x_iadd (np := 6) (x := 0) (v := (6 * u8 + a3)) (by decide +kernel) (by first | decide | omega) la3 (by first | decide | omega) (by first | decide | omega) ?_
  refine x_retI (np := 7) (x := 0) (by decide +kernel) (by first | decide | omega) (Or.inl (by decide +kernel)) ⟨_, rfl, (by first | decide | omega), ?_⟩
  refine x_aldC (np := 22) (x := 0) (n := 36) (i := (6 * u8 + u3)) (q := ((h 47 (6 * u8 + u3)))) (by decide +kernel) (by decide +kernel) (by first | decide | omega) (by first | decide | omega) (by decide) rfl (fun l11 => ?_)
  refine x_const (np := 23) (x := 9223372034707292159) (a := 2147483647) (by decide +kernel) (by decide) (by decide) ?_
  refine x_any (np := 24) (k9 := 2) (by decide +kernel) (by decide) l11 (by decide) (fun v12 l13 => ?_)
  refine x_any (np := 25) (k9 := 0) (by decide +kernel) (by decide) l5 l13 (fun v14 l15 => ?_)
  refine x_aload (np := 26) (x := 0) (by decide +kernel) rfl (x_nc_le (by decide)) ?_
  have q16 : h 63 2 = 66 := by have z := jB (e := 2) 0 hJ rg_63_2_0_1 (by decide) (by decide); omega
  refine x_getR (np := 29) (x := 770) (f := 2) (q := 66) (by decide +kernel) (by decide) (by decide +kernel) q16 ?_
  refine x_iload (np := 30) (x := 2) (by decide +kernel) rfl la2 ?_
  refine x_aldC (np := 31) (x := 0) (n := 6) (i := u8) (q := (h 66 u8)) (by decide +kernel) (by decide +kernel) (by first | decide | omega) (by first | decide | omega) (by decide) rfl (fun l17 => ?_)
  refine x_const (np := 32) (x := 9223372034707292159) (a := 2147483647) (by decide +kernel) (by decide) (by decide) ?_
  refine x_any (np := 33) (k9 := 2) (by decide +kernel) (by decide) l17 (by decide) (fun v18 l19 => ?_)
  refine x_any (np := 34) (k9 := 0) (by decide +kernel) (by decide) l15 l19 (fun v20 l21 => ?_)
  refine x_istore (np := 36) (x := 6) (lo' := [x_r 63, iv_c 2147483649, iv_c a2, iv_c a3, iv_c a4, iv_c a5, iv_c v20, 147573952589676412928, 147573952589676412928, 147573952589676412928]) (by decide +kernel) l21 (Nat.le_of_ble_eq_true rfl) rfl ?_
  refine x_aload (np := 37) (x := 0) (by decide +kernel) rfl (x_nc_le (by decide)) ?_
  have q22 : h 63 1 = 65 := by have z := jB (e := 1) 0 hJ rg_63_1_0_1 (by decide) (by decide); omega
  refine x_getR (np := 40) (x := 769) (f := 1) (q := 65) (by decide +kernel) (by decide) (by decide +kernel) q22 ?_
  refine x_iload (np := 41) (x := 2) (by decide +kernel) rfl la2 ?_
  refine x_aldC (np := 42) (x := 0) (n := 6) (i := u8) (q := (h 65 u8)) (by decide +kernel) (by decide +kernel) (by first | decide | omega) (by first | decide | omega) (by decide) rfl (fun l23 => ?_)
  refine x_iload (np := 44) (x := 6) (by decide +kernel) rfl l21 ?_
  refine x_any (np := 45) (k9 := 0) (by decide +kernel) (by decide) l23 l21 (fun v24 l25 => ?_)
  refine x_istore (np := 47) (x := 7) (lo' := [x_r 63, iv_c 2147483649, iv_c a2, iv_c a3, iv_c a4, iv_c a5, iv_c v20, iv_c v24, 147573952589676412928, 147573952589676412928]) (by decide +kernel) l25 (Nat.le_of_ble_eq_true rfl) rfl ?_
  refine x_const (np := 48) (x := 9223372039002259456) (a := 2147483648) (by decide +kernel) (by decide) (by decide) ?_
  refine x_istore (np := 50) (x := 8) (lo' := [x_r 63, iv_c 2147483649, iv_c a2, iv_c a3, iv_c a4, iv_c a5, iv_c v20, iv_c v24, iv_c 2147483648, 147573952589676412928]) (by decide +kernel) (by decide) (Nat.le_of_ble_eq_true rfl) rfl ?_
  have p4060 : ∀ (n : Nat) (v4054 : Nat) (w4056 : Nat) (h4057 : xh), 4294967296 - v4054 < n → (2147483648 ≤ v4054 ∧ v4054 ≤ 2147483660) → J h4057 → Fr 32769 h h4057 → X sc 276 (d + 17) (xV fun h' => J h' ∧ Fr 32769 h h') 0 0 50 [x_r 63, iv_c 2147483649, iv_c a2, iv_c a3, iv_c a4, iv_c a5, iv_c v20, iv_c v24, iv_c v4054, w4056] [] h4057 := by
    intro n
    induction n with
    | zero => intro v4054 w4056 h4057 q4061; exact absurd q4061 (Nat.not_lt_zero _)
    | succ n i4062 =>
      intro v4054 w4056 h4057 q4061 b4055 j4059 f4058
      have f4063 := Fr.trans hF f4058 (by decide)
      refine x_iload (np := 52) (x := 8) (by decide +kernel) rfl (by first | decide | omega) ?_
      refine x_iload (np := 54) (x := 5) (by decide +kernel) rfl la5 ?_
      refine x_icmp (k := 4) (tg := 145) (np := 57) (by decide +kernel) (by decide) (by first | decide | omega) la5 (fun q4064 => ?_) (fun q4065 => ?_)
      · have q4064 : a5 < v4054 := q4064
        refine x_retV (np := 146) (x := 0) (by decide +kernel) (by decide +kernel) ⟨rfl, ?_⟩
        exact ⟨j4059, f4063⟩
      have q4065 : ¬ (a5 < v4054) := q4065
      refine x_iload (np := 59) (x := 8) (by decide +kernel) rfl (by first | decide | omega) ?_
      refine x_const (np := 61) (x := 9223372090541867020) (a := 2147483660) (by decide +kernel) (by decide) (by decide) ?_
      refine x_icmp (k := 3) (tg := 145) (np := 64) (by decide +kernel) (by decide) (by first | decide | omega) (by decide) (fun q4066 => ?_) (fun q4067 => ?_)
      · have q4066 : 2147483660 ≤ v4054 := q4066
        refine x_retV (np := 146) (x := 0) (by decide +kernel) (by decide +kernel) ⟨rfl, ?_⟩
        exact ⟨j4059, f4063⟩
      have q4067 : ¬ (2147483660 ≤ v4054) := q4067
      refine x_iload (np := 66) (x := 7) (by decide +kernel) rfl l25 ?_
      refine x_iload (np := 68) (x := 8) (by decide +kernel) rfl (by first | decide | omega) ?_
      refine x_cP (t := 7) (mj := 148) (n := 2) (rc := 0) (ml := 2) (nr := 0) (np := 71) (as := [iv_c v24, iv_c v4054]) (rest := []) (lo1 := [iv_c v24, iv_c v4054]) (by decide +kernel) (by decide) (by decide +kernel) (Or.inl rfl) rfl rfl (x_wi l25 (x_wi (by first | decide | omega) x_wn)) x_wn (by decide) rfl (c148 j4059 (by first | decide | omega) (by first | decide | omega)) (fun v4068 l4069 q4070 => ?_)
      obtain ⟨b4072, c4071⟩ := q4070
      refine x_ifz (k := 1) (tg := 77) (np := 74) (by decide +kernel) (by decide) l4069 (fun q4073 => ?_) (fun q4074 => ?_)
      · have q4073 : v4068 ≠ 2147483648 := q4073
        refine x_iload (np := 79) (x := 8) (by decide +kernel) rfl (by first | decide | omega) ?_
        refine x_istore (np := 81) (x := 9) (lo' := [x_r 63, iv_c 2147483649, iv_c a2, iv_c a3, iv_c a4, iv_c a5, iv_c v20, iv_c v24, iv_c v4054, iv_c v4054]) (by decide +kernel) (by first | decide | omega) (Nat.le_of_ble_eq_true rfl) rfl ?_
        have p4175 : ∀ (n : Nat) (v4170 : Nat) (h4172 : xh), 4294967296 - v4170 < n → (2147483648 ≤ v4170 ∧ v4170 ≤ 2147483660) → J h4172 → Fr 32769 h4057 h4172 → X sc 276 (d + 17) (xV fun h' => J h' ∧ Fr 32769 h h') 0 0 81 [x_r 63, iv_c 2147483649, iv_c a2, iv_c a3, iv_c a4, iv_c a5, iv_c v20, iv_c v24, iv_c v4054, iv_c v4170] [] h4172 := by
          intro n
          induction n with
          | zero => intro v4170 h4172 q4176; exact absurd q4176 (Nat.not_lt_zero _)
          | succ n i4177 =>
            intro v4170 h4172 q4176 b4171 j4174 f4173
            have f4178 := Fr.trans f4063 f4173 (by decide)
            have f4179 := Fr.trans f4058 f4173 (by decide)
            refine x_iload (np := 83) (x := 9) (by decide +kernel) rfl (by first | decide | omega) ?_
            refine x_const (np := 85) (x := 9223372090541867020) (a := 2147483660) (by decide +kernel) (by decide) (by decide) ?_
            refine x_icmp (k := 3) (tg := 139) (np := 88) (by decide +kernel) (by decide) (by first | decide | omega) (by decide) (fun q4180 => ?_) (fun q4181 => ?_)
            · have q4180 : 2147483660 ≤ v4170 := q4180
              refine x_iinc (np := 142) (i := 8) (j := 2147483649) (v := (1 + v4054)) (lo' := [x_r 63, iv_c 2147483649, iv_c a2, iv_c a3, iv_c a4, iv_c a5, iv_c v20, iv_c v24, iv_c (1 + v4054), iv_c v4170]) (by decide +kernel) (by decide) (by decide) rfl (by first | decide | omega) (by first | decide | omega) (by first | decide | omega) rfl ?_
              refine x_goto (np := 145) (x := 50) (by decide +kernel) ?_
              exact i4062 (1 + v4054) (iv_c v4170) h4172 (by first | decide | omega) (by first | decide | omega) j4174 f4179
            have q4181 : ¬ (2147483660 ≤ v4170) := q4181
            refine x_iload (np := 90) (x := 6) (by decide +kernel) rfl l21 ?_
            refine x_iload (np := 92) (x := 9) (by decide +kernel) rfl (by first | decide | omega) ?_
            refine x_cP (t := 7) (mj := 148) (n := 2) (rc := 0) (ml := 2) (nr := 0) (np := 95) (as := [iv_c v20, iv_c v4170]) (rest := []) (lo1 := [iv_c v20, iv_c v4170]) (by decide +kernel) (by decide) (by decide +kernel) (Or.inl rfl) rfl rfl (x_wi l21 (x_wi (by first | decide | omega) x_wn)) x_wn (by decide) rfl (c148 j4174 (by first | decide | omega) (by first | decide | omega)) (fun v4182 l4183 q4184 => ?_)
            obtain ⟨b4186, c4185⟩ := q4184
            refine x_ifz (k := 0) (tg := 139) (np := 98) (by decide +kernel) (by decide) l4183 (fun q4187 => ?_) (fun q4188 => ?_)
            · have q4187 : v4182 = 2147483648 := q4187
              refine x_iinc (np := 142) (i := 8) (j := 2147483649) (v := (1 + v4054)) (lo' := [x_r 63, iv_c 2147483649, iv_c a2, iv_c a3, iv_c a4, iv_c a5, iv_c v20, iv_c v24, iv_c (1 + v4054), iv_c v4170]) (by decide +kernel) (by decide) (by decide) rfl (by first | decide | omega) (by first | decide | omega) (by first | decide | omega) rfl ?_
              refine x_goto (np := 145) (x := 50) (by decide +kernel) ?_
              exact i4062 (1 + v4054) (iv_c v4170) h4172 (by first | decide | omega) (by first | decide | omega) j4174 f4179
            have q4188 : ¬ (v4182 = 2147483648) := q4188
            refine x_aload (np := 99) (x := 0) (by decide +kernel) rfl (x_nc_le (by decide)) ?_
            refine x_nI (t := 8) (mj := 278) (n := 1) (rc := 13) (ml := 1) (nr := 0) (np := 102) (as := [x_r 63]) (rest := []) (lo1 := [x_r 63]) (by decide +kernel) (by decide) (by decide +kernel) (x_rb_of (by decide +kernel)) rfl rfl (x_wr (by decide) x_wn) x_wn (by decide) rfl ?_
            refine x_aload (np := 1) (x := 0) (by decide +kernel) rfl (x_nc_le (by decide)) ?_
            have b4189 := jB (e := 9) 0 j4174 rg_63_9_0_1 (by first | decide | omega) (by first | decide | omega)
            refine x_getC (np := 4) (x := 777) (f := 9) (q := (h4172 63 9)) (by decide +kernel) (by decide) (by decide +kernel) rfl (fun l4190 => ?_)
            refine x_ifz (k := 1) (tg := 21) (np := 7) (by decide +kernel) (by decide) l4190 (fun q4191 => ?_) (fun q4192 => ?_)
            · have q4191 : (h4172 63 9) ≠ 2147483648 := q4191
              refine x_const (np := 22) (x := 9223372043297226753) (a := 2147483649) (by decide +kernel) (by decide) (by decide) ?_
              refine x_goto (np := 25) (x := 26) (by decide +kernel) ?_
              refine x_retI (np := 27) (x := 0) (by decide +kernel) (by decide) (Or.inr ⟨by decide +kernel, by first | decide | omega, by first | decide | omega⟩) ⟨_, rfl, (by decide), ?_⟩
              refine x_ifz (k := 1) (tg := 139) (np := 105) (by decide +kernel) (by decide) (by decide) (fun q4193 => ?_) (fun q4194 => ?_)
              · have q4193 : 2147483649 ≠ 2147483648 := q4193
                refine x_iinc (np := 142) (i := 8) (j := 2147483649) (v := (1 + v4054)) (lo' := [x_r 63, iv_c 2147483649, iv_c a2, iv_c a3, iv_c a4, iv_c a5, iv_c v20, iv_c v24, iv_c (1 + v4054), iv_c v4170]) (by decide +kernel) (by decide) (by decide) rfl (by first | decide | omega) (by first | decide | omega) (by first | decide | omega) rfl ?_
                refine x_goto (np := 145) (x := 50) (by decide +kernel) ?_
                exact i4062 (1 + v4054) (iv_c v4170) h4172 (by first | decide | omega) (by first | decide | omega) j4174 f4179
              have q4194 : ¬ (2147483649 ≠ 2147483648) := q4194
              exfalso; omega
            have q4192 : ¬ ((h4172 63 9) ≠ 2147483648) := q4192
            refine x_aload (np := 8) (x := 0) (by decide +kernel) rfl (x_nc_le (by decide)) ?_
            refine x_getC (np := 11) (x := 776) (f := 8) (q := (h4172 63 8)) (by decide +kernel) (by decide) (by decide +kernel) rfl (fun l4195 => ?_)
            refine x_ifz (k := 5) (tg := 25) (np := 14) (by decide +kernel) (by decide) l4195 (fun q4196 => ?_) (fun q4197 => ?_)
            · have q4196 : (h4172 63 8) ≤ 2147483648 := q4196
              refine x_const (np := 26) (x := 9223372039002259456) (a := 2147483648) (by decide +kernel) (by decide) (by decide) ?_
              refine x_retI (np := 27) (x := 0) (by decide +kernel) (by decide) (Or.inr ⟨by decide +kernel, by first | decide | omega, by first | decide | omega⟩) ⟨_, rfl, (by decide), ?_⟩
              refine x_ifz (k := 1) (tg := 139) (np := 105) (by decide +kernel) (by decide) (by decide) (fun q4198 => ?_) (fun q4199 => ?_)
              · have q4198 : 2147483648 ≠ 2147483648 := q4198
                exfalso; omega
              have q4199 : ¬ (2147483648 ≠ 2147483648) := q4199
              refine x_iload (np := 107) (x := 9) (by decide +kernel) rfl (by first | decide | omega) ?_
              refine x_iload (np := 109) (x := 4) (by decide +kernel) rfl la4 ?_
              refine x_icmp (k := 2) (tg := 133) (np := 112) (by decide +kernel) (by decide) (by first | decide | omega) la4 (fun q4200 => ?_) (fun q4201 => ?_)
              · have q4200 : v4170 < a4 := q4200
                refine x_iinc (np := 136) (i := 9) (j := 2147483649) (v := (1 + v4170)) (lo' := [x_r 63, iv_c 2147483649, iv_c a2, iv_c a3, iv_c a4, iv_c a5, iv_c v20, iv_c v24, iv_c v4054, iv_c (1 + v4170)]) (by decide +kernel) (by decide) (by decide) rfl (by first | decide | omega) (by first | decide | omega) (by first | decide | omega) rfl ?_
                refine x_goto (np := 139) (x := 81) (by decide +kernel) ?_
                exact i4177 (1 + v4170) h4172 (by first | decide | omega) (by first | decide | omega) j4174 f4173
              have q4201 : ¬ (v4170 < a4) := q4201
              refine x_iload (np := 114) (x := 7) (by decide +kernel) rfl l25 ?_
              refine x_iload (np := 116) (x := 9) (by decide +kernel) rfl (by first | decide | omega) ?_
              refine x_cP (t := 7) (mj := 148) (n := 2) (rc := 0) (ml := 2) (nr := 0) (np := 119) (as := [iv_c v24, iv_c v4170]) (rest := []) (lo1 := [iv_c v24, iv_c v4170]) (by decide +kernel) (by decide) (by decide +kernel) (Or.inl rfl) rfl rfl (x_wi l25 (x_wi (by first | decide | omega) x_wn)) x_wn (by decide) rfl (c148 j4174 (by first | decide | omega) (by first | decide | omega)) (fun v4202 l4203 q4204 => ?_)
              obtain ⟨b4206, c4205⟩ := q4204
              refine x_ifz (k := 0) (tg := 133) (np := 122) (by decide +kernel) (by decide) l4203 (fun q4207 => ?_) (fun q4208 => ?_)
              · have q4207 : v4202 = 2147483648 := q4207
                refine x_iinc (np := 136) (i := 9) (j := 2147483649) (v := (1 + v4170)) (lo' := [x_r 63, iv_c 2147483649, iv_c a2, iv_c a3, iv_c a4, iv_c a5, iv_c v20, iv_c v24, iv_c v4054, iv_c (1 + v4170)]) (by decide +kernel) (by decide) (by decide) rfl (by first | decide | omega) (by first | decide | omega) (by first | decide | omega) rfl ?_
                refine x_goto (np := 139) (x := 81) (by decide +kernel) ?_
                exact i4177 (1 + v4170) h4172 (by first | decide | omega) (by first | decide | omega) j4174 f4173
              have q4208 : ¬ (v4202 = 2147483648) := q4208
              refine x_aload (np := 123) (x := 0) (by decide +kernel) rfl (x_nc_le (by decide)) ?_
              refine x_iload (np := 124) (x := 1) (by decide +kernel) rfl (by decide) ?_
              refine x_iload (np := 125) (x := 2) (by decide +kernel) rfl la2 ?_
              refine x_iload (np := 126) (x := 3) (by decide +kernel) rfl la3 ?_
              refine x_iload (np := 128) (x := 8) (by decide +kernel) rfl (by first | decide | omega) ?_
              refine x_iload (np := 130) (x := 9) (by decide +kernel) rfl (by first | decide | omega) ?_
              refine x_cV (t := 8) (mj := 277) (n := 6) (rc := 13) (ml := 7) (nr := 0) (np := 133) (as := [x_r 63, iv_c 2147483649, iv_c a2, iv_c a3, iv_c v4054, iv_c v4170]) (rest := []) (lo1 := [x_r 63, iv_c 2147483649, iv_c a2, iv_c a3, iv_c v4054, iv_c v4170, 147573952589676412928]) (by decide +kernel) (by decide) (by decide +kernel) (x_rb_of (by decide +kernel)) rfl rfl (x_wr (by decide) (x_wi (by decide) (x_wi la2 (x_wi la3 (x_wi (by first | decide | omega) (x_wi (by first | decide | omega) x_wn)))))) x_wn (by decide) rfl (c277_63_c1 j4174   (by first | decide | omega) (by first | decide | omega) (by first | decide | omega) (by first | decide | omega)) (fun h4212 q4211 => ?_)
              obtain ⟨j4213, f4214⟩ := q4211
              have f4217 := Fr.trans f4178 f4214 (by decide)
              have f4218 := Fr.trans f4179 f4214 (by decide)
              have f4219 := Fr.trans f4173 f4214 (by decide)
              refine x_iinc (np := 136) (i := 9) (j := 2147483649) (v := (1 + v4170)) (lo' := [x_r 63, iv_c 2147483649, iv_c a2, iv_c a3, iv_c a4, iv_c a5, iv_c v20, iv_c v24, iv_c v4054, iv_c (1 + v4170)]) (by decide +kernel) (by decide) (by decide) rfl (by first | decide | omega) (by first | decide | omega) (by first | decide | omega) rfl ?_
              refine x_goto (np := 139) (x := 81) (by decide +kernel) ?_
              exact i4177 (1 + v4170) h4212 (by first | decide | omega) (by first | decide | omega) j4213 f4219
            have q4197 : ¬ ((h4172 63 8) ≤ 2147483648) := q4197
            refine x_aload (np := 15) (x := 0) (by decide +kernel) rfl (x_nc_le (by decide)) ?_
            refine x_vI (P := fun r9 h9 => X sc 278 _ _ 0 0 18 [x_r 63] (iv_c r9 :: []) h9) (np := 18) (x := 5246977) (kk := 1) (cls := 4) (mj := 54) (ml := 1) (nr := 0) (rest := []) (lo1 := [x_r 63]) (by decide +kernel) (by decide) (by decide) (by decide) (by decide +kernel) (by decide +kernel) (by decide) (by decide +kernel) (by decide +kernel) x_wn (by decide) rfl ?_ (fun _ _ _ z => z)
            refine x_const (np := 1) (x := 9223372043297226753) (a := 2147483649) (by decide +kernel) (by decide) (by decide) ?_
            refine x_retI (np := 2) (x := 0) (by decide +kernel) (by decide) (Or.inr ⟨by decide +kernel, by first | decide | omega, by first | decide | omega⟩) ⟨_, rfl, (by decide), ?_⟩
            refine x_ifz (k := 0) (tg := 25) (np := 21) (by decide +kernel) (by decide) (by decide) (fun q4220 => ?_) (fun q4221 => ?_)
            · have q4220 : 2147483649 = 2147483648 := q4220
              exfalso; omega
            have q4221 : ¬ (2147483649 = 2147483648) := q4221
            refine x_const (np := 22) (x := 9223372043297226753) (a := 2147483649) (by decide +kernel) (by decide) (by decide) ?_
            refine x_goto (np := 25) (x := 26) (by decide +kernel) ?_
            refine x_retI (np := 27) (x := 0) (by decide +kernel) (by decide) (Or.inr ⟨by decide +kernel, by first | decide | omega, by first | decide | omega⟩) ⟨_, rfl, (by decide), ?_⟩
            refine x_ifz (k := 1) (tg := 139) (np := 105) (by decide +kernel) (by decide) (by decide) (fun q4222 => ?_) (fun q4223 => ?_)
            · have q4222 : 2147483649 ≠ 2147483648 := q4222
              refine x_iinc (np := 142) (i := 8) (j := 2147483649) (v := (1 + v4054)) (lo' := [x_r 63, iv_c 2147483649, iv_c a2, iv_c a3, iv_c a4, iv_c a5, iv_c v20, iv_c v24, iv_c (1 + v4054), iv_c v4170]) (by decide +kernel) (by decide) (by decide) rfl (by first | decide | omega) (by first | decide | omega) (by first | decide | omega) rfl ?_
              refine x_goto (np := 145) (x := 50) (by decide +kernel) ?_
              exact i4062 (1 + v4054) (iv_c v4170) h4172 (by first | decide | omega) (by first | decide | omega) j4174 f4179
            have q4223 : ¬ (2147483649 ≠ 2147483648) := q4223
            exfalso; omega
        exact p4175 _ v4054 h4057 (Nat.lt_succ_self _) (by first | decide | omega) j4059 (Fr.refl _ _)
      have q4074 : ¬ (v4068 ≠ 2147483648) := q4074
      refine x_goto (np := 77) (x := 139) (by decide +kernel) ?_
      refine x_iinc (np := 142) (i := 8) (j := 2147483649) (v := (1 + v4054)) (lo' := [x_r 63, iv_c 2147483649, iv_c a2, iv_c a3, iv_c a4, iv_c a5, iv_c v20, iv_c v24, iv_c (1 + v4054), w4056]) (by decide +kernel) (by decide) (by decide) rfl (by first | decide | omega) (by first | decide | omega) (by first | decide | omega) rfl ?_
      refine x_goto (np := 145) (x := 50) (by decide +kernel) ?_
      exact i4062 (1 + v4054) w4056 h4057 (by first | decide | omega) (by first | decide | omega) j4059 f4058
  exact p4060 _ 2147483648 147573952589676412928 h (Nat.lt_succ_self _) (by first | decide | omega) hJ (Fr.refl _ _)
set_option maxHeartbeats 0 in
/-- LentNames$Search.mend(I)V -/
theorem c275_63_c1 {sc : Nat × Nat} {d  : Nat} {h : xh} (hJ : J h) : X sc 275 (d + 18) (xV fun h' => J h' ∧ Fr 32769 h h') 0 0 0 [x_r 63, iv_c 2147483649, 147573952589676412928, 147573952589676412928, 147573952589676412928, 147573952589676412928, 147573952589676412928, 147573952589676412928] [] h := by
  have hF := Fr.refl 32769 h
  refine x_aload (np := 1) (x := 0) (by decide +kernel) rfl (x_nc_le (by decide)) ?_
  refine x_getC (np := 4) (x := 778) (f := 10) (q := (h 63 10)) (by decide +kernel) (by decide) (by decide +kernel) rfl (fun l1 => ?_)
  refine x_istore (np := 5) (x := 2) (lo' := [x_r 63, iv_c 2147483649, iv_c (h 63 10), 147573952589676412928, 147573952589676412928, 147573952589676412928, 147573952589676412928, 147573952589676412928]) (by decide +kernel) l1 (Nat.le_of_ble_eq_true rfl) rfl ?_
  refine x_aload (np := 6) (x := 0) (by decide +kernel) rfl (x_nc_le (by decide)) ?_
  refine x_getC (np := 9) (x := 779) (f := 11) (q := (h 63 11)) (by decide +kernel) (by decide) (by decide +kernel) rfl (fun l2 => ?_)
  refine x_istore (np := 10) (x := 3) (lo' := [x_r 63, iv_c 2147483649, iv_c (h 63 10), iv_c (h 63 11), 147573952589676412928, 147573952589676412928, 147573952589676412928, 147573952589676412928]) (by decide +kernel) l2 (Nat.le_of_ble_eq_true rfl) rfl ?_
  refine x_aload (np := 11) (x := 0) (by decide +kernel) rfl (x_nc_le (by decide)) ?_
  refine x_getC (np := 14) (x := 780) (f := 12) (q := (h 63 12)) (by decide +kernel) (by decide) (by decide +kernel) rfl (fun l3 => ?_)
  refine x_istore (np := 16) (x := 4) (lo' := [x_r 63, iv_c 2147483649, iv_c (h 63 10), iv_c (h 63 11), iv_c (h 63 12), 147573952589676412928, 147573952589676412928, 147573952589676412928]) (by decide +kernel) l3 (Nat.le_of_ble_eq_true rfl) rfl ?_
  refine x_aload (np := 17) (x := 0) (by decide +kernel) rfl (x_nc_le (by decide)) ?_
  refine x_getC (np := 20) (x := 781) (f := 13) (q := (h 63 13)) (by decide +kernel) (by decide) (by decide +kernel) rfl (fun l4 => ?_)
  refine x_istore (np := 22) (x := 5) (lo' := [x_r 63, iv_c 2147483649, iv_c (h 63 10), iv_c (h 63 11), iv_c (h 63 12), iv_c (h 63 13), 147573952589676412928, 147573952589676412928]) (by decide +kernel) l4 (Nat.le_of_ble_eq_true rfl) rfl ?_
  refine x_const (np := 23) (x := 9223372039002259456) (a := 2147483648) (by decide +kernel) (by decide) (by decide) ?_
  refine x_istore (np := 25) (x := 6) (lo' := [x_r 63, iv_c 2147483649, iv_c (h 63 10), iv_c (h 63 11), iv_c (h 63 12), iv_c (h 63 13), iv_c 2147483648, 147573952589676412928]) (by decide +kernel) (by decide) (Nat.le_of_ble_eq_true rfl) rfl ?_
  have p1620 : ∀ (n : Nat) (v1614 : Nat) (w1616 : Nat) (h1617 : xh), 4294967296 - v1614 < n → (2147483648 ≤ v1614 ∧ v1614 ≤ 2147483654) → J h1617 → Fr 32769 h h1617 → X sc 275 (d + 18) (xV fun h' => J h' ∧ Fr 32769 h h') 0 0 25 [x_r 63, iv_c 2147483649, iv_c (h 63 10), iv_c (h 63 11), iv_c (h 63 12), iv_c (h 63 13), iv_c v1614, w1616] [] h1617 := by
    intro n
    induction n with
    | zero => intro v1614 w1616 h1617 q1621; exact absurd q1621 (Nat.not_lt_zero _)
    | succ n i1622 =>
      intro v1614 w1616 h1617 q1621 b1615 j1619 f1618
      have f1623 := Fr.trans hF f1618 (by decide)
      refine x_iload (np := 27) (x := 6) (by decide +kernel) rfl (by first | decide | omega) ?_
      refine x_aload (np := 28) (x := 0) (by decide +kernel) rfl (x_nc_le (by decide)) ?_
      have t1624 : tw (h1617 63 6) := j1619.2.2.2.2.2.1
      refine x_getR (np := 31) (x := 774) (f := 6) (q := (h1617 63 6)) (by decide +kernel) (by decide) (by decide +kernel) rfl ?_
      have q1625 : h1617 (h1617 63 6) 7 = h (h1617 63 6) 7 := jK 0 f1618 (rg_T0_7_0_1 t1624) (by first | decide | omega) (by first | decide | omega) (by decide)
      have b1626 := jB (e := 7) 0 hJ (rg_T0_7_0_1 t1624) (by first | decide | omega) (by first | decide | omega)
      refine x_getC (np := 34) (x := 519) (f := 7) (q := (h (h1617 63 6) 7)) (by decide +kernel) (by decide) (tg_0_519_7_0 t1624) q1625 (fun l1627 => ?_)
      refine x_icmp (k := 3) (tg := 95) (np := 37) (by decide +kernel) (by decide) (by first | decide | omega) l1627 (fun q1628 => ?_) (fun q1629 => ?_)
      · have q1628 : (h (h1617 63 6) 7) ≤ v1614 := q1628
        refine x_retV (np := 96) (x := 0) (by decide +kernel) (by decide +kernel) ⟨rfl, ?_⟩
        exact ⟨j1619, f1623⟩
      have q1629 : ¬ ((h (h1617 63 6) 7) ≤ v1614) := q1629
      refine x_const (np := 38) (x := 9223372039002259456) (a := 2147483648) (by decide +kernel) (by decide) (by decide) ?_
      refine x_istore (np := 40) (x := 7) (lo' := [x_r 63, iv_c 2147483649, iv_c (h 63 10), iv_c (h 63 11), iv_c (h 63 12), iv_c (h 63 13), iv_c v1614, iv_c 2147483648]) (by decide +kernel) (by decide) (Nat.le_of_ble_eq_true rfl) rfl ?_
      have p1851 : ∀ (n : Nat) (v1846 : Nat) (h1848 : xh), 4294967296 - v1846 < n → (2147483648 ≤ v1846 ∧ v1846 ≤ 2147483654) → J h1848 → Fr 32769 h1617 h1848 → X sc 275 (d + 18) (xV fun h' => J h' ∧ Fr 32769 h h') 0 0 40 [x_r 63, iv_c 2147483649, iv_c (h 63 10), iv_c (h 63 11), iv_c (h 63 12), iv_c (h 63 13), iv_c v1614, iv_c v1846] [] h1848 := by
        intro n
        induction n with
        | zero => intro v1846 h1848 q1852; exact absurd q1852 (Nat.not_lt_zero _)
        | succ n i1853 =>
          intro v1846 h1848 q1852 b1847 j1850 f1849
          have f1854 := Fr.trans f1623 f1849 (by decide)
          have f1855 := Fr.trans f1618 f1849 (by decide)
          refine x_iload (np := 42) (x := 7) (by decide +kernel) rfl (by first | decide | omega) ?_
          refine x_aload (np := 43) (x := 0) (by decide +kernel) rfl (x_nc_le (by decide)) ?_
          have t1856 : tw (h1848 63 6) := j1850.2.2.2.2.2.1
          refine x_getR (np := 46) (x := 774) (f := 6) (q := (h1848 63 6)) (by decide +kernel) (by decide) (by decide +kernel) rfl ?_
          have q1857 : h1848 (h1848 63 6) 7 = h1617 (h1848 63 6) 7 := jK 0 f1849 (rg_T0_7_0_1 t1856) (by first | decide | omega) (by first | decide | omega) (by decide)
          have q1858 : h1617 (h1848 63 6) 7 = h (h1848 63 6) 7 := jK 0 f1618 (rg_T0_7_0_1 t1856) (by first | decide | omega) (by first | decide | omega) (by decide)
          have b1859 := jB (e := 7) 0 hJ (rg_T0_7_0_1 t1856) (by first | decide | omega) (by first | decide | omega)
          refine x_getC (np := 49) (x := 519) (f := 7) (q := (h (h1848 63 6) 7)) (by decide +kernel) (by decide) (tg_0_519_7_0 t1856) (q1857.trans q1858) (fun l1860 => ?_)
          refine x_icmp (k := 3) (tg := 89) (np := 52) (by decide +kernel) (by decide) (by first | decide | omega) l1860 (fun q1861 => ?_) (fun q1862 => ?_)
          · have q1861 : (h (h1848 63 6) 7) ≤ v1846 := q1861
            refine x_iinc (np := 92) (i := 6) (j := 2147483649) (v := (1 + v1614)) (lo' := [x_r 63, iv_c 2147483649, iv_c (h 63 10), iv_c (h 63 11), iv_c (h 63 12), iv_c (h 63 13), iv_c (1 + v1614), iv_c v1846]) (by decide +kernel) (by decide) (by decide) rfl (by first | decide | omega) (by first | decide | omega) (by first | decide | omega) rfl ?_
            refine x_goto (np := 95) (x := 25) (by decide +kernel) ?_
            exact i1622 (1 + v1614) (iv_c v1846) h1848 (by first | decide | omega) (by first | decide | omega) j1850 f1855
          have q1862 : ¬ ((h (h1848 63 6) 7) ≤ v1846) := q1862
          refine x_iload (np := 53) (x := 2) (by decide +kernel) rfl l1 ?_
          refine x_iload (np := 55) (x := 6) (by decide +kernel) rfl (by first | decide | omega) ?_
          refine x_cP (t := 7) (mj := 148) (n := 2) (rc := 0) (ml := 2) (nr := 0) (np := 58) (as := [iv_c (h 63 10), iv_c v1614]) (rest := []) (lo1 := [iv_c (h 63 10), iv_c v1614]) (by decide +kernel) (by decide) (by decide +kernel) (Or.inl rfl) rfl rfl (x_wi l1 (x_wi (by first | decide | omega) x_wn)) x_wn (by decide) rfl (c148 j1850 (by first | decide | omega) (by first | decide | omega)) (fun v1863 l1864 q1865 => ?_)
          obtain ⟨b1867, c1866⟩ := q1865
          refine x_ifz (k := 0) (tg := 83) (np := 61) (by decide +kernel) (by decide) l1864 (fun q1868 => ?_) (fun q1869 => ?_)
          · have q1868 : v1863 = 2147483648 := q1868
            refine x_iinc (np := 86) (i := 7) (j := 2147483649) (v := (1 + v1846)) (lo' := [x_r 63, iv_c 2147483649, iv_c (h 63 10), iv_c (h 63 11), iv_c (h 63 12), iv_c (h 63 13), iv_c v1614, iv_c (1 + v1846)]) (by decide +kernel) (by decide) (by decide) rfl (by first | decide | omega) (by first | decide | omega) (by first | decide | omega) rfl ?_
            refine x_goto (np := 89) (x := 40) (by decide +kernel) ?_
            exact i1853 (1 + v1846) h1848 (by first | decide | omega) (by first | decide | omega) j1850 f1849
          have q1869 : ¬ (v1863 = 2147483648) := q1869
          refine x_iload (np := 62) (x := 3) (by decide +kernel) rfl l2 ?_
          refine x_iload (np := 64) (x := 7) (by decide +kernel) rfl (by first | decide | omega) ?_
          refine x_cP (t := 7) (mj := 148) (n := 2) (rc := 0) (ml := 2) (nr := 0) (np := 67) (as := [iv_c (h 63 11), iv_c v1846]) (rest := []) (lo1 := [iv_c (h 63 11), iv_c v1846]) (by decide +kernel) (by decide) (by decide +kernel) (Or.inl rfl) rfl rfl (x_wi l2 (x_wi (by first | decide | omega) x_wn)) x_wn (by decide) rfl (c148 j1850 (by first | decide | omega) (by first | decide | omega)) (fun v1870 l1871 q1872 => ?_)
          obtain ⟨b1874, c1873⟩ := q1872
          refine x_ifz (k := 0) (tg := 83) (np := 70) (by decide +kernel) (by decide) l1871 (fun q1875 => ?_) (fun q1876 => ?_)
          · have q1875 : v1870 = 2147483648 := q1875
            refine x_iinc (np := 86) (i := 7) (j := 2147483649) (v := (1 + v1846)) (lo' := [x_r 63, iv_c 2147483649, iv_c (h 63 10), iv_c (h 63 11), iv_c (h 63 12), iv_c (h 63 13), iv_c v1614, iv_c (1 + v1846)]) (by decide +kernel) (by decide) (by decide) rfl (by first | decide | omega) (by first | decide | omega) (by first | decide | omega) rfl ?_
            refine x_goto (np := 89) (x := 40) (by decide +kernel) ?_
            exact i1853 (1 + v1846) h1848 (by first | decide | omega) (by first | decide | omega) j1850 f1849
          have q1876 : ¬ (v1870 = 2147483648) := q1876
          refine x_aload (np := 71) (x := 0) (by decide +kernel) rfl (x_nc_le (by decide)) ?_
          refine x_iload (np := 72) (x := 1) (by decide +kernel) rfl (by decide) ?_
          refine x_iload (np := 74) (x := 6) (by decide +kernel) rfl (by first | decide | omega) ?_
          refine x_iload (np := 76) (x := 7) (by decide +kernel) rfl (by first | decide | omega) ?_
          refine x_iload (np := 78) (x := 4) (by decide +kernel) rfl l3 ?_
          refine x_iload (np := 80) (x := 5) (by decide +kernel) rfl l4 ?_
          refine x_cV (t := 8) (mj := 276) (n := 6) (rc := 13) (ml := 10) (nr := 0) (np := 83) (as := [x_r 63, iv_c 2147483649, iv_c v1614, iv_c v1846, iv_c (h 63 12), iv_c (h 63 13)]) (rest := []) (lo1 := [x_r 63, iv_c 2147483649, iv_c v1614, iv_c v1846, iv_c (h 63 12), iv_c (h 63 13), 147573952589676412928, 147573952589676412928, 147573952589676412928, 147573952589676412928]) (by decide +kernel) (by decide) (by decide +kernel) (x_rb_of (by decide +kernel)) rfl rfl (x_wr (by decide) (x_wi (by decide) (x_wi (by first | decide | omega) (x_wi (by first | decide | omega) (x_wi l3 (x_wi l4 x_wn)))))) x_wn (by decide) rfl (c276_63_c1 j1850   (by first | decide | omega) (by first | decide | omega) (by first | decide | omega) (by first | decide | omega)) (fun h1880 q1879 => ?_)
          obtain ⟨j1881, f1882⟩ := q1879
          have f1885 := Fr.trans f1854 f1882 (by decide)
          have f1886 := Fr.trans f1855 f1882 (by decide)
          have f1887 := Fr.trans f1849 f1882 (by decide)
          refine x_iinc (np := 86) (i := 7) (j := 2147483649) (v := (1 + v1846)) (lo' := [x_r 63, iv_c 2147483649, iv_c (h 63 10), iv_c (h 63 11), iv_c (h 63 12), iv_c (h 63 13), iv_c v1614, iv_c (1 + v1846)]) (by decide +kernel) (by decide) (by decide) rfl (by first | decide | omega) (by first | decide | omega) (by first | decide | omega) rfl ?_
          refine x_goto (np := 89) (x := 40) (by decide +kernel) ?_
          exact i1853 (1 + v1846) h1880 (by first | decide | omega) (by first | decide | omega) j1881 f1887
      exact p1851 _ 2147483648 h1617 (Nat.lt_succ_self _) (by first | decide | omega) j1619 (Fr.refl _ _)
  exact p1620 _ 2147483648 147573952589676412928 h (Nat.lt_succ_self _) (by first | decide | omega) hJ (Fr.refl _ _)
set_option maxHeartbeats 0 in
/-- LentNames$Search.keepSet(I)V -/
theorem c279_63_c1 {sc : Nat × Nat} {d  : Nat} {h : xh} (hJ : J h) : X sc 279 d (xV fun h' => J h' ∧ Fr 32769 h h') 0 0 0 [x_r 63, iv_c 2147483649, 147573952589676412928, 147573952589676412928] [] h := by
  have hF := Fr.refl 32769 h
  refine x_aload (np := 1) (x := 0) (by decide +kernel) rfl (x_nc_le (by decide)) ?_
  refine x_dup (np := 2) (x := 0) (by decide +kernel) (by have z := x_nc_le (k := 63) (by decide); unfold x_r; omega) ?_
  refine x_getC (np := 5) (x := 776) (f := 8) (q := (h 63 8)) (by decide +kernel) (by decide) (by decide +kernel) rfl (fun l1 => ?_)
  refine x_const (np := 6) (x := 9223372043297226753) (a := 2147483649) (by decide +kernel) (by decide) (by decide) ?_
  refine x_addA (by rw [tb_b279]; decide +kernel) l1 (by decide) (fun v2 l3 => ?_)
  refine x_putI (np := 10) (x := 776) (f := 8) (by decide +kernel) (by decide +kernel) l3 (Or.inl (by decide)) ?_
  have j5 := jU (e := 8) (v := v2) 0 hJ rg_63_8_0_1 (by first | decide | omega) (by first | decide | omega) (by first | decide | omega)
  have f7 := jF (e := 8) (v := v2) 0 hF rg_63_8_0_1 (by first | decide | omega) (by first | decide | omega) (by decide)
  generalize e6 : x_up h 63 8 v2 = h4 at j5 f7 ⊢
  refine x_aload (np := 11) (x := 0) (by decide +kernel) rfl (x_nc_le (by decide)) ?_
  have q8 : h4 63 8 = v2 := by rw [← e6]; exact x_up_at
  refine x_getC (np := 14) (x := 776) (f := 8) (q := v2) (by decide +kernel) (by decide) (by decide +kernel) q8 (fun l9 => ?_)
  refine x_const (np := 15) (x := 9223372043297226753) (a := 2147483649) (by decide +kernel) (by decide) (by decide) ?_
  refine x_icmp (k := 5) (tg := 19) (np := 18) (by decide +kernel) (by decide) l3 (by decide) (fun q10 => ?_) (fun q11 => ?_)
  · have q10 : v2 ≤ 2147483649 := q10
    refine x_aload (np := 20) (x := 0) (by decide +kernel) rfl (x_nc_le (by decide)) ?_
    refine x_iload (np := 21) (x := 1) (by decide +kernel) rfl (by decide) ?_
    refine x_putI (np := 24) (x := 783) (f := 15) (by decide +kernel) (by decide +kernel) (by decide) (Or.inl (by decide)) ?_
    have j13 := jU (e := 15) (v := 2147483649) 0 j5 rg_63_15_0_1 (by first | decide | omega) (by first | decide | omega) (by first | decide | omega)
    have f15 := jF (e := 15) (v := 2147483649) 0 f7 rg_63_15_0_1 (by first | decide | omega) (by first | decide | omega) (by decide)
    generalize e14 : x_up h4 63 15 2147483649 = h12 at j13 f15 ⊢
    refine x_const (np := 25) (x := 9223372039002259456) (a := 2147483648) (by decide +kernel) (by decide) (by decide) ?_
    refine x_istore (np := 26) (x := 2) (lo' := [x_r 63, iv_c 2147483649, iv_c 2147483648, 147573952589676412928]) (by decide +kernel) (by decide) (Nat.le_of_ble_eq_true rfl) rfl ?_
    have p622 : ∀ (n : Nat) (v616 : Nat) (w618 : Nat) (h619 : xh), 4294967296 - v616 < n → (2147483648 ≤ v616 ∧ v616 ≤ 2147483653) → J h619 → Fr 32768 h12 h619 → X sc 279 d (xV fun h' => J h' ∧ Fr 32769 h h') 0 0 26 [x_r 63, iv_c 2147483649, iv_c v616, w618] [] h619 := by
      intro n
      induction n with
      | zero => intro v616 w618 h619 q623; exact absurd q623 (Nat.not_lt_zero _)
      | succ n i624 =>
        intro v616 w618 h619 q623 b617 j621 f620
        have f625 := Fr.trans f15 f620 (by decide)
        refine x_iload (np := 27) (x := 2) (by decide +kernel) rfl (by first | decide | omega) ?_
        refine x_aload (np := 28) (x := 0) (by decide +kernel) rfl (x_nc_le (by decide)) ?_
        have b626 := jB (e := 15) 0 j621 rg_63_15_0_1 (by first | decide | omega) (by first | decide | omega)
        refine x_getC (np := 31) (x := 783) (f := 15) (q := (h619 63 15)) (by decide +kernel) (by decide) (by decide +kernel) rfl (fun l627 => ?_)
        refine x_icmp (k := 3) (tg := 95) (np := 34) (by decide +kernel) (by decide) (by first | decide | omega) l627 (fun q628 => ?_) (fun q629 => ?_)
        · have q628 : (h619 63 15) ≤ v616 := q628
          refine x_retV (np := 96) (x := 0) (by decide +kernel) (by decide +kernel) ⟨rfl, ?_⟩
          exact ⟨j621, f625⟩
        have q629 : ¬ ((h619 63 15) ≤ v616) := q629
        refine x_iload (np := 35) (x := 2) (by decide +kernel) rfl (by first | decide | omega) ?_
        refine x_istore (np := 36) (x := 3) (lo' := [x_r 63, iv_c 2147483649, iv_c v616, iv_c v616]) (by decide +kernel) (by first | decide | omega) (Nat.le_of_ble_eq_true rfl) rfl ?_
        have p704 : ∀ (n : Nat) (v699 : Nat) (h701 : xh), v699 < n → (2147483648 ≤ v699 ∧ v699 ≤ 2147483652) → J h701 → Fr 32768 h619 h701 → X sc 279 d (xV fun h' => J h' ∧ Fr 32769 h h') 0 0 36 [x_r 63, iv_c 2147483649, iv_c v616, iv_c v699] [] h701 := by
          intro n
          induction n with
          | zero => intro v699 h701 q705; exact absurd q705 (Nat.not_lt_zero _)
          | succ n i706 =>
            intro v699 h701 q705 b700 j703 f702
            have f707 := Fr.trans f625 f702 (by decide)
            have f708 := Fr.trans f620 f702 (by decide)
            refine x_iload (np := 37) (x := 3) (by decide +kernel) rfl (by first | decide | omega) ?_
            refine x_ifz (k := 5) (tg := 77) (np := 40) (by decide +kernel) (by decide) (by first | decide | omega) (fun q709 => ?_) (fun q710 => ?_)
            · have q709 : v699 ≤ 2147483648 := q709
              refine x_aload (np := 78) (x := 0) (by decide +kernel) rfl (x_nc_le (by decide)) ?_
              have q711 : h701 63 4 = 68 := by have z := jB (e := 4) 0 j703 rg_63_4_0_1 (by decide) (by decide); omega
              refine x_getR (np := 81) (x := 772) (f := 4) (q := 68) (by decide +kernel) (by decide) (by decide +kernel) q711 ?_
              refine x_iload (np := 82) (x := 3) (by decide +kernel) rfl (by first | decide | omega) ?_
              refine x_aload (np := 83) (x := 0) (by decide +kernel) rfl (x_nc_le (by decide)) ?_
              have q712 : h701 63 3 = 67 := by have z := jB (e := 3) 0 j703 rg_63_3_0_1 (by decide) (by decide); omega
              refine x_getR (np := 86) (x := 771) (f := 3) (q := 67) (by decide +kernel) (by decide) (by decide +kernel) q712 ?_
              refine x_iload (np := 87) (x := 2) (by decide +kernel) rfl (by first | decide | omega) ?_
              obtain ⟨u713, q714⟩ : ∃ z, v616 = 2147483648 + z := ⟨v616 - 2147483648, by first | decide | omega⟩
              refine x_aldC (np := 88) (x := 0) (n := 5) (i := u713) (q := (h701 67 u713)) (by decide +kernel) (by decide +kernel) (by first | decide | omega) (by first | decide | omega) (by decide) rfl (fun l715 => ?_)
              obtain ⟨u716, q717⟩ : ∃ z, v699 = 2147483648 + z := ⟨v699 - 2147483648, by first | decide | omega⟩
              refine x_ast (np := 89) (x := 0) (kd := 1) (n := 5) (i := u716) (by decide +kernel) (Or.inl rfl) (by decide +kernel) (by first | decide | omega) (by first | decide | omega) (by decide) l715 (fun z => absurd z (by decide)) ?_
              have j719 := jU (e := u716) (v := (h701 67 u713)) u716 j703 rg_68_0_1_5 (by first | decide | omega) (by first | decide | omega) (by first | decide | omega)
              have f721 := jF (e := u716) (v := (h701 67 u713)) u716 f707 rg_68_0_1_5 (by first | decide | omega) (by first | decide | omega) (by decide)
              have f722 := jF (e := u716) (v := (h701 67 u713)) u716 f708 rg_68_0_1_5 (by first | decide | omega) (by first | decide | omega) (by decide)
              generalize e720 : x_up h701 68 u716 (h701 67 u713) = h718 at j719 f721 f722 ⊢
              refine x_iinc (np := 92) (i := 2) (j := 2147483649) (v := (1 + v616)) (lo' := [x_r 63, iv_c 2147483649, iv_c (1 + v616), iv_c v699]) (by decide +kernel) (by decide) (by decide) rfl (by first | decide | omega) (by first | decide | omega) (by first | decide | omega) rfl ?_
              refine x_goto (np := 95) (x := 26) (by decide +kernel) ?_
              exact i624 (1 + v616) (iv_c v699) h718 (by first | decide | omega) (by first | decide | omega) j719 f722
            have q710 : ¬ (v699 ≤ 2147483648) := q710
            refine x_aload (np := 41) (x := 0) (by decide +kernel) rfl (x_nc_le (by decide)) ?_
            have q723 : h701 63 4 = 68 := by have z := jB (e := 4) 0 j703 rg_63_4_0_1 (by decide) (by decide); omega
            refine x_getR (np := 44) (x := 772) (f := 4) (q := 68) (by decide +kernel) (by decide) (by decide +kernel) q723 ?_
            refine x_iload (np := 45) (x := 3) (by decide +kernel) rfl (by first | decide | omega) ?_
            refine x_const (np := 46) (x := 9223372043297226753) (a := 2147483649) (by decide +kernel) (by decide) (by decide) ?_
            obtain ⟨v724, q725⟩ : ∃ z, z + 2147483649 = v699 + 2147483648 := ⟨v699 + 2147483648 - 2147483649, by first | decide | omega⟩
            refine x_isub (np := 47) (x := 0) (v := v724) (by decide +kernel) (by first | decide | omega) (by decide) (by first | decide | omega) (by first | decide | omega) ?_
            obtain ⟨u726, q727⟩ : ∃ z, v724 = 2147483648 + z := ⟨v724 - 2147483648, by first | decide | omega⟩
            refine x_aldC (np := 48) (x := 0) (n := 5) (i := u726) (q := (h701 68 u726)) (by decide +kernel) (by decide +kernel) (by first | decide | omega) (by first | decide | omega) (by decide) rfl (fun l728 => ?_)
            refine x_aload (np := 49) (x := 0) (by decide +kernel) rfl (x_nc_le (by decide)) ?_
            have q729 : h701 63 3 = 67 := by have z := jB (e := 3) 0 j703 rg_63_3_0_1 (by decide) (by decide); omega
            refine x_getR (np := 52) (x := 771) (f := 3) (q := 67) (by decide +kernel) (by decide) (by decide +kernel) q729 ?_
            refine x_iload (np := 53) (x := 2) (by decide +kernel) rfl (by first | decide | omega) ?_
            obtain ⟨u730, q731⟩ : ∃ z, v616 = 2147483648 + z := ⟨v616 - 2147483648, by first | decide | omega⟩
            refine x_aldC (np := 54) (x := 0) (n := 5) (i := u730) (q := (h701 67 u730)) (by decide +kernel) (by decide +kernel) (by first | decide | omega) (by first | decide | omega) (by decide) rfl (fun l732 => ?_)
            refine x_icmp (k := 5) (tg := 77) (np := 57) (by decide +kernel) (by decide) l728 l732 (fun q733 => ?_) (fun q734 => ?_)
            · have q733 : (h701 68 u726) ≤ (h701 67 u730) := q733
              refine x_aload (np := 78) (x := 0) (by decide +kernel) rfl (x_nc_le (by decide)) ?_
              have q735 : h701 63 4 = 68 := by have z := jB (e := 4) 0 j703 rg_63_4_0_1 (by decide) (by decide); omega
              refine x_getR (np := 81) (x := 772) (f := 4) (q := 68) (by decide +kernel) (by decide) (by decide +kernel) q735 ?_
              refine x_iload (np := 82) (x := 3) (by decide +kernel) rfl (by first | decide | omega) ?_
              refine x_aload (np := 83) (x := 0) (by decide +kernel) rfl (x_nc_le (by decide)) ?_
              have q736 : h701 63 3 = 67 := by have z := jB (e := 3) 0 j703 rg_63_3_0_1 (by decide) (by decide); omega
              refine x_getR (np := 86) (x := 771) (f := 3) (q := 67) (by decide +kernel) (by decide) (by decide +kernel) q736 ?_
              refine x_iload (np := 87) (x := 2) (by decide +kernel) rfl (by first | decide | omega) ?_
              refine x_aldC (np := 88) (x := 0) (n := 5) (i := u730) (q := (h701 67 u730)) (by decide +kernel) (by decide +kernel) (by first | decide | omega) (by first | decide | omega) (by decide) rfl (fun l737 => ?_)
              obtain ⟨u738, q739⟩ : ∃ z, v699 = 2147483648 + z := ⟨v699 - 2147483648, by first | decide | omega⟩
              refine x_ast (np := 89) (x := 0) (kd := 1) (n := 5) (i := u738) (by decide +kernel) (Or.inl rfl) (by decide +kernel) (by first | decide | omega) (by first | decide | omega) (by decide) l732 (fun z => absurd z (by decide)) ?_
              have j741 := jU (e := u738) (v := (h701 67 u730)) u738 j703 rg_68_0_1_5 (by first | decide | omega) (by first | decide | omega) (by first | decide | omega)
              have f743 := jF (e := u738) (v := (h701 67 u730)) u738 f707 rg_68_0_1_5 (by first | decide | omega) (by first | decide | omega) (by decide)
              have f744 := jF (e := u738) (v := (h701 67 u730)) u738 f708 rg_68_0_1_5 (by first | decide | omega) (by first | decide | omega) (by decide)
              generalize e742 : x_up h701 68 u738 (h701 67 u730) = h740 at j741 f743 f744 ⊢
              refine x_iinc (np := 92) (i := 2) (j := 2147483649) (v := (1 + v616)) (lo' := [x_r 63, iv_c 2147483649, iv_c (1 + v616), iv_c v699]) (by decide +kernel) (by decide) (by decide) rfl (by first | decide | omega) (by first | decide | omega) (by first | decide | omega) rfl ?_
              refine x_goto (np := 95) (x := 26) (by decide +kernel) ?_
              exact i624 (1 + v616) (iv_c v699) h740 (by first | decide | omega) (by first | decide | omega) j741 f744
            have q734 : ¬ ((h701 68 u726) ≤ (h701 67 u730)) := q734
            refine x_aload (np := 58) (x := 0) (by decide +kernel) rfl (x_nc_le (by decide)) ?_
            have q745 : h701 63 4 = 68 := by have z := jB (e := 4) 0 j703 rg_63_4_0_1 (by decide) (by decide); omega
            refine x_getR (np := 61) (x := 772) (f := 4) (q := 68) (by decide +kernel) (by decide) (by decide +kernel) q745 ?_
            refine x_iload (np := 62) (x := 3) (by decide +kernel) rfl (by first | decide | omega) ?_
            refine x_aload (np := 63) (x := 0) (by decide +kernel) rfl (x_nc_le (by decide)) ?_
            have q746 : h701 63 4 = 68 := by have z := jB (e := 4) 0 j703 rg_63_4_0_1 (by decide) (by decide); omega
            refine x_getR (np := 66) (x := 772) (f := 4) (q := 68) (by decide +kernel) (by decide) (by decide +kernel) q746 ?_
            refine x_iload (np := 67) (x := 3) (by decide +kernel) rfl (by first | decide | omega) ?_
            refine x_const (np := 68) (x := 9223372043297226753) (a := 2147483649) (by decide +kernel) (by decide) (by decide) ?_
            obtain ⟨v747, q748⟩ : ∃ z, z + 2147483649 = v699 + 2147483648 := ⟨v699 + 2147483648 - 2147483649, by first | decide | omega⟩
            refine x_isub (np := 69) (x := 0) (v := v747) (by decide +kernel) (by first | decide | omega) (by decide) (by first | decide | omega) (by first | decide | omega) ?_
            obtain ⟨u749, q750⟩ : ∃ z, v747 = 2147483648 + z := ⟨v747 - 2147483648, by first | decide | omega⟩
            refine x_aldC (np := 70) (x := 0) (n := 5) (i := u749) (q := (h701 68 u749)) (by decide +kernel) (by decide +kernel) (by first | decide | omega) (by first | decide | omega) (by decide) rfl (fun l751 => ?_)
            obtain ⟨u752, q753⟩ : ∃ z, v699 = 2147483648 + z := ⟨v699 - 2147483648, by first | decide | omega⟩
            refine x_ast (np := 71) (x := 0) (kd := 1) (n := 5) (i := u752) (by decide +kernel) (Or.inl rfl) (by decide +kernel) (by first | decide | omega) (by first | decide | omega) (by decide) l751 (fun z => absurd z (by decide)) ?_
            have j755 := jU (e := u752) (v := (h701 68 u749)) u752 j703 rg_68_0_1_5 (by first | decide | omega) (by first | decide | omega) (by first | decide | omega)
            have f757 := jF (e := u752) (v := (h701 68 u749)) u752 f707 rg_68_0_1_5 (by first | decide | omega) (by first | decide | omega) (by decide)
            have f758 := jF (e := u752) (v := (h701 68 u749)) u752 f708 rg_68_0_1_5 (by first | decide | omega) (by first | decide | omega) (by decide)
            have f759 := jF (e := u752) (v := (h701 68 u749)) u752 f702 rg_68_0_1_5 (by first | decide | omega) (by first | decide | omega) (by decide)
            generalize e756 : x_up h701 68 u752 (h701 68 u749) = h754 at j755 f757 f758 f759 ⊢
            obtain ⟨v760, q761⟩ : ∃ z, z + 1 = v699 := ⟨v699 - 1, by first | decide | omega⟩
            refine x_iinc (np := 74) (i := 3) (j := 2147483647) (v := v760) (lo' := [x_r 63, iv_c 2147483649, iv_c v616, iv_c v760]) (by decide +kernel) (by decide) (by decide) rfl (by first | decide | omega) (by first | decide | omega) (by first | decide | omega) rfl ?_
            refine x_goto (np := 77) (x := 36) (by decide +kernel) ?_
            exact i706 v760 h754 (by first | decide | omega) (by first | decide | omega) j755 f759
        exact p704 _ v616 h619 (Nat.lt_succ_self _) (by first | decide | omega) j621 (Fr.refl _ _)
    exact p622 _ 2147483648 147573952589676412928 h12 (Nat.lt_succ_self _) (by first | decide | omega) j13 (Fr.refl _ _)
  have q11 : ¬ (v2 ≤ 2147483649) := q11
  refine x_retV (np := 19) (x := 0) (by decide +kernel) (by decide +kernel) ⟨rfl, ?_⟩
  exact ⟨j5, f7⟩
