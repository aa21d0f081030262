/-! ===== methods ===== -/
set_option maxHeartbeats 0 in
/-- LentNames$Search.come(I)V -/
theorem c274_63_c4 {sc : Nat × Nat} {d  : Nat} {h : xh} (hJ : J h) : X sc 274 (d + 7) (xV fun h' => J h' ∧ Fr 32769 h h') 0 0 0 [x_r 63, iv_c 2147483652] [] h := by
  have hF := Fr.refl 32769 h
  refine x_aload (np := 1) (x := 0) (by decide +kernel) rfl (x_nc_le (by decide)) ?_
  refine x_dup (np := 2) (x := 0) (by decide +kernel) (by have z := x_nc_le (k := 63) (by decide); unfold x_r; omega) ?_
  refine x_getC (np := 5) (x := 785) (f := 17) (q := (h 63 17)) (by decide +kernel) (by decide) (by decide +kernel) rfl (fun l1 => ?_)
  refine x_const (np := 6) (x := 9223372043297226753) (a := 2147483649) (by decide +kernel) (by decide) (by decide) ?_
  refine x_addA (by rw [tb_b274]; decide +kernel) l1 (by decide) (fun v2 l3 => ?_)
  refine x_putI (np := 10) (x := 785) (f := 17) (by decide +kernel) (by decide +kernel) l3 (Or.inl (by decide)) ?_
  have j5 := jU (e := 17) (v := v2) 0 hJ rg_63_17_0_1 (by first | decide | omega) (by first | decide | omega) (by first | decide | omega)
  have f7 := jF (e := 17) (v := v2) 0 hF rg_63_17_0_1 (by first | decide | omega) (by first | decide | omega) (by decide)
  generalize e6 : x_up h 63 17 v2 = h4 at j5 f7 ⊢
  refine x_aload (np := 11) (x := 0) (by decide +kernel) rfl (x_nc_le (by decide)) ?_
  have q8 : h4 63 17 = v2 := by rw [← e6]; exact x_up_at
  refine x_getC (np := 14) (x := 785) (f := 17) (q := v2) (by decide +kernel) (by decide) (by decide +kernel) q8 (fun l9 => ?_)
  refine x_const (np := 17) (x := 9223457938348199456) (a := 2147503648) (by decide +kernel) (by decide) (by decide) ?_
  refine x_icmp (k := 5) (tg := 28) (np := 20) (by decide +kernel) (by decide) l3 (by decide) (fun q10 => ?_) (fun q11 => ?_)
  · have q10 : v2 ≤ 2147503648 := q10
    refine x_aload (np := 29) (x := 0) (by decide +kernel) rfl (x_nc_le (by decide)) ?_
    refine x_vI (P := fun r9 h9 => X sc 274 _ _ 0 0 32 [x_r 63, iv_c 2147483652] (iv_c r9 :: []) h9) (np := 32) (x := 5246979) (kk := 3) (cls := 4) (mj := 56) (ml := 1) (nr := 0) (rest := []) (lo1 := [x_r 63]) (by decide +kernel) (by decide) (by decide) (by decide) (by decide +kernel) (by decide +kernel) (by decide) (by decide +kernel) (by decide +kernel) x_wn (by decide) rfl ?_ (fun _ _ _ z => z)
    refine x_aload (np := 1) (x := 0) (by decide +kernel) rfl (x_nc_le (by decide)) ?_
    refine x_cI (t := 6) (mj := 57) (n := 1) (rc := 5) (ml := 5) (nr := 0) (np := 4) (as := [x_r 63]) (rest := []) (lo1 := [x_r 63, 147573952589676412928, 147573952589676412928, 147573952589676412928, 147573952589676412928]) (by decide +kernel) (by decide) (by decide +kernel) (x_rb_of (by decide +kernel)) rfl rfl (x_wr (by decide) x_wn) x_wn (by decide) rfl (c57_63 j5 ) (fun v12 h15 l13 q14 => ?_)
    obtain ⟨j16, f17, b18⟩ := q14
    have f19 := Fr.trans f7 f17 (by decide)
    refine x_ifz (k := 1) (tg := 14) (np := 7) (by decide +kernel) (by decide) l13 (fun q20 => ?_) (fun q21 => ?_)
    · have q20 : v12 ≠ 2147483648 := q20
      refine x_const (np := 15) (x := 9223372043297226753) (a := 2147483649) (by decide +kernel) (by decide) (by decide) ?_
      refine x_goto (np := 18) (x := 19) (by decide +kernel) ?_
      refine x_retI (np := 20) (x := 0) (by decide +kernel) (by decide) (Or.inr ⟨by decide +kernel, by first | decide | omega, by first | decide | omega⟩) ⟨_, rfl, (by decide), ?_⟩
      refine x_ifz (k := 1) (tg := 43) (np := 35) (by decide +kernel) (by decide) (by decide) (fun q22 => ?_) (fun q23 => ?_)
      · have q22 : 2147483649 ≠ 2147483648 := q22
        refine x_iload (np := 44) (x := 1) (by decide +kernel) rfl (by decide) ?_
        refine x_aload (np := 45) (x := 0) (by decide +kernel) rfl (x_nc_le (by decide)) ?_
        refine x_getC (np := 48) (x := 784) (f := 16) (q := (h15 63 16)) (by decide +kernel) (by decide) (by decide +kernel) rfl (fun l24 => ?_)
        refine x_icmp (k := 3) (tg := 61) (np := 51) (by decide +kernel) (by decide) (by decide) l24 (fun q25 => ?_) (fun q26 => ?_)
        · have q25 : (h15 63 16) ≤ 2147483652 := q25
          refine x_retV (np := 62) (x := 0) (by decide +kernel) (by decide +kernel) ⟨rfl, ?_⟩
          exact ⟨j16, f19⟩
        have q26 : ¬ ((h15 63 16) ≤ 2147483652) := q26
        refine x_iload (np := 52) (x := 1) (by decide +kernel) rfl (by decide) ?_
        refine x_const (np := 53) (x := 9223372060477095941) (a := 2147483653) (by decide +kernel) (by decide) (by decide) ?_
        refine x_icmp (k := 3) (tg := 61) (np := 56) (by decide +kernel) (by decide) (by decide) (by decide) (fun q27 => ?_) (fun q28 => ?_)
        · have q27 : 2147483653 ≤ 2147483652 := q27
          exfalso; omega
        have q28 : ¬ (2147483653 ≤ 2147483652) := q28
        refine x_aload (np := 57) (x := 0) (by decide +kernel) rfl (x_nc_le (by decide)) ?_
        refine x_iload (np := 58) (x := 1) (by decide +kernel) rfl (by decide) ?_
        refine x_cV (t := 8) (mj := 275) (n := 2) (rc := 13) (ml := 8) (nr := 0) (np := 61) (as := [x_r 63, iv_c 2147483652]) (rest := []) (lo1 := [x_r 63, iv_c 2147483652, 147573952589676412928, 147573952589676412928, 147573952589676412928, 147573952589676412928, 147573952589676412928, 147573952589676412928]) (by decide +kernel) (by decide) (by decide +kernel) (x_rb_of (by decide +kernel)) rfl rfl (x_wr (by decide) (x_wi (by decide) x_wn)) x_wn (by decide) rfl (c275_63_c4 j16  ) (fun h32 q31 => ?_)
        obtain ⟨j33, f34⟩ := q31
        have f37 := Fr.trans f19 f34 (by decide)
        refine x_retV (np := 62) (x := 0) (by decide +kernel) (by decide +kernel) ⟨rfl, ?_⟩
        exact ⟨j33, f37⟩
      have q23 : ¬ (2147483649 ≠ 2147483648) := q23
      exfalso; omega
    have q21 : ¬ (v12 ≠ 2147483648) := q21
    refine x_aload (np := 8) (x := 0) (by decide +kernel) rfl (x_nc_le (by decide)) ?_
    refine x_cI (t := 6) (mj := 58) (n := 1) (rc := 5) (ml := 4) (nr := 0) (np := 11) (as := [x_r 63]) (rest := []) (lo1 := [x_r 63, 147573952589676412928, 147573952589676412928, 147573952589676412928]) (by decide +kernel) (by decide) (by decide +kernel) (x_rb_of (by decide +kernel)) rfl rfl (x_wr (by decide) x_wn) x_wn (by decide) rfl (c58_63 j16 ) (fun v38 h41 l39 q40 => ?_)
    obtain ⟨j42, f43, b44⟩ := q40
    have f45 := Fr.trans f19 f43 (by decide)
    refine x_ifz (k := 0) (tg := 18) (np := 14) (by decide +kernel) (by decide) l39 (fun q46 => ?_) (fun q47 => ?_)
    · have q46 : v38 = 2147483648 := q46
      refine x_const (np := 19) (x := 9223372039002259456) (a := 2147483648) (by decide +kernel) (by decide) (by decide) ?_
      refine x_retI (np := 20) (x := 0) (by decide +kernel) (by decide) (Or.inr ⟨by decide +kernel, by first | decide | omega, by first | decide | omega⟩) ⟨_, rfl, (by decide), ?_⟩
      refine x_ifz (k := 1) (tg := 43) (np := 35) (by decide +kernel) (by decide) (by decide) (fun q48 => ?_) (fun q49 => ?_)
      · have q48 : 2147483648 ≠ 2147483648 := q48
        exfalso; omega
      have q49 : ¬ (2147483648 ≠ 2147483648) := q49
      refine x_aload (np := 36) (x := 0) (by decide +kernel) rfl (x_nc_le (by decide)) ?_
      refine x_iload (np := 37) (x := 1) (by decide +kernel) rfl (by decide) ?_
      refine x_cV (t := 8) (mj := 279) (n := 2) (rc := 13) (ml := 4) (nr := 0) (np := 40) (as := [x_r 63, iv_c 2147483652]) (rest := []) (lo1 := [x_r 63, iv_c 2147483652, 147573952589676412928, 147573952589676412928]) (by decide +kernel) (by decide) (by decide +kernel) (x_rb_of (by decide +kernel)) rfl rfl (x_wr (by decide) (x_wi (by decide) x_wn)) x_wn (by decide) rfl (c279_63_c4 j42  ) (fun h53 q52 => ?_)
      obtain ⟨j54, f55⟩ := q52
      have f58 := Fr.trans f45 f55 (by decide)
      refine x_goto (np := 43) (x := 61) (by decide +kernel) ?_
      refine x_retV (np := 62) (x := 0) (by decide +kernel) (by decide +kernel) ⟨rfl, ?_⟩
      exact ⟨j54, f58⟩
    have q47 : ¬ (v38 = 2147483648) := q47
    refine x_const (np := 15) (x := 9223372043297226753) (a := 2147483649) (by decide +kernel) (by decide) (by decide) ?_
    refine x_goto (np := 18) (x := 19) (by decide +kernel) ?_
    refine x_retI (np := 20) (x := 0) (by decide +kernel) (by decide) (Or.inr ⟨by decide +kernel, by first | decide | omega, by first | decide | omega⟩) ⟨_, rfl, (by decide), ?_⟩
    refine x_ifz (k := 1) (tg := 43) (np := 35) (by decide +kernel) (by decide) (by decide) (fun q59 => ?_) (fun q60 => ?_)
    · have q59 : 2147483649 ≠ 2147483648 := q59
      refine x_iload (np := 44) (x := 1) (by decide +kernel) rfl (by decide) ?_
      refine x_aload (np := 45) (x := 0) (by decide +kernel) rfl (x_nc_le (by decide)) ?_
      refine x_getC (np := 48) (x := 784) (f := 16) (q := (h41 63 16)) (by decide +kernel) (by decide) (by decide +kernel) rfl (fun l61 => ?_)
      refine x_icmp (k := 3) (tg := 61) (np := 51) (by decide +kernel) (by decide) (by decide) l61 (fun q62 => ?_) (fun q63 => ?_)
      · have q62 : (h41 63 16) ≤ 2147483652 := q62
        refine x_retV (np := 62) (x := 0) (by decide +kernel) (by decide +kernel) ⟨rfl, ?_⟩
        exact ⟨j42, f45⟩
      have q63 : ¬ ((h41 63 16) ≤ 2147483652) := q63
      refine x_iload (np := 52) (x := 1) (by decide +kernel) rfl (by decide) ?_
      refine x_const (np := 53) (x := 9223372060477095941) (a := 2147483653) (by decide +kernel) (by decide) (by decide) ?_
      refine x_icmp (k := 3) (tg := 61) (np := 56) (by decide +kernel) (by decide) (by decide) (by decide) (fun q64 => ?_) (fun q65 => ?_)
      · have q64 : 2147483653 ≤ 2147483652 := q64
        exfalso; omega
      have q65 : ¬ (2147483653 ≤ 2147483652) := q65
      refine x_aload (np := 57) (x := 0) (by decide +kernel) rfl (x_nc_le (by decide)) ?_
      refine x_iload (np := 58) (x := 1) (by decide +kernel) rfl (by decide) ?_
      refine x_cV (t := 8) (mj := 275) (n := 2) (rc := 13) (ml := 8) (nr := 0) (np := 61) (as := [x_r 63, iv_c 2147483652]) (rest := []) (lo1 := [x_r 63, iv_c 2147483652, 147573952589676412928, 147573952589676412928, 147573952589676412928, 147573952589676412928, 147573952589676412928, 147573952589676412928]) (by decide +kernel) (by decide) (by decide +kernel) (x_rb_of (by decide +kernel)) rfl rfl (x_wr (by decide) (x_wi (by decide) x_wn)) x_wn (by decide) rfl (c275_63_c4 j42  ) (fun h69 q68 => ?_)
      obtain ⟨j70, f71⟩ := q68
      have f74 := Fr.trans f45 f71 (by decide)
      refine x_retV (np := 62) (x := 0) (by decide +kernel) (by decide +kernel) ⟨rfl, ?_⟩
      exact ⟨j70, f74⟩
    have q60 : ¬ (2147483649 ≠ 2147483648) := q60
    exfalso; omega
  have q11 : ¬ (v2 ≤ 2147503648) := q11
  refine x_aload (np := 21) (x := 0) (by decide +kernel) rfl (x_nc_le (by decide)) ?_
  refine x_const (np := 22) (x := 9223372043297226753) (a := 2147483649) (by decide +kernel) (by decide) (by decide) ?_
  refine x_putI (np := 25) (x := 4873) (f := 9) (by decide +kernel) (by decide +kernel) (by decide) (Or.inr ⟨by decide, by first | decide | omega, by first | decide | omega⟩) ?_
  have j76 := jU (e := 9) (v := 2147483649) 0 j5 rg_63_9_0_1 (by first | decide | omega) (by first | decide | omega) (by first | decide | omega)
  have f78 := jF (e := 9) (v := 2147483649) 0 f7 rg_63_9_0_1 (by first | decide | omega) (by first | decide | omega) (by decide)
  generalize e77 : x_up h4 63 9 2147483649 = h75 at j76 f78 ⊢
  refine x_goto (np := 28) (x := 61) (by decide +kernel) ?_
  refine x_retV (np := 62) (x := 0) (by decide +kernel) (by decide +kernel) ⟨rfl, ?_⟩
  exact ⟨j76, f78⟩
set_option maxHeartbeats 0 in
/-- LentNames$Search.tryLoan(IIIII)V -/
theorem c277_63_c3 {sc : Nat × Nat} {d a2 a3 a4 a5 : Nat} {h : xh} (hJ : J h) (ba2 : 2147483648 ≤ a2 ∧ a2 ≤ 2147483653) (ba3 : 2147483648 ≤ a3 ∧ a3 ≤ 2147483653) (ba4 : 2147483648 ≤ a4 ∧ a4 ≤ 2147483659) (ba5 : 2147483648 ≤ a5 ∧ a5 ≤ 2147483659) : X sc 277 (d + 8) (xV fun h' => J h' ∧ Fr 32769 h h') 0 0 0 [x_r 63, iv_c 2147483651, iv_c a2, iv_c a3, iv_c a4, iv_c a5, 147573952589676412928] [] h := by
  have la2 : a2 < 4294967296 := by first | decide | omega
  have la3 : a3 < 4294967296 := by first | decide | omega
  have la4 : a4 < 4294967296 := by first | decide | omega
  have la5 : a5 < 4294967296 := by first | decide | omega
  have hF := Fr.refl 32769 h
  refine x_const (np := 1) (x := 9223372043297226753) (a := 2147483649) (by decide +kernel) (by decide) (by decide) ?_
  refine x_iload (np := 3) (x := 5) (by decide +kernel) rfl la5 ?_
  refine x_const (np := 4) (x := 9223372043297226753) (a := 2147483649) (by decide +kernel) (by decide) (by decide) ?_
  refine x_iadd (np := 5) (x := 0) (v := (1 + a5)) (by decide +kernel) la5 (by decide) (by first | decide | omega) (by first | decide | omega) ?_
  refine x_any (np := 6) (k9 := 3) (by decide +kernel) (by decide) (by decide) (by first | decide | omega) (fun v1 l2 => ?_)
  refine x_const (np := 7) (x := 9223372043297226753) (a := 2147483649) (by decide +kernel) (by decide) (by decide) ?_
  refine x_iload (np := 9) (x := 4) (by decide +kernel) rfl la4 ?_
  refine x_any (np := 10) (k9 := 3) (by decide +kernel) (by decide) (by decide) la4 (fun v3 l4 => ?_)
  refine x_subA (by rw [tb_b277]; decide +kernel) l2 l4 (fun v5 l6 => ?_)
  refine x_istore (np := 13) (x := 6) (lo' := [x_r 63, iv_c 2147483651, iv_c a2, iv_c a3, iv_c a4, iv_c a5, iv_c v5]) (by decide +kernel) l6 (Nat.le_of_ble_eq_true rfl) rfl ?_
  refine x_aload (np := 14) (x := 0) (by decide +kernel) rfl (x_nc_le (by decide)) ?_
  have q7 : h 63 3 = 67 := by have z := jB (e := 3) 0 hJ rg_63_3_0_1 (by decide) (by decide); omega
  refine x_getR (np := 17) (x := 771) (f := 3) (q := 67) (by decide +kernel) (by decide) (by decide +kernel) q7 ?_
  refine x_iload (np := 18) (x := 1) (by decide +kernel) rfl (by decide) ?_
  refine x_const (np := 21) (x := 9223414988675229456) (a := 2147493648) (by decide +kernel) (by decide) (by decide) ?_
  refine x_iload (np := 22) (x := 2) (by decide +kernel) rfl la2 ?_
  obtain ⟨u8, q9⟩ : ∃ z, a2 = 2147483648 + z := ⟨a2 - 2147483648, by first | decide | omega⟩
  refine x_imul (np := 23) (x := 0) (i := 10000) (j := u8) (v := (2147483648 + 10000 * u8)) (by decide +kernel) (by first | decide | omega) (by first | decide | omega) (by first | decide | omega) (by first | decide | omega) (by decide) la2 ?_
  refine x_const (np := 26) (x := 9223376333969556456) (a := 2147484648) (by decide +kernel) (by decide) (by decide) ?_
  refine x_iload (np := 27) (x := 3) (by decide +kernel) rfl la3 ?_
  obtain ⟨u11, q12⟩ : ∃ z, a3 = 2147483648 + z := ⟨a3 - 2147483648, by first | decide | omega⟩
  refine x_imul (np := 28) (x := 0) (i := 1000) (j := u11) (v := (2147483648 + 1000 * u11)) (by decide +kernel) (by first | decide | omega) (by first | decide | omega) (by first | decide | omega) (by first | decide | omega) (by decide) la3 ?_
  refine x_iadd (np := 29) (x := 0) (v := (2147483648 + 10000 * u8 + 1000 * u11)) (by decide +kernel) (by first | decide | omega) (by first | decide | omega) (by first | decide | omega) (by first | decide | omega) ?_
  refine x_const (np := 31) (x := 9223372124901605396) (a := 2147483668) (by decide +kernel) (by decide) (by decide) ?_
  refine x_iload (np := 33) (x := 4) (by decide +kernel) rfl la4 ?_
  obtain ⟨u14, q15⟩ : ∃ z, a4 = 2147483648 + z := ⟨a4 - 2147483648, by first | decide | omega⟩
  refine x_imul (np := 34) (x := 0) (i := 20) (j := u14) (v := (2147483648 + 20 * u14)) (by decide +kernel) (by first | decide | omega) (by first | decide | omega) (by first | decide | omega) (by first | decide | omega) (by decide) la4 ?_
  refine x_iadd (np := 35) (x := 0) (v := (2147483648 + 10000 * u8 + 1000 * u11 + 20 * u14)) (by decide +kernel) (by first | decide | omega) (by first | decide | omega) (by first | decide | omega) (by first | decide | omega) ?_
  refine x_iload (np := 37) (x := 5) (by decide +kernel) rfl la5 ?_
  refine x_iadd (np := 38) (x := 0) (v := (10000 * u8 + 1000 * u11 + 20 * u14 + a5)) (by decide +kernel) (by first | decide | omega) la5 (by first | decide | omega) (by first | decide | omega) ?_
  refine x_ast (np := 39) (x := 0) (kd := 1) (n := 5) (i := 3) (by decide +kernel) (Or.inl rfl) (by decide +kernel) (by first | decide | omega) (by first | decide | omega) (by decide) (by first | decide | omega) (fun z => absurd z (by decide)) ?_
  have j18 := jU (e := 3) (v := (10000 * u8 + 1000 * u11 + 20 * u14 + a5)) 3 hJ rg_67_0_1_5 (by first | decide | omega) (by first | decide | omega) (by first | decide | omega)
  have f20 := jF (e := 3) (v := (10000 * u8 + 1000 * u11 + 20 * u14 + a5)) 3 hF rg_67_0_1_5 (by first | decide | omega) (by first | decide | omega) (by decide)
  generalize e19 : x_up h 67 3 (10000 * u8 + 1000 * u11 + 20 * u14 + a5) = h17 at j18 f20 ⊢
  refine x_aload (np := 40) (x := 0) (by decide +kernel) rfl (x_nc_le (by decide)) ?_
  refine x_iload (np := 41) (x := 2) (by decide +kernel) rfl la2 ?_
  refine x_iload (np := 42) (x := 3) (by decide +kernel) rfl la3 ?_
  refine x_iload (np := 44) (x := 6) (by decide +kernel) rfl l6 ?_
  refine x_cV (t := 8) (mj := 280) (n := 4) (rc := 13) (ml := 5) (nr := 0) (np := 47) (as := [x_r 63, iv_c a2, iv_c a3, iv_c v5]) (rest := []) (lo1 := [x_r 63, iv_c a2, iv_c a3, iv_c v5, 147573952589676412928]) (by decide +kernel) (by decide) (by decide +kernel) (x_rb_of (by decide +kernel)) rfl rfl (x_wr (by decide) (x_wi la2 (x_wi la3 (x_wi l6 x_wn)))) x_wn (by decide) rfl (c280_63 j18  (by first | decide | omega) (by first | decide | omega) (by first | decide | omega)) (fun h24 q23 => ?_)
  obtain ⟨j25, f26⟩ := q23
  have f29 := Fr.trans f20 f26 (by decide)
  refine x_aload (np := 48) (x := 0) (by decide +kernel) rfl (x_nc_le (by decide)) ?_
  refine x_iload (np := 49) (x := 1) (by decide +kernel) rfl (by decide) ?_
  refine x_const (np := 50) (x := 9223372043297226753) (a := 2147483649) (by decide +kernel) (by decide) (by decide) ?_
  refine x_iadd (np := 51) (x := 0) (v := 2147483652) (by decide +kernel) (by decide) (by decide) (by first | decide | omega) (by first | decide | omega) ?_
  refine x_cV (t := 8) (mj := 274) (n := 2) (rc := 13) (ml := 2) (nr := 0) (np := 54) (as := [x_r 63, iv_c 2147483652]) (rest := []) (lo1 := [x_r 63, iv_c 2147483652]) (by decide +kernel) (by decide) (by decide +kernel) (x_rb_of (by decide +kernel)) rfl rfl (x_wr (by decide) (x_wi (by decide) x_wn)) x_wn (by decide) rfl (c274_63_c4 j25  ) (fun h33 q32 => ?_)
  obtain ⟨j34, f35⟩ := q32
  have f38 := Fr.trans f29 f35 (by decide)
  refine x_aload (np := 55) (x := 0) (by decide +kernel) rfl (x_nc_le (by decide)) ?_
  refine x_iload (np := 56) (x := 2) (by decide +kernel) rfl la2 ?_
  refine x_iload (np := 58) (x := 6) (by decide +kernel) rfl l6 ?_
  refine x_cV (t := 8) (mj := 281) (n := 3) (rc := 13) (ml := 5) (nr := 0) (np := 61) (as := [x_r 63, iv_c a2, iv_c v5]) (rest := []) (lo1 := [x_r 63, iv_c a2, iv_c v5, 147573952589676412928, 147573952589676412928]) (by decide +kernel) (by decide) (by decide +kernel) (x_rb_of (by decide +kernel)) rfl rfl (x_wr (by decide) (x_wi la2 (x_wi l6 x_wn))) x_wn (by decide) rfl (c281_63 j34  (by first | decide | omega) (by first | decide | omega)) (fun h42 q41 => ?_)
  obtain ⟨j43, f44⟩ := q41
  have f47 := Fr.trans f38 f44 (by decide)
  refine x_retV (np := 62) (x := 0) (by decide +kernel) (by decide +kernel) ⟨rfl, ?_⟩
  exact ⟨j43, f47⟩
set_option maxHeartbeats 0 in
/-- LentNames$Search.tryLoans(IIIII)V -/
theorem c276_63_c3 {sc : Nat × Nat} {d a2 a3 a4 a5 : Nat} {h : xh} (hJ : J h) (ba2 : 2147483648 ≤ a2 ∧ a2 ≤ 2147483653) (ba3 : 2147483648 ≤ a3 ∧ a3 ≤ 2147483653) (ba4 : 0 ≤ a4 ∧ a4 ≤ 4294967295) (ba5 : 0 ≤ a5 ∧ a5 ≤ 4294967295) : X sc 276 (d + 9) (xV fun h' => J h' ∧ Fr 32769 h h') 0 0 0 [x_r 63, iv_c 2147483651, iv_c a2, iv_c a3, iv_c a4, iv_c a5, 147573952589676412928, 147573952589676412928, 147573952589676412928, 147573952589676412928] [] h := by
  have la2 : a2 < 4294967296 := by first | decide | omega
  have la3 : a3 < 4294967296 := by first | decide | omega
  have la4 : a4 < 4294967296 := by first | decide | omega
  have la5 : a5 < 4294967296 := by first | decide | omega
  have hF := Fr.refl 32769 h
  refine x_aload (np := 1) (x := 0) (by decide +kernel) rfl (x_nc_le (by decide)) ?_
  have q1 : h 63 5 = 45 := by have z := jB (e := 5) 0 hJ rg_63_5_0_1 (by decide) (by decide); omega
  refine x_getR (np := 4) (x := 773) (f := 5) (q := 45) (by decide +kernel) (by decide) (by decide +kernel) q1 ?_
  have q2 : h 45 0 = 46 := by have z := jB (e := 0) 0 hJ rg_45_0_0_1 (by decide) (by decide); omega
  refine x_getR (np := 7) (x := 64) (f := 0) (q := 46) (by decide +kernel) (by decide) (by decide +kernel) q2 ?_
  refine x_iload (np := 8) (x := 3) (by decide +kernel) rfl la3 ?_
  obtain ⟨u3, q4⟩ : ∃ z, a3 = 2147483648 + z := ⟨a3 - 2147483648, by first | decide | omega⟩
  refine x_aldC (np := 9) (x := 0) (n := 6) (i := u3) (q := (h 46 u3)) (by decide +kernel) (by decide +kernel) (by first | decide | omega) (by first | decide | omega) (by decide) rfl (fun l5 => ?_)
  refine x_aload (np := 10) (x := 0) (by decide +kernel) rfl (x_nc_le (by decide)) ?_
  have q6 : h 63 5 = 45 := by have z := jB (e := 5) 0 hJ rg_63_5_0_1 (by decide) (by decide); omega
  refine x_getR (np := 13) (x := 773) (f := 5) (q := 45) (by decide +kernel) (by decide) (by decide +kernel) q6 ?_
  have q7 : h 45 1 = 47 := by have z := jB (e := 1) 0 hJ rg_45_1_0_1 (by decide) (by decide); omega
  refine x_getR (np := 16) (x := 65) (f := 1) (q := 47) (by decide +kernel) (by decide) (by decide +kernel) q7 ?_
  refine x_iload (np := 17) (x := 2) (by decide +kernel) rfl la2 ?_
  refine x_iload (np := 18) (x := 3) (by decide +kernel) rfl la3 ?_
  refine x_nI (t := 7) (mj := 149) (n := 2) (rc := 0) (ml := 2) (nr := 2) (np := 21) (as := [iv_c a2, iv_c a3]) (rest := [x_r 47, iv_c (h 46 u3)]) (lo1 := [iv_c a2, iv_c a3]) (by decide +kernel) (by decide) (by decide +kernel) (Or.inl rfl) rfl rfl (x_wi la2 (x_wi la3 x_wn)) (x_wr (by decide) (x_wi l5 x_wn)) (by decide) rfl ?_
  refine x_iload (np := 1) (x := 0) (by decide +kernel) rfl la2 ?_
  refine x_const (np := 3) (x := 9223372064772063238) (a := 2147483654) (by decide +kernel) (by decide) (by decide) ?_
  obtain ⟨u8, q9⟩ : ∃ z, a2 = 2147483648 + z := ⟨a2 - 2147483648, by first | decide | omega⟩
  refine x_imul (np := 4) (x := 0) (i := u8) (j := 6) (v := (2147483648 + 6 * u8)) (by decide +kernel) (by first | decide | omega) (by first | decide | omega) (by first | decide | omega) (by first | decide | omega) la2 (by decide) ?_
  refine x_iload (np := 5) (x := 1) (by decide +kernel) rfl la3 ?_
  refine x_iadd (np := 6) (x := 0) (v := (6 * u8 + a3)) (by decide +kernel) (by first | decide | omega) la3 (by first | decide | omega) (by first | decide | omega) ?_
  refine x_retI (np := 7) (x := 0) (by decide +kernel) (by first | decide | omega) (Or.inl (by decide +kernel)) ⟨_, rfl, (by first | decide | omega), ?_⟩
  refine x_aldC (np := 22) (x := 0) (n := 36) (i := (6 * u8 + u3)) (q := ((h 47 (6 * u8 + u3)))) (by decide +kernel) (by decide +kernel) (by first | decide | omega) (by first | decide | omega) (by decide) rfl (fun l11 => ?_)
  refine x_const (np := 23) (x := 9223372034707292159) (a := 2147483647) (by decide +kernel) (by decide) (by decide) ?_
  refine x_any (np := 24) (k9 := 2) (by decide +kernel) (by decide) l11 (by decide) (fun v12 l13 => ?_)
  refine x_any (np := 25) (k9 := 0) (by decide +kernel) (by decide) l5 l13 (fun v14 l15 => ?_)
  refine x_aload (np := 26) (x := 0) (by decide +kernel) rfl (x_nc_le (by decide)) ?_
  have q16 : h 63 2 = 66 := by have z := jB (e := 2) 0 hJ rg_63_2_0_1 (by decide) (by decide); omega
  refine x_getR (np := 29) (x := 770) (f := 2) (q := 66) (by decide +kernel) (by decide) (by decide +kernel) q16 ?_
  refine x_iload (np := 30) (x := 2) (by decide +kernel) rfl la2 ?_
  refine x_aldC (np := 31) (x := 0) (n := 6) (i := u8) (q := (h 66 u8)) (by decide +kernel) (by decide +kernel) (by first | decide | omega) (by first | decide | omega) (by decide) rfl (fun l17 => ?_)
  refine x_const (np := 32) (x := 9223372034707292159) (a := 2147483647) (by decide +kernel) (by decide) (by decide) ?_
  refine x_any (np := 33) (k9 := 2) (by decide +kernel) (by decide) l17 (by decide) (fun v18 l19 => ?_)
  refine x_any (np := 34) (k9 := 0) (by decide +kernel) (by decide) l15 l19 (fun v20 l21 => ?_)
  refine x_istore (np := 36) (x := 6) (lo' := [x_r 63, iv_c 2147483651, iv_c a2, iv_c a3, iv_c a4, iv_c a5, iv_c v20, 147573952589676412928, 147573952589676412928, 147573952589676412928]) (by decide +kernel) l21 (Nat.le_of_ble_eq_true rfl) rfl ?_
  refine x_aload (np := 37) (x := 0) (by decide +kernel) rfl (x_nc_le (by decide)) ?_
  have q22 : h 63 1 = 65 := by have z := jB (e := 1) 0 hJ rg_63_1_0_1 (by decide) (by decide); omega
  refine x_getR (np := 40) (x := 769) (f := 1) (q := 65) (by decide +kernel) (by decide) (by decide +kernel) q22 ?_
  refine x_iload (np := 41) (x := 2) (by decide +kernel) rfl la2 ?_
  refine x_aldC (np := 42) (x := 0) (n := 6) (i := u8) (q := (h 65 u8)) (by decide +kernel) (by decide +kernel) (by first | decide | omega) (by first | decide | omega) (by decide) rfl (fun l23 => ?_)
  refine x_iload (np := 44) (x := 6) (by decide +kernel) rfl l21 ?_
  refine x_any (np := 45) (k9 := 0) (by decide +kernel) (by decide) l23 l21 (fun v24 l25 => ?_)
  refine x_istore (np := 47) (x := 7) (lo' := [x_r 63, iv_c 2147483651, iv_c a2, iv_c a3, iv_c a4, iv_c a5, iv_c v20, iv_c v24, 147573952589676412928, 147573952589676412928]) (by decide +kernel) l25 (Nat.le_of_ble_eq_true rfl) rfl ?_
  refine x_const (np := 48) (x := 9223372039002259456) (a := 2147483648) (by decide +kernel) (by decide) (by decide) ?_
  refine x_istore (np := 50) (x := 8) (lo' := [x_r 63, iv_c 2147483651, iv_c a2, iv_c a3, iv_c a4, iv_c a5, iv_c v20, iv_c v24, iv_c 2147483648, 147573952589676412928]) (by decide +kernel) (by decide) (Nat.le_of_ble_eq_true rfl) rfl ?_
  have p3726 : ∀ (n : Nat) (v3720 : Nat) (w3722 : Nat) (h3723 : xh), 4294967296 - v3720 < n → (2147483648 ≤ v3720 ∧ v3720 ≤ 2147483660) → J h3723 → Fr 32769 h h3723 → X sc 276 (d + 9) (xV fun h' => J h' ∧ Fr 32769 h h') 0 0 50 [x_r 63, iv_c 2147483651, iv_c a2, iv_c a3, iv_c a4, iv_c a5, iv_c v20, iv_c v24, iv_c v3720, w3722] [] h3723 := by
    intro n
    induction n with
    | zero => intro v3720 w3722 h3723 q3727; exact absurd q3727 (Nat.not_lt_zero _)
    | succ n i3728 =>
      intro v3720 w3722 h3723 q3727 b3721 j3725 f3724
      have f3729 := Fr.trans hF f3724 (by decide)
      refine x_iload (np := 52) (x := 8) (by decide +kernel) rfl (by first | decide | omega) ?_
      refine x_iload (np := 54) (x := 5) (by decide +kernel) rfl la5 ?_
      refine x_icmp (k := 4) (tg := 145) (np := 57) (by decide +kernel) (by decide) (by first | decide | omega) la5 (fun q3730 => ?_) (fun q3731 => ?_)
      · have q3730 : a5 < v3720 := q3730
        refine x_retV (np := 146) (x := 0) (by decide +kernel) (by decide +kernel) ⟨rfl, ?_⟩
        exact ⟨j3725, f3729⟩
      have q3731 : ¬ (a5 < v3720) := q3731
      refine x_iload (np := 59) (x := 8) (by decide +kernel) rfl (by first | decide | omega) ?_
      refine x_const (np := 61) (x := 9223372090541867020) (a := 2147483660) (by decide +kernel) (by decide) (by decide) ?_
      refine x_icmp (k := 3) (tg := 145) (np := 64) (by decide +kernel) (by decide) (by first | decide | omega) (by decide) (fun q3732 => ?_) (fun q3733 => ?_)
      · have q3732 : 2147483660 ≤ v3720 := q3732
        refine x_retV (np := 146) (x := 0) (by decide +kernel) (by decide +kernel) ⟨rfl, ?_⟩
        exact ⟨j3725, f3729⟩
      have q3733 : ¬ (2147483660 ≤ v3720) := q3733
      refine x_iload (np := 66) (x := 7) (by decide +kernel) rfl l25 ?_
      refine x_iload (np := 68) (x := 8) (by decide +kernel) rfl (by first | decide | omega) ?_
      refine x_cP (t := 7) (mj := 148) (n := 2) (rc := 0) (ml := 2) (nr := 0) (np := 71) (as := [iv_c v24, iv_c v3720]) (rest := []) (lo1 := [iv_c v24, iv_c v3720]) (by decide +kernel) (by decide) (by decide +kernel) (Or.inl rfl) rfl rfl (x_wi l25 (x_wi (by first | decide | omega) x_wn)) x_wn (by decide) rfl (c148 j3725 (by first | decide | omega) (by first | decide | omega)) (fun v3734 l3735 q3736 => ?_)
      refine x_ifz (k := 1) (tg := 77) (np := 74) (by decide +kernel) (by decide) l3735 (fun q3737 => ?_) (fun q3738 => ?_)
      · have q3737 : v3734 ≠ 2147483648 := q3737
        refine x_iload (np := 79) (x := 8) (by decide +kernel) rfl (by first | decide | omega) ?_
        refine x_istore (np := 81) (x := 9) (lo' := [x_r 63, iv_c 2147483651, iv_c a2, iv_c a3, iv_c a4, iv_c a5, iv_c v20, iv_c v24, iv_c v3720, iv_c v3720]) (by decide +kernel) (by first | decide | omega) (Nat.le_of_ble_eq_true rfl) rfl ?_
        have p3831 : ∀ (n : Nat) (v3826 : Nat) (h3828 : xh), 4294967296 - v3826 < n → (2147483648 ≤ v3826 ∧ v3826 ≤ 2147483660) → J h3828 → Fr 32769 h3723 h3828 → X sc 276 (d + 9) (xV fun h' => J h' ∧ Fr 32769 h h') 0 0 81 [x_r 63, iv_c 2147483651, iv_c a2, iv_c a3, iv_c a4, iv_c a5, iv_c v20, iv_c v24, iv_c v3720, iv_c v3826] [] h3828 := by
          intro n
          induction n with
          | zero => intro v3826 h3828 q3832; exact absurd q3832 (Nat.not_lt_zero _)
          | succ n i3833 =>
            intro v3826 h3828 q3832 b3827 j3830 f3829
            have f3834 := Fr.trans f3729 f3829 (by decide)
            have f3835 := Fr.trans f3724 f3829 (by decide)
            refine x_iload (np := 83) (x := 9) (by decide +kernel) rfl (by first | decide | omega) ?_
            refine x_const (np := 85) (x := 9223372090541867020) (a := 2147483660) (by decide +kernel) (by decide) (by decide) ?_
            refine x_icmp (k := 3) (tg := 139) (np := 88) (by decide +kernel) (by decide) (by first | decide | omega) (by decide) (fun q3836 => ?_) (fun q3837 => ?_)
            · have q3836 : 2147483660 ≤ v3826 := q3836
              refine x_iinc (np := 142) (i := 8) (j := 2147483649) (v := (1 + v3720)) (lo' := [x_r 63, iv_c 2147483651, iv_c a2, iv_c a3, iv_c a4, iv_c a5, iv_c v20, iv_c v24, iv_c (1 + v3720), iv_c v3826]) (by decide +kernel) (by decide) (by decide) rfl (by first | decide | omega) (by first | decide | omega) (by first | decide | omega) rfl ?_
              refine x_goto (np := 145) (x := 50) (by decide +kernel) ?_
              exact i3728 (1 + v3720) (iv_c v3826) h3828 (by first | decide | omega) (by first | decide | omega) j3830 f3835
            have q3837 : ¬ (2147483660 ≤ v3826) := q3837
            refine x_iload (np := 90) (x := 6) (by decide +kernel) rfl l21 ?_
            refine x_iload (np := 92) (x := 9) (by decide +kernel) rfl (by first | decide | omega) ?_
            refine x_cP (t := 7) (mj := 148) (n := 2) (rc := 0) (ml := 2) (nr := 0) (np := 95) (as := [iv_c v20, iv_c v3826]) (rest := []) (lo1 := [iv_c v20, iv_c v3826]) (by decide +kernel) (by decide) (by decide +kernel) (Or.inl rfl) rfl rfl (x_wi l21 (x_wi (by first | decide | omega) x_wn)) x_wn (by decide) rfl (c148 j3830 (by first | decide | omega) (by first | decide | omega)) (fun v3838 l3839 q3840 => ?_)
            refine x_ifz (k := 0) (tg := 139) (np := 98) (by decide +kernel) (by decide) l3839 (fun q3841 => ?_) (fun q3842 => ?_)
            · have q3841 : v3838 = 2147483648 := q3841
              refine x_iinc (np := 142) (i := 8) (j := 2147483649) (v := (1 + v3720)) (lo' := [x_r 63, iv_c 2147483651, iv_c a2, iv_c a3, iv_c a4, iv_c a5, iv_c v20, iv_c v24, iv_c (1 + v3720), iv_c v3826]) (by decide +kernel) (by decide) (by decide) rfl (by first | decide | omega) (by first | decide | omega) (by first | decide | omega) rfl ?_
              refine x_goto (np := 145) (x := 50) (by decide +kernel) ?_
              exact i3728 (1 + v3720) (iv_c v3826) h3828 (by first | decide | omega) (by first | decide | omega) j3830 f3835
            have q3842 : ¬ (v3838 = 2147483648) := q3842
            refine x_aload (np := 99) (x := 0) (by decide +kernel) rfl (x_nc_le (by decide)) ?_
            refine x_nI (t := 8) (mj := 278) (n := 1) (rc := 13) (ml := 1) (nr := 0) (np := 102) (as := [x_r 63]) (rest := []) (lo1 := [x_r 63]) (by decide +kernel) (by decide) (by decide +kernel) (x_rb_of (by decide +kernel)) rfl rfl (x_wr (by decide) x_wn) x_wn (by decide) rfl ?_
            refine x_aload (np := 1) (x := 0) (by decide +kernel) rfl (x_nc_le (by decide)) ?_
            have b3843 := jB (e := 9) 0 j3830 rg_63_9_0_1 (by first | decide | omega) (by first | decide | omega)
            refine x_getC (np := 4) (x := 777) (f := 9) (q := (h3828 63 9)) (by decide +kernel) (by decide) (by decide +kernel) rfl (fun l3844 => ?_)
            refine x_ifz (k := 1) (tg := 21) (np := 7) (by decide +kernel) (by decide) l3844 (fun q3845 => ?_) (fun q3846 => ?_)
            · have q3845 : (h3828 63 9) ≠ 2147483648 := q3845
              refine x_const (np := 22) (x := 9223372043297226753) (a := 2147483649) (by decide +kernel) (by decide) (by decide) ?_
              refine x_goto (np := 25) (x := 26) (by decide +kernel) ?_
              refine x_retI (np := 27) (x := 0) (by decide +kernel) (by decide) (Or.inr ⟨by decide +kernel, by first | decide | omega, by first | decide | omega⟩) ⟨_, rfl, (by decide), ?_⟩
              refine x_ifz (k := 1) (tg := 139) (np := 105) (by decide +kernel) (by decide) (by decide) (fun q3847 => ?_) (fun q3848 => ?_)
              · have q3847 : 2147483649 ≠ 2147483648 := q3847
                refine x_iinc (np := 142) (i := 8) (j := 2147483649) (v := (1 + v3720)) (lo' := [x_r 63, iv_c 2147483651, iv_c a2, iv_c a3, iv_c a4, iv_c a5, iv_c v20, iv_c v24, iv_c (1 + v3720), iv_c v3826]) (by decide +kernel) (by decide) (by decide) rfl (by first | decide | omega) (by first | decide | omega) (by first | decide | omega) rfl ?_
                refine x_goto (np := 145) (x := 50) (by decide +kernel) ?_
                exact i3728 (1 + v3720) (iv_c v3826) h3828 (by first | decide | omega) (by first | decide | omega) j3830 f3835
              have q3848 : ¬ (2147483649 ≠ 2147483648) := q3848
              exfalso; omega
            have q3846 : ¬ ((h3828 63 9) ≠ 2147483648) := q3846
            refine x_aload (np := 8) (x := 0) (by decide +kernel) rfl (x_nc_le (by decide)) ?_
            refine x_getC (np := 11) (x := 776) (f := 8) (q := (h3828 63 8)) (by decide +kernel) (by decide) (by decide +kernel) rfl (fun l3849 => ?_)
            refine x_ifz (k := 5) (tg := 25) (np := 14) (by decide +kernel) (by decide) l3849 (fun q3850 => ?_) (fun q3851 => ?_)
            · have q3850 : (h3828 63 8) ≤ 2147483648 := q3850
              refine x_const (np := 26) (x := 9223372039002259456) (a := 2147483648) (by decide +kernel) (by decide) (by decide) ?_
              refine x_retI (np := 27) (x := 0) (by decide +kernel) (by decide) (Or.inr ⟨by decide +kernel, by first | decide | omega, by first | decide | omega⟩) ⟨_, rfl, (by decide), ?_⟩
              refine x_ifz (k := 1) (tg := 139) (np := 105) (by decide +kernel) (by decide) (by decide) (fun q3852 => ?_) (fun q3853 => ?_)
              · have q3852 : 2147483648 ≠ 2147483648 := q3852
                exfalso; omega
              have q3853 : ¬ (2147483648 ≠ 2147483648) := q3853
              refine x_iload (np := 107) (x := 9) (by decide +kernel) rfl (by first | decide | omega) ?_
              refine x_iload (np := 109) (x := 4) (by decide +kernel) rfl la4 ?_
              refine x_icmp (k := 2) (tg := 133) (np := 112) (by decide +kernel) (by decide) (by first | decide | omega) la4 (fun q3854 => ?_) (fun q3855 => ?_)
              · have q3854 : v3826 < a4 := q3854
                refine x_iinc (np := 136) (i := 9) (j := 2147483649) (v := (1 + v3826)) (lo' := [x_r 63, iv_c 2147483651, iv_c a2, iv_c a3, iv_c a4, iv_c a5, iv_c v20, iv_c v24, iv_c v3720, iv_c (1 + v3826)]) (by decide +kernel) (by decide) (by decide) rfl (by first | decide | omega) (by first | decide | omega) (by first | decide | omega) rfl ?_
                refine x_goto (np := 139) (x := 81) (by decide +kernel) ?_
                exact i3833 (1 + v3826) h3828 (by first | decide | omega) (by first | decide | omega) j3830 f3829
              have q3855 : ¬ (v3826 < a4) := q3855
              refine x_iload (np := 114) (x := 7) (by decide +kernel) rfl l25 ?_
              refine x_iload (np := 116) (x := 9) (by decide +kernel) rfl (by first | decide | omega) ?_
              refine x_cP (t := 7) (mj := 148) (n := 2) (rc := 0) (ml := 2) (nr := 0) (np := 119) (as := [iv_c v24, iv_c v3826]) (rest := []) (lo1 := [iv_c v24, iv_c v3826]) (by decide +kernel) (by decide) (by decide +kernel) (Or.inl rfl) rfl rfl (x_wi l25 (x_wi (by first | decide | omega) x_wn)) x_wn (by decide) rfl (c148 j3830 (by first | decide | omega) (by first | decide | omega)) (fun v3856 l3857 q3858 => ?_)
              refine x_ifz (k := 0) (tg := 133) (np := 122) (by decide +kernel) (by decide) l3857 (fun q3859 => ?_) (fun q3860 => ?_)
              · have q3859 : v3856 = 2147483648 := q3859
                refine x_iinc (np := 136) (i := 9) (j := 2147483649) (v := (1 + v3826)) (lo' := [x_r 63, iv_c 2147483651, iv_c a2, iv_c a3, iv_c a4, iv_c a5, iv_c v20, iv_c v24, iv_c v3720, iv_c (1 + v3826)]) (by decide +kernel) (by decide) (by decide) rfl (by first | decide | omega) (by first | decide | omega) (by first | decide | omega) rfl ?_
                refine x_goto (np := 139) (x := 81) (by decide +kernel) ?_
                exact i3833 (1 + v3826) h3828 (by first | decide | omega) (by first | decide | omega) j3830 f3829
              have q3860 : ¬ (v3856 = 2147483648) := q3860
              refine x_aload (np := 123) (x := 0) (by decide +kernel) rfl (x_nc_le (by decide)) ?_
              refine x_iload (np := 124) (x := 1) (by decide +kernel) rfl (by decide) ?_
              refine x_iload (np := 125) (x := 2) (by decide +kernel) rfl la2 ?_
              refine x_iload (np := 126) (x := 3) (by decide +kernel) rfl la3 ?_
              refine x_iload (np := 128) (x := 8) (by decide +kernel) rfl (by first | decide | omega) ?_
              refine x_iload (np := 130) (x := 9) (by decide +kernel) rfl (by first | decide | omega) ?_
              refine x_cV (t := 8) (mj := 277) (n := 6) (rc := 13) (ml := 7) (nr := 0) (np := 133) (as := [x_r 63, iv_c 2147483651, iv_c a2, iv_c a3, iv_c v3720, iv_c v3826]) (rest := []) (lo1 := [x_r 63, iv_c 2147483651, iv_c a2, iv_c a3, iv_c v3720, iv_c v3826, 147573952589676412928]) (by decide +kernel) (by decide) (by decide +kernel) (x_rb_of (by decide +kernel)) rfl rfl (x_wr (by decide) (x_wi (by decide) (x_wi la2 (x_wi la3 (x_wi (by first | decide | omega) (x_wi (by first | decide | omega) x_wn)))))) x_wn (by decide) rfl (c277_63_c3 j3830   (by first | decide | omega) (by first | decide | omega) (by first | decide | omega) (by first | decide | omega)) (fun h3864 q3863 => ?_)
              obtain ⟨j3865, f3866⟩ := q3863
              have f3869 := Fr.trans f3834 f3866 (by decide)
              have f3870 := Fr.trans f3835 f3866 (by decide)
              have f3871 := Fr.trans f3829 f3866 (by decide)
              refine x_iinc (np := 136) (i := 9) (j := 2147483649) (v := (1 + v3826)) (lo' := [x_r 63, iv_c 2147483651, iv_c a2, iv_c a3, iv_c a4, iv_c a5, iv_c v20, iv_c v24, iv_c v3720, iv_c (1 + v3826)]) (by decide +kernel) (by decide) (by decide) rfl (by first | decide | omega) (by first | decide | omega) (by first | decide | omega) rfl ?_
              refine x_goto (np := 139) (x := 81) (by decide +kernel) ?_
              exact i3833 (1 + v3826) h3864 (by first | decide | omega) (by first | decide | omega) j3865 f3871
            have q3851 : ¬ ((h3828 63 8) ≤ 2147483648) := q3851
            refine x_aload (np := 15) (x := 0) (by decide +kernel) rfl (x_nc_le (by decide)) ?_
            refine x_vI (P := fun r9 h9 => X sc 278 _ _ 0 0 18 [x_r 63] (iv_c r9 :: []) h9) (np := 18) (x := 5246977) (kk := 1) (cls := 4) (mj := 54) (ml := 1) (nr := 0) (rest := []) (lo1 := [x_r 63]) (by decide +kernel) (by decide) (by decide) (by decide) (by decide +kernel) (by decide +kernel) (by decide) (by decide +kernel) (by decide +kernel) x_wn (by decide) rfl ?_ (fun _ _ _ z => z)
            refine x_const (np := 1) (x := 9223372043297226753) (a := 2147483649) (by decide +kernel) (by decide) (by decide) ?_
            refine x_retI (np := 2) (x := 0) (by decide +kernel) (by decide) (Or.inr ⟨by decide +kernel, by first | decide | omega, by first | decide | omega⟩) ⟨_, rfl, (by decide), ?_⟩
            refine x_ifz (k := 0) (tg := 25) (np := 21) (by decide +kernel) (by decide) (by decide) (fun q3872 => ?_) (fun q3873 => ?_)
            · have q3872 : 2147483649 = 2147483648 := q3872
              exfalso; omega
            have q3873 : ¬ (2147483649 = 2147483648) := q3873
            refine x_const (np := 22) (x := 9223372043297226753) (a := 2147483649) (by decide +kernel) (by decide) (by decide) ?_
            refine x_goto (np := 25) (x := 26) (by decide +kernel) ?_
            refine x_retI (np := 27) (x := 0) (by decide +kernel) (by decide) (Or.inr ⟨by decide +kernel, by first | decide | omega, by first | decide | omega⟩) ⟨_, rfl, (by decide), ?_⟩
            refine x_ifz (k := 1) (tg := 139) (np := 105) (by decide +kernel) (by decide) (by decide) (fun q3874 => ?_) (fun q3875 => ?_)
            · have q3874 : 2147483649 ≠ 2147483648 := q3874
              refine x_iinc (np := 142) (i := 8) (j := 2147483649) (v := (1 + v3720)) (lo' := [x_r 63, iv_c 2147483651, iv_c a2, iv_c a3, iv_c a4, iv_c a5, iv_c v20, iv_c v24, iv_c (1 + v3720), iv_c v3826]) (by decide +kernel) (by decide) (by decide) rfl (by first | decide | omega) (by first | decide | omega) (by first | decide | omega) rfl ?_
              refine x_goto (np := 145) (x := 50) (by decide +kernel) ?_
              exact i3728 (1 + v3720) (iv_c v3826) h3828 (by first | decide | omega) (by first | decide | omega) j3830 f3835
            have q3875 : ¬ (2147483649 ≠ 2147483648) := q3875
            exfalso; omega
        exact p3831 _ v3720 h3723 (Nat.lt_succ_self _) (by first | decide | omega) j3725 (Fr.refl _ _)
      have q3738 : ¬ (v3734 ≠ 2147483648) := q3738
      refine x_goto (np := 77) (x := 139) (by decide +kernel) ?_
      refine x_iinc (np := 142) (i := 8) (j := 2147483649) (v := (1 + v3720)) (lo' := [x_r 63, iv_c 2147483651, iv_c a2, iv_c a3, iv_c a4, iv_c a5, iv_c v20, iv_c v24, iv_c (1 + v3720), w3722]) (by decide +kernel) (by decide) (by decide) rfl (by first | decide | omega) (by first | decide | omega) (by first | decide | omega) rfl ?_
      refine x_goto (np := 145) (x := 50) (by decide +kernel) ?_
      exact i3728 (1 + v3720) w3722 h3723 (by first | decide | omega) (by first | decide | omega) j3725 f3724
  exact p3726 _ 2147483648 147573952589676412928 h (Nat.lt_succ_self _) (by first | decide | omega) hJ (Fr.refl _ _)
set_option maxHeartbeats 0 in
/-- LentNames$Search.mend(I)V -/
theorem c275_63_c3 {sc : Nat × Nat} {d  : Nat} {h : xh} (hJ : J h) : X sc 275 (d + 10) (xV fun h' => J h' ∧ Fr 32769 h h') 0 0 0 [x_r 63, iv_c 2147483651, 147573952589676412928, 147573952589676412928, 147573952589676412928, 147573952589676412928, 147573952589676412928, 147573952589676412928] [] h := by
  have hF := Fr.refl 32769 h
  refine x_aload (np := 1) (x := 0) (by decide +kernel) rfl (x_nc_le (by decide)) ?_
  refine x_getC (np := 4) (x := 778) (f := 10) (q := (h 63 10)) (by decide +kernel) (by decide) (by decide +kernel) rfl (fun l1 => ?_)
  refine x_istore (np := 5) (x := 2) (lo' := [x_r 63, iv_c 2147483651, iv_c (h 63 10), 147573952589676412928, 147573952589676412928, 147573952589676412928, 147573952589676412928, 147573952589676412928]) (by decide +kernel) l1 (Nat.le_of_ble_eq_true rfl) rfl ?_
  refine x_aload (np := 6) (x := 0) (by decide +kernel) rfl (x_nc_le (by decide)) ?_
  refine x_getC (np := 9) (x := 779) (f := 11) (q := (h 63 11)) (by decide +kernel) (by decide) (by decide +kernel) rfl (fun l2 => ?_)
  refine x_istore (np := 10) (x := 3) (lo' := [x_r 63, iv_c 2147483651, iv_c (h 63 10), iv_c (h 63 11), 147573952589676412928, 147573952589676412928, 147573952589676412928, 147573952589676412928]) (by decide +kernel) l2 (Nat.le_of_ble_eq_true rfl) rfl ?_
  refine x_aload (np := 11) (x := 0) (by decide +kernel) rfl (x_nc_le (by decide)) ?_
  refine x_getC (np := 14) (x := 780) (f := 12) (q := (h 63 12)) (by decide +kernel) (by decide) (by decide +kernel) rfl (fun l3 => ?_)
  refine x_istore (np := 16) (x := 4) (lo' := [x_r 63, iv_c 2147483651, iv_c (h 63 10), iv_c (h 63 11), iv_c (h 63 12), 147573952589676412928, 147573952589676412928, 147573952589676412928]) (by decide +kernel) l3 (Nat.le_of_ble_eq_true rfl) rfl ?_
  refine x_aload (np := 17) (x := 0) (by decide +kernel) rfl (x_nc_le (by decide)) ?_
  refine x_getC (np := 20) (x := 781) (f := 13) (q := (h 63 13)) (by decide +kernel) (by decide) (by decide +kernel) rfl (fun l4 => ?_)
  refine x_istore (np := 22) (x := 5) (lo' := [x_r 63, iv_c 2147483651, iv_c (h 63 10), iv_c (h 63 11), iv_c (h 63 12), iv_c (h 63 13), 147573952589676412928, 147573952589676412928]) (by decide +kernel) l4 (Nat.le_of_ble_eq_true rfl) rfl ?_
  refine x_const (np := 23) (x := 9223372039002259456) (a := 2147483648) (by decide +kernel) (by decide) (by decide) ?_
  refine x_istore (np := 25) (x := 6) (lo' := [x_r 63, iv_c 2147483651, iv_c (h 63 10), iv_c (h 63 11), iv_c (h 63 12), iv_c (h 63 13), iv_c 2147483648, 147573952589676412928]) (by decide +kernel) (by decide) (Nat.le_of_ble_eq_true rfl) rfl ?_
  have p1452 : ∀ (n : Nat) (v1446 : Nat) (w1448 : Nat) (h1449 : xh), 4294967296 - v1446 < n → (2147483648 ≤ v1446 ∧ v1446 ≤ 2147483654) → J h1449 → Fr 32769 h h1449 → X sc 275 (d + 10) (xV fun h' => J h' ∧ Fr 32769 h h') 0 0 25 [x_r 63, iv_c 2147483651, iv_c (h 63 10), iv_c (h 63 11), iv_c (h 63 12), iv_c (h 63 13), iv_c v1446, w1448] [] h1449 := by
    intro n
    induction n with
    | zero => intro v1446 w1448 h1449 q1453; exact absurd q1453 (Nat.not_lt_zero _)
    | succ n i1454 =>
      intro v1446 w1448 h1449 q1453 b1447 j1451 f1450
      have f1455 := Fr.trans hF f1450 (by decide)
      refine x_iload (np := 27) (x := 6) (by decide +kernel) rfl (by first | decide | omega) ?_
      refine x_aload (np := 28) (x := 0) (by decide +kernel) rfl (x_nc_le (by decide)) ?_
      have t1456 : tw (h1449 63 6) := j1451.2.2.2.2.2.1
      refine x_getR (np := 31) (x := 774) (f := 6) (q := (h1449 63 6)) (by decide +kernel) (by decide) (by decide +kernel) rfl ?_
      have q1457 : h1449 (h1449 63 6) 7 = h (h1449 63 6) 7 := jK 0 f1450 (rg_T0_7_0_1 t1456) (by first | decide | omega) (by first | decide | omega) (by decide)
      have b1458 := jB (e := 7) 0 hJ (rg_T0_7_0_1 t1456) (by first | decide | omega) (by first | decide | omega)
      refine x_getC (np := 34) (x := 519) (f := 7) (q := (h (h1449 63 6) 7)) (by decide +kernel) (by decide) (tg_0_519_7_0 t1456) q1457 (fun l1459 => ?_)
      refine x_icmp (k := 3) (tg := 95) (np := 37) (by decide +kernel) (by decide) (by first | decide | omega) l1459 (fun q1460 => ?_) (fun q1461 => ?_)
      · have q1460 : (h (h1449 63 6) 7) ≤ v1446 := q1460
        refine x_retV (np := 96) (x := 0) (by decide +kernel) (by decide +kernel) ⟨rfl, ?_⟩
        exact ⟨j1451, f1455⟩
      have q1461 : ¬ ((h (h1449 63 6) 7) ≤ v1446) := q1461
      refine x_const (np := 38) (x := 9223372039002259456) (a := 2147483648) (by decide +kernel) (by decide) (by decide) ?_
      refine x_istore (np := 40) (x := 7) (lo' := [x_r 63, iv_c 2147483651, iv_c (h 63 10), iv_c (h 63 11), iv_c (h 63 12), iv_c (h 63 13), iv_c v1446, iv_c 2147483648]) (by decide +kernel) (by decide) (Nat.le_of_ble_eq_true rfl) rfl ?_
      have p1659 : ∀ (n : Nat) (v1654 : Nat) (h1656 : xh), 4294967296 - v1654 < n → (2147483648 ≤ v1654 ∧ v1654 ≤ 2147483654) → J h1656 → Fr 32769 h1449 h1656 → X sc 275 (d + 10) (xV fun h' => J h' ∧ Fr 32769 h h') 0 0 40 [x_r 63, iv_c 2147483651, iv_c (h 63 10), iv_c (h 63 11), iv_c (h 63 12), iv_c (h 63 13), iv_c v1446, iv_c v1654] [] h1656 := by
        intro n
        induction n with
        | zero => intro v1654 h1656 q1660; exact absurd q1660 (Nat.not_lt_zero _)
        | succ n i1661 =>
          intro v1654 h1656 q1660 b1655 j1658 f1657
          have f1662 := Fr.trans f1455 f1657 (by decide)
          have f1663 := Fr.trans f1450 f1657 (by decide)
          refine x_iload (np := 42) (x := 7) (by decide +kernel) rfl (by first | decide | omega) ?_
          refine x_aload (np := 43) (x := 0) (by decide +kernel) rfl (x_nc_le (by decide)) ?_
          have t1664 : tw (h1656 63 6) := j1658.2.2.2.2.2.1
          refine x_getR (np := 46) (x := 774) (f := 6) (q := (h1656 63 6)) (by decide +kernel) (by decide) (by decide +kernel) rfl ?_
          have q1665 : h1656 (h1656 63 6) 7 = h1449 (h1656 63 6) 7 := jK 0 f1657 (rg_T0_7_0_1 t1664) (by first | decide | omega) (by first | decide | omega) (by decide)
          have q1666 : h1449 (h1656 63 6) 7 = h (h1656 63 6) 7 := jK 0 f1450 (rg_T0_7_0_1 t1664) (by first | decide | omega) (by first | decide | omega) (by decide)
          have b1667 := jB (e := 7) 0 hJ (rg_T0_7_0_1 t1664) (by first | decide | omega) (by first | decide | omega)
          refine x_getC (np := 49) (x := 519) (f := 7) (q := (h (h1656 63 6) 7)) (by decide +kernel) (by decide) (tg_0_519_7_0 t1664) (q1665.trans q1666) (fun l1668 => ?_)
          refine x_icmp (k := 3) (tg := 89) (np := 52) (by decide +kernel) (by decide) (by first | decide | omega) l1668 (fun q1669 => ?_) (fun q1670 => ?_)
          · have q1669 : (h (h1656 63 6) 7) ≤ v1654 := q1669
            refine x_iinc (np := 92) (i := 6) (j := 2147483649) (v := (1 + v1446)) (lo' := [x_r 63, iv_c 2147483651, iv_c (h 63 10), iv_c (h 63 11), iv_c (h 63 12), iv_c (h 63 13), iv_c (1 + v1446), iv_c v1654]) (by decide +kernel) (by decide) (by decide) rfl (by first | decide | omega) (by first | decide | omega) (by first | decide | omega) rfl ?_
            refine x_goto (np := 95) (x := 25) (by decide +kernel) ?_
            exact i1454 (1 + v1446) (iv_c v1654) h1656 (by first | decide | omega) (by first | decide | omega) j1658 f1663
          have q1670 : ¬ ((h (h1656 63 6) 7) ≤ v1654) := q1670
          refine x_iload (np := 53) (x := 2) (by decide +kernel) rfl l1 ?_
          refine x_iload (np := 55) (x := 6) (by decide +kernel) rfl (by first | decide | omega) ?_
          refine x_cP (t := 7) (mj := 148) (n := 2) (rc := 0) (ml := 2) (nr := 0) (np := 58) (as := [iv_c (h 63 10), iv_c v1446]) (rest := []) (lo1 := [iv_c (h 63 10), iv_c v1446]) (by decide +kernel) (by decide) (by decide +kernel) (Or.inl rfl) rfl rfl (x_wi l1 (x_wi (by first | decide | omega) x_wn)) x_wn (by decide) rfl (c148 j1658 (by first | decide | omega) (by first | decide | omega)) (fun v1671 l1672 q1673 => ?_)
          refine x_ifz (k := 0) (tg := 83) (np := 61) (by decide +kernel) (by decide) l1672 (fun q1674 => ?_) (fun q1675 => ?_)
          · have q1674 : v1671 = 2147483648 := q1674
            refine x_iinc (np := 86) (i := 7) (j := 2147483649) (v := (1 + v1654)) (lo' := [x_r 63, iv_c 2147483651, iv_c (h 63 10), iv_c (h 63 11), iv_c (h 63 12), iv_c (h 63 13), iv_c v1446, iv_c (1 + v1654)]) (by decide +kernel) (by decide) (by decide) rfl (by first | decide | omega) (by first | decide | omega) (by first | decide | omega) rfl ?_
            refine x_goto (np := 89) (x := 40) (by decide +kernel) ?_
            exact i1661 (1 + v1654) h1656 (by first | decide | omega) (by first | decide | omega) j1658 f1657
          have q1675 : ¬ (v1671 = 2147483648) := q1675
          refine x_iload (np := 62) (x := 3) (by decide +kernel) rfl l2 ?_
          refine x_iload (np := 64) (x := 7) (by decide +kernel) rfl (by first | decide | omega) ?_
          refine x_cP (t := 7) (mj := 148) (n := 2) (rc := 0) (ml := 2) (nr := 0) (np := 67) (as := [iv_c (h 63 11), iv_c v1654]) (rest := []) (lo1 := [iv_c (h 63 11), iv_c v1654]) (by decide +kernel) (by decide) (by decide +kernel) (Or.inl rfl) rfl rfl (x_wi l2 (x_wi (by first | decide | omega) x_wn)) x_wn (by decide) rfl (c148 j1658 (by first | decide | omega) (by first | decide | omega)) (fun v1676 l1677 q1678 => ?_)
          refine x_ifz (k := 0) (tg := 83) (np := 70) (by decide +kernel) (by decide) l1677 (fun q1679 => ?_) (fun q1680 => ?_)
          · have q1679 : v1676 = 2147483648 := q1679
            refine x_iinc (np := 86) (i := 7) (j := 2147483649) (v := (1 + v1654)) (lo' := [x_r 63, iv_c 2147483651, iv_c (h 63 10), iv_c (h 63 11), iv_c (h 63 12), iv_c (h 63 13), iv_c v1446, iv_c (1 + v1654)]) (by decide +kernel) (by decide) (by decide) rfl (by first | decide | omega) (by first | decide | omega) (by first | decide | omega) rfl ?_
            refine x_goto (np := 89) (x := 40) (by decide +kernel) ?_
            exact i1661 (1 + v1654) h1656 (by first | decide | omega) (by first | decide | omega) j1658 f1657
          have q1680 : ¬ (v1676 = 2147483648) := q1680
          refine x_aload (np := 71) (x := 0) (by decide +kernel) rfl (x_nc_le (by decide)) ?_
          refine x_iload (np := 72) (x := 1) (by decide +kernel) rfl (by decide) ?_
          refine x_iload (np := 74) (x := 6) (by decide +kernel) rfl (by first | decide | omega) ?_
          refine x_iload (np := 76) (x := 7) (by decide +kernel) rfl (by first | decide | omega) ?_
          refine x_iload (np := 78) (x := 4) (by decide +kernel) rfl l3 ?_
          refine x_iload (np := 80) (x := 5) (by decide +kernel) rfl l4 ?_
          refine x_cV (t := 8) (mj := 276) (n := 6) (rc := 13) (ml := 10) (nr := 0) (np := 83) (as := [x_r 63, iv_c 2147483651, iv_c v1446, iv_c v1654, iv_c (h 63 12), iv_c (h 63 13)]) (rest := []) (lo1 := [x_r 63, iv_c 2147483651, iv_c v1446, iv_c v1654, iv_c (h 63 12), iv_c (h 63 13), 147573952589676412928, 147573952589676412928, 147573952589676412928, 147573952589676412928]) (by decide +kernel) (by decide) (by decide +kernel) (x_rb_of (by decide +kernel)) rfl rfl (x_wr (by decide) (x_wi (by decide) (x_wi (by first | decide | omega) (x_wi (by first | decide | omega) (x_wi l3 (x_wi l4 x_wn)))))) x_wn (by decide) rfl (c276_63_c3 j1658   (by first | decide | omega) (by first | decide | omega) (by first | decide | omega) (by first | decide | omega)) (fun h1684 q1683 => ?_)
          obtain ⟨j1685, f1686⟩ := q1683
          have f1689 := Fr.trans f1662 f1686 (by decide)
          have f1690 := Fr.trans f1663 f1686 (by decide)
          have f1691 := Fr.trans f1657 f1686 (by decide)
          refine x_iinc (np := 86) (i := 7) (j := 2147483649) (v := (1 + v1654)) (lo' := [x_r 63, iv_c 2147483651, iv_c (h 63 10), iv_c (h 63 11), iv_c (h 63 12), iv_c (h 63 13), iv_c v1446, iv_c (1 + v1654)]) (by decide +kernel) (by decide) (by decide) rfl (by first | decide | omega) (by first | decide | omega) (by first | decide | omega) rfl ?_
          refine x_goto (np := 89) (x := 40) (by decide +kernel) ?_
          exact i1661 (1 + v1654) h1684 (by first | decide | omega) (by first | decide | omega) j1685 f1691
      exact p1659 _ 2147483648 h1449 (Nat.lt_succ_self _) (by first | decide | omega) j1451 (Fr.refl _ _)
  exact p1452 _ 2147483648 147573952589676412928 h (Nat.lt_succ_self _) (by first | decide | omega) hJ (Fr.refl _ _)
set_option maxHeartbeats 0 in
/-- LentNames$Search.keepSet(I)V -/
theorem c279_63_c3 {sc : Nat × Nat} {d  : Nat} {h : xh} (hJ : J h) : X sc 279 d (xV fun h' => J h' ∧ Fr 32769 h h') 0 0 0 [x_r 63, iv_c 2147483651, 147573952589676412928, 147573952589676412928] [] h := by
  have hF := Fr.refl 32769 h
  refine x_aload (np := 1) (x := 0) (by decide +kernel) rfl (x_nc_le (by decide)) ?_
  refine x_dup (np := 2) (x := 0) (by decide +kernel) (by have z := x_nc_le (k := 63) (by decide); unfold x_r; omega) ?_
  refine x_getC (np := 5) (x := 776) (f := 8) (q := (h 63 8)) (by decide +kernel) (by decide) (by decide +kernel) rfl (fun l1 => ?_)
  refine x_const (np := 6) (x := 9223372043297226753) (a := 2147483649) (by decide +kernel) (by decide) (by decide) ?_
  refine x_addA (by rw [tb_b279]; decide +kernel) l1 (by decide) (fun v2 l3 => ?_)
  refine x_putI (np := 10) (x := 776) (f := 8) (by decide +kernel) (by decide +kernel) l3 (Or.inl (by decide)) ?_
  have j5 := jU (e := 8) (v := v2) 0 hJ rg_63_8_0_1 (by first | decide | omega) (by first | decide | omega) (by first | decide | omega)
  have f7 := jF (e := 8) (v := v2) 0 hF rg_63_8_0_1 (by first | decide | omega) (by first | decide | omega) (by decide)
  generalize e6 : x_up h 63 8 v2 = h4 at j5 f7 ⊢
  refine x_aload (np := 11) (x := 0) (by decide +kernel) rfl (x_nc_le (by decide)) ?_
  have q8 : h4 63 8 = v2 := by rw [← e6]; exact x_up_at
  refine x_getC (np := 14) (x := 776) (f := 8) (q := v2) (by decide +kernel) (by decide) (by decide +kernel) q8 (fun l9 => ?_)
  refine x_const (np := 15) (x := 9223372043297226753) (a := 2147483649) (by decide +kernel) (by decide) (by decide) ?_
  refine x_icmp (k := 5) (tg := 19) (np := 18) (by decide +kernel) (by decide) l3 (by decide) (fun q10 => ?_) (fun q11 => ?_)
  · have q10 : v2 ≤ 2147483649 := q10
    refine x_aload (np := 20) (x := 0) (by decide +kernel) rfl (x_nc_le (by decide)) ?_
    refine x_iload (np := 21) (x := 1) (by decide +kernel) rfl (by decide) ?_
    refine x_putI (np := 24) (x := 783) (f := 15) (by decide +kernel) (by decide +kernel) (by decide) (Or.inl (by decide)) ?_
    have j13 := jU (e := 15) (v := 2147483651) 0 j5 rg_63_15_0_1 (by first | decide | omega) (by first | decide | omega) (by first | decide | omega)
    have f15 := jF (e := 15) (v := 2147483651) 0 f7 rg_63_15_0_1 (by first | decide | omega) (by first | decide | omega) (by decide)
    generalize e14 : x_up h4 63 15 2147483651 = h12 at j13 f15 ⊢
    refine x_const (np := 25) (x := 9223372039002259456) (a := 2147483648) (by decide +kernel) (by decide) (by decide) ?_
    refine x_istore (np := 26) (x := 2) (lo' := [x_r 63, iv_c 2147483651, iv_c 2147483648, 147573952589676412928]) (by decide +kernel) (by decide) (Nat.le_of_ble_eq_true rfl) rfl ?_
    have p622 : ∀ (n : Nat) (v616 : Nat) (w618 : Nat) (h619 : xh), 4294967296 - v616 < n → (2147483648 ≤ v616 ∧ v616 ≤ 2147483653) → J h619 → Fr 32768 h12 h619 → X sc 279 d (xV fun h' => J h' ∧ Fr 32769 h h') 0 0 26 [x_r 63, iv_c 2147483651, iv_c v616, w618] [] h619 := by
      intro n
      induction n with
      | zero => intro v616 w618 h619 q623; exact absurd q623 (Nat.not_lt_zero _)
      | succ n i624 =>
        intro v616 w618 h619 q623 b617 j621 f620
        have f625 := Fr.trans f15 f620 (by decide)
        refine x_iload (np := 27) (x := 2) (by decide +kernel) rfl (by first | decide | omega) ?_
        refine x_aload (np := 28) (x := 0) (by decide +kernel) rfl (x_nc_le (by decide)) ?_
        have b626 := jB (e := 15) 0 j621 rg_63_15_0_1 (by first | decide | omega) (by first | decide | omega)
        refine x_getC (np := 31) (x := 783) (f := 15) (q := (h619 63 15)) (by decide +kernel) (by decide) (by decide +kernel) rfl (fun l627 => ?_)
        refine x_icmp (k := 3) (tg := 95) (np := 34) (by decide +kernel) (by decide) (by first | decide | omega) l627 (fun q628 => ?_) (fun q629 => ?_)
        · have q628 : (h619 63 15) ≤ v616 := q628
          refine x_retV (np := 96) (x := 0) (by decide +kernel) (by decide +kernel) ⟨rfl, ?_⟩
          exact ⟨j621, f625⟩
        have q629 : ¬ ((h619 63 15) ≤ v616) := q629
        refine x_iload (np := 35) (x := 2) (by decide +kernel) rfl (by first | decide | omega) ?_
        refine x_istore (np := 36) (x := 3) (lo' := [x_r 63, iv_c 2147483651, iv_c v616, iv_c v616]) (by decide +kernel) (by first | decide | omega) (Nat.le_of_ble_eq_true rfl) rfl ?_
        have p704 : ∀ (n : Nat) (v699 : Nat) (h701 : xh), v699 < n → (2147483648 ≤ v699 ∧ v699 ≤ 2147483652) → J h701 → Fr 32768 h619 h701 → X sc 279 d (xV fun h' => J h' ∧ Fr 32769 h h') 0 0 36 [x_r 63, iv_c 2147483651, iv_c v616, iv_c v699] [] h701 := by
          intro n
          induction n with
          | zero => intro v699 h701 q705; exact absurd q705 (Nat.not_lt_zero _)
          | succ n i706 =>
            intro v699 h701 q705 b700 j703 f702
            have f707 := Fr.trans f625 f702 (by decide)
            have f708 := Fr.trans f620 f702 (by decide)
            refine x_iload (np := 37) (x := 3) (by decide +kernel) rfl (by first | decide | omega) ?_
            refine x_ifz (k := 5) (tg := 77) (np := 40) (by decide +kernel) (by decide) (by first | decide | omega) (fun q709 => ?_) (fun q710 => ?_)
            · have q709 : v699 ≤ 2147483648 := q709
              refine x_aload (np := 78) (x := 0) (by decide +kernel) rfl (x_nc_le (by decide)) ?_
              have q711 : h701 63 4 = 68 := by have z := jB (e := 4) 0 j703 rg_63_4_0_1 (by decide) (by decide); omega
              refine x_getR (np := 81) (x := 772) (f := 4) (q := 68) (by decide +kernel) (by decide) (by decide +kernel) q711 ?_
              refine x_iload (np := 82) (x := 3) (by decide +kernel) rfl (by first | decide | omega) ?_
              refine x_aload (np := 83) (x := 0) (by decide +kernel) rfl (x_nc_le (by decide)) ?_
              have q712 : h701 63 3 = 67 := by have z := jB (e := 3) 0 j703 rg_63_3_0_1 (by decide) (by decide); omega
              refine x_getR (np := 86) (x := 771) (f := 3) (q := 67) (by decide +kernel) (by decide) (by decide +kernel) q712 ?_
              refine x_iload (np := 87) (x := 2) (by decide +kernel) rfl (by first | decide | omega) ?_
              obtain ⟨u713, q714⟩ : ∃ z, v616 = 2147483648 + z := ⟨v616 - 2147483648, by first | decide | omega⟩
              refine x_aldC (np := 88) (x := 0) (n := 5) (i := u713) (q := (h701 67 u713)) (by decide +kernel) (by decide +kernel) (by first | decide | omega) (by first | decide | omega) (by decide) rfl (fun l715 => ?_)
              obtain ⟨u716, q717⟩ : ∃ z, v699 = 2147483648 + z := ⟨v699 - 2147483648, by first | decide | omega⟩
              refine x_ast (np := 89) (x := 0) (kd := 1) (n := 5) (i := u716) (by decide +kernel) (Or.inl rfl) (by decide +kernel) (by first | decide | omega) (by first | decide | omega) (by decide) l715 (fun z => absurd z (by decide)) ?_
              have j719 := jU (e := u716) (v := (h701 67 u713)) u716 j703 rg_68_0_1_5 (by first | decide | omega) (by first | decide | omega) (by first | decide | omega)
              have f721 := jF (e := u716) (v := (h701 67 u713)) u716 f707 rg_68_0_1_5 (by first | decide | omega) (by first | decide | omega) (by decide)
              have f722 := jF (e := u716) (v := (h701 67 u713)) u716 f708 rg_68_0_1_5 (by first | decide | omega) (by first | decide | omega) (by decide)
              generalize e720 : x_up h701 68 u716 (h701 67 u713) = h718 at j719 f721 f722 ⊢
              refine x_iinc (np := 92) (i := 2) (j := 2147483649) (v := (1 + v616)) (lo' := [x_r 63, iv_c 2147483651, iv_c (1 + v616), iv_c v699]) (by decide +kernel) (by decide) (by decide) rfl (by first | decide | omega) (by first | decide | omega) (by first | decide | omega) rfl ?_
              refine x_goto (np := 95) (x := 26) (by decide +kernel) ?_
              exact i624 (1 + v616) (iv_c v699) h718 (by first | decide | omega) (by first | decide | omega) j719 f722
            have q710 : ¬ (v699 ≤ 2147483648) := q710
            refine x_aload (np := 41) (x := 0) (by decide +kernel) rfl (x_nc_le (by decide)) ?_
            have q723 : h701 63 4 = 68 := by have z := jB (e := 4) 0 j703 rg_63_4_0_1 (by decide) (by decide); omega
            refine x_getR (np := 44) (x := 772) (f := 4) (q := 68) (by decide +kernel) (by decide) (by decide +kernel) q723 ?_
            refine x_iload (np := 45) (x := 3) (by decide +kernel) rfl (by first | decide | omega) ?_
            refine x_const (np := 46) (x := 9223372043297226753) (a := 2147483649) (by decide +kernel) (by decide) (by decide) ?_
            obtain ⟨v724, q725⟩ : ∃ z, z + 2147483649 = v699 + 2147483648 := ⟨v699 + 2147483648 - 2147483649, by first | decide | omega⟩
            refine x_isub (np := 47) (x := 0) (v := v724) (by decide +kernel) (by first | decide | omega) (by decide) (by first | decide | omega) (by first | decide | omega) ?_
            obtain ⟨u726, q727⟩ : ∃ z, v724 = 2147483648 + z := ⟨v724 - 2147483648, by first | decide | omega⟩
            refine x_aldC (np := 48) (x := 0) (n := 5) (i := u726) (q := (h701 68 u726)) (by decide +kernel) (by decide +kernel) (by first | decide | omega) (by first | decide | omega) (by decide) rfl (fun l728 => ?_)
            refine x_aload (np := 49) (x := 0) (by decide +kernel) rfl (x_nc_le (by decide)) ?_
            have q729 : h701 63 3 = 67 := by have z := jB (e := 3) 0 j703 rg_63_3_0_1 (by decide) (by decide); omega
            refine x_getR (np := 52) (x := 771) (f := 3) (q := 67) (by decide +kernel) (by decide) (by decide +kernel) q729 ?_
            refine x_iload (np := 53) (x := 2) (by decide +kernel) rfl (by first | decide | omega) ?_
            obtain ⟨u730, q731⟩ : ∃ z, v616 = 2147483648 + z := ⟨v616 - 2147483648, by first | decide | omega⟩
            refine x_aldC (np := 54) (x := 0) (n := 5) (i := u730) (q := (h701 67 u730)) (by decide +kernel) (by decide +kernel) (by first | decide | omega) (by first | decide | omega) (by decide) rfl (fun l732 => ?_)
            refine x_icmp (k := 5) (tg := 77) (np := 57) (by decide +kernel) (by decide) l728 l732 (fun q733 => ?_) (fun q734 => ?_)
            · have q733 : (h701 68 u726) ≤ (h701 67 u730) := q733
              refine x_aload (np := 78) (x := 0) (by decide +kernel) rfl (x_nc_le (by decide)) ?_
              have q735 : h701 63 4 = 68 := by have z := jB (e := 4) 0 j703 rg_63_4_0_1 (by decide) (by decide); omega
              refine x_getR (np := 81) (x := 772) (f := 4) (q := 68) (by decide +kernel) (by decide) (by decide +kernel) q735 ?_
              refine x_iload (np := 82) (x := 3) (by decide +kernel) rfl (by first | decide | omega) ?_
              refine x_aload (np := 83) (x := 0) (by decide +kernel) rfl (x_nc_le (by decide)) ?_
              have q736 : h701 63 3 = 67 := by have z := jB (e := 3) 0 j703 rg_63_3_0_1 (by decide) (by decide); omega
              refine x_getR (np := 86) (x := 771) (f := 3) (q := 67) (by decide +kernel) (by decide) (by decide +kernel) q736 ?_
              refine x_iload (np := 87) (x := 2) (by decide +kernel) rfl (by first | decide | omega) ?_
              refine x_aldC (np := 88) (x := 0) (n := 5) (i := u730) (q := (h701 67 u730)) (by decide +kernel) (by decide +kernel) (by first | decide | omega) (by first | decide | omega) (by decide) rfl (fun l737 => ?_)
              obtain ⟨u738, q739⟩ : ∃ z, v699 = 2147483648 + z := ⟨v699 - 2147483648, by first | decide | omega⟩
              refine x_ast (np := 89) (x := 0) (kd := 1) (n := 5) (i := u738) (by decide +kernel) (Or.inl rfl) (by decide +kernel) (by first | decide | omega) (by first | decide | omega) (by decide) l732 (fun z => absurd z (by decide)) ?_
              have j741 := jU (e := u738) (v := (h701 67 u730)) u738 j703 rg_68_0_1_5 (by first | decide | omega) (by first | decide | omega) (by first | decide | omega)
              have f743 := jF (e := u738) (v := (h701 67 u730)) u738 f707 rg_68_0_1_5 (by first | decide | omega) (by first | decide | omega) (by decide)
              have f744 := jF (e := u738) (v := (h701 67 u730)) u738 f708 rg_68_0_1_5 (by first | decide | omega) (by first | decide | omega) (by decide)
              generalize e742 : x_up h701 68 u738 (h701 67 u730) = h740 at j741 f743 f744 ⊢
              refine x_iinc (np := 92) (i := 2) (j := 2147483649) (v := (1 + v616)) (lo' := [x_r 63, iv_c 2147483651, iv_c (1 + v616), iv_c v699]) (by decide +kernel) (by decide) (by decide) rfl (by first | decide | omega) (by first | decide | omega) (by first | decide | omega) rfl ?_
              refine x_goto (np := 95) (x := 26) (by decide +kernel) ?_
              exact i624 (1 + v616) (iv_c v699) h740 (by first | decide | omega) (by first | decide | omega) j741 f744
            have q734 : ¬ ((h701 68 u726) ≤ (h701 67 u730)) := q734
            refine x_aload (np := 58) (x := 0) (by decide +kernel) rfl (x_nc_le (by decide)) ?_
            have q745 : h701 63 4 = 68 := by have z := jB (e := 4) 0 j703 rg_63_4_0_1 (by decide) (by decide); omega
            refine x_getR (np := 61) (x := 772) (f := 4) (q := 68) (by decide +kernel) (by decide) (by decide +kernel) q745 ?_
            refine x_iload (np := 62) (x := 3) (by decide +kernel) rfl (by first | decide | omega) ?_
            refine x_aload (np := 63) (x := 0) (by decide +kernel) rfl (x_nc_le (by decide)) ?_
            have q746 : h701 63 4 = 68 := by have z := jB (e := 4) 0 j703 rg_63_4_0_1 (by decide) (by decide); omega
            refine x_getR (np := 66) (x := 772) (f := 4) (q := 68) (by decide +kernel) (by decide) (by decide +kernel) q746 ?_
            refine x_iload (np := 67) (x := 3) (by decide +kernel) rfl (by first | decide | omega) ?_
            refine x_const (np := 68) (x := 9223372043297226753) (a := 2147483649) (by decide +kernel) (by decide) (by decide) ?_
            obtain ⟨v747, q748⟩ : ∃ z, z + 2147483649 = v699 + 2147483648 := ⟨v699 + 2147483648 - 2147483649, by first | decide | omega⟩
            refine x_isub (np := 69) (x := 0) (v := v747) (by decide +kernel) (by first | decide | omega) (by decide) (by first | decide | omega) (by first | decide | omega) ?_
            obtain ⟨u749, q750⟩ : ∃ z, v747 = 2147483648 + z := ⟨v747 - 2147483648, by first | decide | omega⟩
            refine x_aldC (np := 70) (x := 0) (n := 5) (i := u749) (q := (h701 68 u749)) (by decide +kernel) (by decide +kernel) (by first | decide | omega) (by first | decide | omega) (by decide) rfl (fun l751 => ?_)
            obtain ⟨u752, q753⟩ : ∃ z, v699 = 2147483648 + z := ⟨v699 - 2147483648, by first | decide | omega⟩
            refine x_ast (np := 71) (x := 0) (kd := 1) (n := 5) (i := u752) (by decide +kernel) (Or.inl rfl) (by decide +kernel) (by first | decide | omega) (by first | decide | omega) (by decide) l751 (fun z => absurd z (by decide)) ?_
            have j755 := jU (e := u752) (v := (h701 68 u749)) u752 j703 rg_68_0_1_5 (by first | decide | omega) (by first | decide | omega) (by first | decide | omega)
            have f757 := jF (e := u752) (v := (h701 68 u749)) u752 f707 rg_68_0_1_5 (by first | decide | omega) (by first | decide | omega) (by decide)
            have f758 := jF (e := u752) (v := (h701 68 u749)) u752 f708 rg_68_0_1_5 (by first | decide | omega) (by first | decide | omega) (by decide)
            have f759 := jF (e := u752) (v := (h701 68 u749)) u752 f702 rg_68_0_1_5 (by first | decide | omega) (by first | decide | omega) (by decide)
            generalize e756 : x_up h701 68 u752 (h701 68 u749) = h754 at j755 f757 f758 f759 ⊢
            obtain ⟨v760, q761⟩ : ∃ z, z + 1 = v699 := ⟨v699 - 1, by first | decide | omega⟩
            refine x_iinc (np := 74) (i := 3) (j := 2147483647) (v := v760) (lo' := [x_r 63, iv_c 2147483651, iv_c v616, iv_c v760]) (by decide +kernel) (by decide) (by decide) rfl (by first | decide | omega) (by first | decide | omega) (by first | decide | omega) rfl ?_
            refine x_goto (np := 77) (x := 36) (by decide +kernel) ?_
            exact i706 v760 h754 (by first | decide | omega) (by first | decide | omega) j755 f759
        exact p704 _ v616 h619 (Nat.lt_succ_self _) (by first | decide | omega) j621 (Fr.refl _ _)
    exact p622 _ 2147483648 147573952589676412928 h12 (Nat.lt_succ_self _) (by first | decide | omega) j13 (Fr.refl _ _)
  have q11 : ¬ (v2 ≤ 2147483649) := q11
  refine x_retV (np := 19) (x := 0) (by decide +kernel) (by decide +kernel) ⟨rfl, ?_⟩
  exact ⟨j5, f7⟩
set_option maxHeartbeats 0 in
/-- LentNames$Search.come(I)V -/
theorem c274_63_c3 {sc : Nat × Nat} {d  : Nat} {h : xh} (hJ : J h) : X sc 274 (d + 11) (xV fun h' => J h' ∧ Fr 32769 h h') 0 0 0 [x_r 63, iv_c 2147483651] [] h := by
  have hF := Fr.refl 32769 h
  refine x_aload (np := 1) (x := 0) (by decide +kernel) rfl (x_nc_le (by decide)) ?_
  refine x_dup (np := 2) (x := 0) (by decide +kernel) (by have z := x_nc_le (k := 63) (by decide); unfold x_r; omega) ?_
  refine x_getC (np := 5) (x := 785) (f := 17) (q := (h 63 17)) (by decide +kernel) (by decide) (by decide +kernel) rfl (fun l1 => ?_)
  refine x_const (np := 6) (x := 9223372043297226753) (a := 2147483649) (by decide +kernel) (by decide) (by decide) ?_
  refine x_addA (by rw [tb_b274]; decide +kernel) l1 (by decide) (fun v2 l3 => ?_)
  refine x_putI (np := 10) (x := 785) (f := 17) (by decide +kernel) (by decide +kernel) l3 (Or.inl (by decide)) ?_
  have j5 := jU (e := 17) (v := v2) 0 hJ rg_63_17_0_1 (by first | decide | omega) (by first | decide | omega) (by first | decide | omega)
  have f7 := jF (e := 17) (v := v2) 0 hF rg_63_17_0_1 (by first | decide | omega) (by first | decide | omega) (by decide)
  generalize e6 : x_up h 63 17 v2 = h4 at j5 f7 ⊢
  refine x_aload (np := 11) (x := 0) (by decide +kernel) rfl (x_nc_le (by decide)) ?_
  have q8 : h4 63 17 = v2 := by rw [← e6]; exact x_up_at
  refine x_getC (np := 14) (x := 785) (f := 17) (q := v2) (by decide +kernel) (by decide) (by decide +kernel) q8 (fun l9 => ?_)
  refine x_const (np := 17) (x := 9223457938348199456) (a := 2147503648) (by decide +kernel) (by decide) (by decide) ?_
  refine x_icmp (k := 5) (tg := 28) (np := 20) (by decide +kernel) (by decide) l3 (by decide) (fun q10 => ?_) (fun q11 => ?_)
  · have q10 : v2 ≤ 2147503648 := q10
    refine x_aload (np := 29) (x := 0) (by decide +kernel) rfl (x_nc_le (by decide)) ?_
    refine x_vI (P := fun r9 h9 => X sc 274 _ _ 0 0 32 [x_r 63, iv_c 2147483651] (iv_c r9 :: []) h9) (np := 32) (x := 5246979) (kk := 3) (cls := 4) (mj := 56) (ml := 1) (nr := 0) (rest := []) (lo1 := [x_r 63]) (by decide +kernel) (by decide) (by decide) (by decide) (by decide +kernel) (by decide +kernel) (by decide) (by decide +kernel) (by decide +kernel) x_wn (by decide) rfl ?_ (fun _ _ _ z => z)
    refine x_aload (np := 1) (x := 0) (by decide +kernel) rfl (x_nc_le (by decide)) ?_
    refine x_cI (t := 6) (mj := 57) (n := 1) (rc := 5) (ml := 5) (nr := 0) (np := 4) (as := [x_r 63]) (rest := []) (lo1 := [x_r 63, 147573952589676412928, 147573952589676412928, 147573952589676412928, 147573952589676412928]) (by decide +kernel) (by decide) (by decide +kernel) (x_rb_of (by decide +kernel)) rfl rfl (x_wr (by decide) x_wn) x_wn (by decide) rfl (c57_63 j5 ) (fun v12 h15 l13 q14 => ?_)
    obtain ⟨j16, f17, b18⟩ := q14
    have f19 := Fr.trans f7 f17 (by decide)
    refine x_ifz (k := 1) (tg := 14) (np := 7) (by decide +kernel) (by decide) l13 (fun q20 => ?_) (fun q21 => ?_)
    · have q20 : v12 ≠ 2147483648 := q20
      refine x_const (np := 15) (x := 9223372043297226753) (a := 2147483649) (by decide +kernel) (by decide) (by decide) ?_
      refine x_goto (np := 18) (x := 19) (by decide +kernel) ?_
      refine x_retI (np := 20) (x := 0) (by decide +kernel) (by decide) (Or.inr ⟨by decide +kernel, by first | decide | omega, by first | decide | omega⟩) ⟨_, rfl, (by decide), ?_⟩
      refine x_ifz (k := 1) (tg := 43) (np := 35) (by decide +kernel) (by decide) (by decide) (fun q22 => ?_) (fun q23 => ?_)
      · have q22 : 2147483649 ≠ 2147483648 := q22
        refine x_iload (np := 44) (x := 1) (by decide +kernel) rfl (by decide) ?_
        refine x_aload (np := 45) (x := 0) (by decide +kernel) rfl (x_nc_le (by decide)) ?_
        refine x_getC (np := 48) (x := 784) (f := 16) (q := (h15 63 16)) (by decide +kernel) (by decide) (by decide +kernel) rfl (fun l24 => ?_)
        refine x_icmp (k := 3) (tg := 61) (np := 51) (by decide +kernel) (by decide) (by decide) l24 (fun q25 => ?_) (fun q26 => ?_)
        · have q25 : (h15 63 16) ≤ 2147483651 := q25
          refine x_retV (np := 62) (x := 0) (by decide +kernel) (by decide +kernel) ⟨rfl, ?_⟩
          exact ⟨j16, f19⟩
        have q26 : ¬ ((h15 63 16) ≤ 2147483651) := q26
        refine x_iload (np := 52) (x := 1) (by decide +kernel) rfl (by decide) ?_
        refine x_const (np := 53) (x := 9223372060477095941) (a := 2147483653) (by decide +kernel) (by decide) (by decide) ?_
        refine x_icmp (k := 3) (tg := 61) (np := 56) (by decide +kernel) (by decide) (by decide) (by decide) (fun q27 => ?_) (fun q28 => ?_)
        · have q27 : 2147483653 ≤ 2147483651 := q27
          exfalso; omega
        have q28 : ¬ (2147483653 ≤ 2147483651) := q28
        refine x_aload (np := 57) (x := 0) (by decide +kernel) rfl (x_nc_le (by decide)) ?_
        refine x_iload (np := 58) (x := 1) (by decide +kernel) rfl (by decide) ?_
        refine x_cV (t := 8) (mj := 275) (n := 2) (rc := 13) (ml := 8) (nr := 0) (np := 61) (as := [x_r 63, iv_c 2147483651]) (rest := []) (lo1 := [x_r 63, iv_c 2147483651, 147573952589676412928, 147573952589676412928, 147573952589676412928, 147573952589676412928, 147573952589676412928, 147573952589676412928]) (by decide +kernel) (by decide) (by decide +kernel) (x_rb_of (by decide +kernel)) rfl rfl (x_wr (by decide) (x_wi (by decide) x_wn)) x_wn (by decide) rfl (c275_63_c3 j16  ) (fun h32 q31 => ?_)
        obtain ⟨j33, f34⟩ := q31
        have f37 := Fr.trans f19 f34 (by decide)
        refine x_retV (np := 62) (x := 0) (by decide +kernel) (by decide +kernel) ⟨rfl, ?_⟩
        exact ⟨j33, f37⟩
      have q23 : ¬ (2147483649 ≠ 2147483648) := q23
      exfalso; omega
    have q21 : ¬ (v12 ≠ 2147483648) := q21
    refine x_aload (np := 8) (x := 0) (by decide +kernel) rfl (x_nc_le (by decide)) ?_
    refine x_cI (t := 6) (mj := 58) (n := 1) (rc := 5) (ml := 4) (nr := 0) (np := 11) (as := [x_r 63]) (rest := []) (lo1 := [x_r 63, 147573952589676412928, 147573952589676412928, 147573952589676412928]) (by decide +kernel) (by decide) (by decide +kernel) (x_rb_of (by decide +kernel)) rfl rfl (x_wr (by decide) x_wn) x_wn (by decide) rfl (c58_63 j16 ) (fun v38 h41 l39 q40 => ?_)
    obtain ⟨j42, f43, b44⟩ := q40
    have f45 := Fr.trans f19 f43 (by decide)
    refine x_ifz (k := 0) (tg := 18) (np := 14) (by decide +kernel) (by decide) l39 (fun q46 => ?_) (fun q47 => ?_)
    · have q46 : v38 = 2147483648 := q46
      refine x_const (np := 19) (x := 9223372039002259456) (a := 2147483648) (by decide +kernel) (by decide) (by decide) ?_
      refine x_retI (np := 20) (x := 0) (by decide +kernel) (by decide) (Or.inr ⟨by decide +kernel, by first | decide | omega, by first | decide | omega⟩) ⟨_, rfl, (by decide), ?_⟩
      refine x_ifz (k := 1) (tg := 43) (np := 35) (by decide +kernel) (by decide) (by decide) (fun q48 => ?_) (fun q49 => ?_)
      · have q48 : 2147483648 ≠ 2147483648 := q48
        exfalso; omega
      have q49 : ¬ (2147483648 ≠ 2147483648) := q49
      refine x_aload (np := 36) (x := 0) (by decide +kernel) rfl (x_nc_le (by decide)) ?_
      refine x_iload (np := 37) (x := 1) (by decide +kernel) rfl (by decide) ?_
      refine x_cV (t := 8) (mj := 279) (n := 2) (rc := 13) (ml := 4) (nr := 0) (np := 40) (as := [x_r 63, iv_c 2147483651]) (rest := []) (lo1 := [x_r 63, iv_c 2147483651, 147573952589676412928, 147573952589676412928]) (by decide +kernel) (by decide) (by decide +kernel) (x_rb_of (by decide +kernel)) rfl rfl (x_wr (by decide) (x_wi (by decide) x_wn)) x_wn (by decide) rfl (c279_63_c3 j42  ) (fun h53 q52 => ?_)
      obtain ⟨j54, f55⟩ := q52
      have f58 := Fr.trans f45 f55 (by decide)
      refine x_goto (np := 43) (x := 61) (by decide +kernel) ?_
      refine x_retV (np := 62) (x := 0) (by decide +kernel) (by decide +kernel) ⟨rfl, ?_⟩
      exact ⟨j54, f58⟩
    have q47 : ¬ (v38 = 2147483648) := q47
    refine x_const (np := 15) (x := 9223372043297226753) (a := 2147483649) (by decide +kernel) (by decide) (by decide) ?_
    refine x_goto (np := 18) (x := 19) (by decide +kernel) ?_
    refine x_retI (np := 20) (x := 0) (by decide +kernel) (by decide) (Or.inr ⟨by decide +kernel, by first | decide | omega, by first | decide | omega⟩) ⟨_, rfl, (by decide), ?_⟩
    refine x_ifz (k := 1) (tg := 43) (np := 35) (by decide +kernel) (by decide) (by decide) (fun q59 => ?_) (fun q60 => ?_)
    · have q59 : 2147483649 ≠ 2147483648 := q59
      refine x_iload (np := 44) (x := 1) (by decide +kernel) rfl (by decide) ?_
      refine x_aload (np := 45) (x := 0) (by decide +kernel) rfl (x_nc_le (by decide)) ?_
      refine x_getC (np := 48) (x := 784) (f := 16) (q := (h41 63 16)) (by decide +kernel) (by decide) (by decide +kernel) rfl (fun l61 => ?_)
      refine x_icmp (k := 3) (tg := 61) (np := 51) (by decide +kernel) (by decide) (by decide) l61 (fun q62 => ?_) (fun q63 => ?_)
      · have q62 : (h41 63 16) ≤ 2147483651 := q62
        refine x_retV (np := 62) (x := 0) (by decide +kernel) (by decide +kernel) ⟨rfl, ?_⟩
        exact ⟨j42, f45⟩
      have q63 : ¬ ((h41 63 16) ≤ 2147483651) := q63
      refine x_iload (np := 52) (x := 1) (by decide +kernel) rfl (by decide) ?_
      refine x_const (np := 53) (x := 9223372060477095941) (a := 2147483653) (by decide +kernel) (by decide) (by decide) ?_
      refine x_icmp (k := 3) (tg := 61) (np := 56) (by decide +kernel) (by decide) (by decide) (by decide) (fun q64 => ?_) (fun q65 => ?_)
      · have q64 : 2147483653 ≤ 2147483651 := q64
        exfalso; omega
      have q65 : ¬ (2147483653 ≤ 2147483651) := q65
      refine x_aload (np := 57) (x := 0) (by decide +kernel) rfl (x_nc_le (by decide)) ?_
      refine x_iload (np := 58) (x := 1) (by decide +kernel) rfl (by decide) ?_
      refine x_cV (t := 8) (mj := 275) (n := 2) (rc := 13) (ml := 8) (nr := 0) (np := 61) (as := [x_r 63, iv_c 2147483651]) (rest := []) (lo1 := [x_r 63, iv_c 2147483651, 147573952589676412928, 147573952589676412928, 147573952589676412928, 147573952589676412928, 147573952589676412928, 147573952589676412928]) (by decide +kernel) (by decide) (by decide +kernel) (x_rb_of (by decide +kernel)) rfl rfl (x_wr (by decide) (x_wi (by decide) x_wn)) x_wn (by decide) rfl (c275_63_c3 j42  ) (fun h69 q68 => ?_)
      obtain ⟨j70, f71⟩ := q68
      have f74 := Fr.trans f45 f71 (by decide)
      refine x_retV (np := 62) (x := 0) (by decide +kernel) (by decide +kernel) ⟨rfl, ?_⟩
      exact ⟨j70, f74⟩
    have q60 : ¬ (2147483649 ≠ 2147483648) := q60
    exfalso; omega
  have q11 : ¬ (v2 ≤ 2147503648) := q11
  refine x_aload (np := 21) (x := 0) (by decide +kernel) rfl (x_nc_le (by decide)) ?_
  refine x_const (np := 22) (x := 9223372043297226753) (a := 2147483649) (by decide +kernel) (by decide) (by decide) ?_
  refine x_putI (np := 25) (x := 4873) (f := 9) (by decide +kernel) (by decide +kernel) (by decide) (Or.inr ⟨by decide, by first | decide | omega, by first | decide | omega⟩) ?_
  have j76 := jU (e := 9) (v := 2147483649) 0 j5 rg_63_9_0_1 (by first | decide | omega) (by first | decide | omega) (by first | decide | omega)
  have f78 := jF (e := 9) (v := 2147483649) 0 f7 rg_63_9_0_1 (by first | decide | omega) (by first | decide | omega) (by decide)
  generalize e77 : x_up h4 63 9 2147483649 = h75 at j76 f78 ⊢
  refine x_goto (np := 28) (x := 61) (by decide +kernel) ?_
  refine x_retV (np := 62) (x := 0) (by decide +kernel) (by decide +kernel) ⟨rfl, ?_⟩
  exact ⟨j76, f78⟩
set_option maxHeartbeats 0 in
/-- LentNames$Search.tryLoan(IIIII)V -/
theorem c277_63_c2 {sc : Nat × Nat} {d a2 a3 a4 a5 : Nat} {h : xh} (hJ : J h) (ba2 : 2147483648 ≤ a2 ∧ a2 ≤ 2147483653) (ba3 : 2147483648 ≤ a3 ∧ a3 ≤ 2147483653) (ba4 : 2147483648 ≤ a4 ∧ a4 ≤ 2147483659) (ba5 : 2147483648 ≤ a5 ∧ a5 ≤ 2147483659) : X sc 277 (d + 12) (xV fun h' => J h' ∧ Fr 32769 h h') 0 0 0 [x_r 63, iv_c 2147483650, iv_c a2, iv_c a3, iv_c a4, iv_c a5, 147573952589676412928] [] h := by
  have la2 : a2 < 4294967296 := by first | decide | omega
  have la3 : a3 < 4294967296 := by first | decide | omega
  have la4 : a4 < 4294967296 := by first | decide | omega
  have la5 : a5 < 4294967296 := by first | decide | omega
  have hF := Fr.refl 32769 h
  refine x_const (np := 1) (x := 9223372043297226753) (a := 2147483649) (by decide +kernel) (by decide) (by decide) ?_
  refine x_iload (np := 3) (x := 5) (by decide +kernel) rfl la5 ?_
  refine x_const (np := 4) (x := 9223372043297226753) (a := 2147483649) (by decide +kernel) (by decide) (by decide) ?_
  refine x_iadd (np := 5) (x := 0) (v := (1 + a5)) (by decide +kernel) la5 (by decide) (by first | decide | omega) (by first | decide | omega) ?_
  refine x_any (np := 6) (k9 := 3) (by decide +kernel) (by decide) (by decide) (by first | decide | omega) (fun v1 l2 => ?_)
  refine x_const (np := 7) (x := 9223372043297226753) (a := 2147483649) (by decide +kernel) (by decide) (by decide) ?_
  refine x_iload (np := 9) (x := 4) (by decide +kernel) rfl la4 ?_
  refine x_any (np := 10) (k9 := 3) (by decide +kernel) (by decide) (by decide) la4 (fun v3 l4 => ?_)
  refine x_subA (by rw [tb_b277]; decide +kernel) l2 l4 (fun v5 l6 => ?_)
  refine x_istore (np := 13) (x := 6) (lo' := [x_r 63, iv_c 2147483650, iv_c a2, iv_c a3, iv_c a4, iv_c a5, iv_c v5]) (by decide +kernel) l6 (Nat.le_of_ble_eq_true rfl) rfl ?_
  refine x_aload (np := 14) (x := 0) (by decide +kernel) rfl (x_nc_le (by decide)) ?_
  have q7 : h 63 3 = 67 := by have z := jB (e := 3) 0 hJ rg_63_3_0_1 (by decide) (by decide); omega
  refine x_getR (np := 17) (x := 771) (f := 3) (q := 67) (by decide +kernel) (by decide) (by decide +kernel) q7 ?_
  refine x_iload (np := 18) (x := 1) (by decide +kernel) rfl (by decide) ?_
  refine x_const (np := 21) (x := 9223414988675229456) (a := 2147493648) (by decide +kernel) (by decide) (by decide) ?_
  refine x_iload (np := 22) (x := 2) (by decide +kernel) rfl la2 ?_
  obtain ⟨u8, q9⟩ : ∃ z, a2 = 2147483648 + z := ⟨a2 - 2147483648, by first | decide | omega⟩
  refine x_imul (np := 23) (x := 0) (i := 10000) (j := u8) (v := (2147483648 + 10000 * u8)) (by decide +kernel) (by first | decide | omega) (by first | decide | omega) (by first | decide | omega) (by first | decide | omega) (by decide) la2 ?_
  refine x_const (np := 26) (x := 9223376333969556456) (a := 2147484648) (by decide +kernel) (by decide) (by decide) ?_
  refine x_iload (np := 27) (x := 3) (by decide +kernel) rfl la3 ?_
  obtain ⟨u11, q12⟩ : ∃ z, a3 = 2147483648 + z := ⟨a3 - 2147483648, by first | decide | omega⟩
  refine x_imul (np := 28) (x := 0) (i := 1000) (j := u11) (v := (2147483648 + 1000 * u11)) (by decide +kernel) (by first | decide | omega) (by first | decide | omega) (by first | decide | omega) (by first | decide | omega) (by decide) la3 ?_
  refine x_iadd (np := 29) (x := 0) (v := (2147483648 + 10000 * u8 + 1000 * u11)) (by decide +kernel) (by first | decide | omega) (by first | decide | omega) (by first | decide | omega) (by first | decide | omega) ?_
  refine x_const (np := 31) (x := 9223372124901605396) (a := 2147483668) (by decide +kernel) (by decide) (by decide) ?_
  refine x_iload (np := 33) (x := 4) (by decide +kernel) rfl la4 ?_
  obtain ⟨u14, q15⟩ : ∃ z, a4 = 2147483648 + z := ⟨a4 - 2147483648, by first | decide | omega⟩
  refine x_imul (np := 34) (x := 0) (i := 20) (j := u14) (v := (2147483648 + 20 * u14)) (by decide +kernel) (by first | decide | omega) (by first | decide | omega) (by first | decide | omega) (by first | decide | omega) (by decide) la4 ?_
  refine x_iadd (np := 35) (x := 0) (v := (2147483648 + 10000 * u8 + 1000 * u11 + 20 * u14)) (by decide +kernel) (by first | decide | omega) (by first | decide | omega) (by first | decide | omega) (by first | decide | omega) ?_
  refine x_iload (np := 37) (x := 5) (by decide +kernel) rfl la5 ?_
  refine x_iadd (np := 38) (x := 0) (v := (10000 * u8 + 1000 * u11 + 20 * u14 + a5)) (by decide +kernel) (by first | decide | omega) la5 (by first | decide | omega) (by first | decide | omega) ?_
  refine x_ast (np := 39) (x := 0) (kd := 1) (n := 5) (i := 2) (by decide +kernel) (Or.inl rfl) (by decide +kernel) (by first | decide | omega) (by first | decide | omega) (by decide) (by first | decide | omega) (fun z => absurd z (by decide)) ?_
  have j18 := jU (e := 2) (v := (10000 * u8 + 1000 * u11 + 20 * u14 + a5)) 2 hJ rg_67_0_1_5 (by first | decide | omega) (by first | decide | omega) (by first | decide | omega)
  have f20 := jF (e := 2) (v := (10000 * u8 + 1000 * u11 + 20 * u14 + a5)) 2 hF rg_67_0_1_5 (by first | decide | omega) (by first | decide | omega) (by decide)
  generalize e19 : x_up h 67 2 (10000 * u8 + 1000 * u11 + 20 * u14 + a5) = h17 at j18 f20 ⊢
  refine x_aload (np := 40) (x := 0) (by decide +kernel) rfl (x_nc_le (by decide)) ?_
  refine x_iload (np := 41) (x := 2) (by decide +kernel) rfl la2 ?_
  refine x_iload (np := 42) (x := 3) (by decide +kernel) rfl la3 ?_
  refine x_iload (np := 44) (x := 6) (by decide +kernel) rfl l6 ?_
  refine x_cV (t := 8) (mj := 280) (n := 4) (rc := 13) (ml := 5) (nr := 0) (np := 47) (as := [x_r 63, iv_c a2, iv_c a3, iv_c v5]) (rest := []) (lo1 := [x_r 63, iv_c a2, iv_c a3, iv_c v5, 147573952589676412928]) (by decide +kernel) (by decide) (by decide +kernel) (x_rb_of (by decide +kernel)) rfl rfl (x_wr (by decide) (x_wi la2 (x_wi la3 (x_wi l6 x_wn)))) x_wn (by decide) rfl (c280_63 j18  (by first | decide | omega) (by first | decide | omega) (by first | decide | omega)) (fun h24 q23 => ?_)
  obtain ⟨j25, f26⟩ := q23
  have f29 := Fr.trans f20 f26 (by decide)
  refine x_aload (np := 48) (x := 0) (by decide +kernel) rfl (x_nc_le (by decide)) ?_
  refine x_iload (np := 49) (x := 1) (by decide +kernel) rfl (by decide) ?_
  refine x_const (np := 50) (x := 9223372043297226753) (a := 2147483649) (by decide +kernel) (by decide) (by decide) ?_
  refine x_iadd (np := 51) (x := 0) (v := 2147483651) (by decide +kernel) (by decide) (by decide) (by first | decide | omega) (by first | decide | omega) ?_
  refine x_cV (t := 8) (mj := 274) (n := 2) (rc := 13) (ml := 2) (nr := 0) (np := 54) (as := [x_r 63, iv_c 2147483651]) (rest := []) (lo1 := [x_r 63, iv_c 2147483651]) (by decide +kernel) (by decide) (by decide +kernel) (x_rb_of (by decide +kernel)) rfl rfl (x_wr (by decide) (x_wi (by decide) x_wn)) x_wn (by decide) rfl (c274_63_c3 j25  ) (fun h33 q32 => ?_)
  obtain ⟨j34, f35⟩ := q32
  have f38 := Fr.trans f29 f35 (by decide)
  refine x_aload (np := 55) (x := 0) (by decide +kernel) rfl (x_nc_le (by decide)) ?_
  refine x_iload (np := 56) (x := 2) (by decide +kernel) rfl la2 ?_
  refine x_iload (np := 58) (x := 6) (by decide +kernel) rfl l6 ?_
  refine x_cV (t := 8) (mj := 281) (n := 3) (rc := 13) (ml := 5) (nr := 0) (np := 61) (as := [x_r 63, iv_c a2, iv_c v5]) (rest := []) (lo1 := [x_r 63, iv_c a2, iv_c v5, 147573952589676412928, 147573952589676412928]) (by decide +kernel) (by decide) (by decide +kernel) (x_rb_of (by decide +kernel)) rfl rfl (x_wr (by decide) (x_wi la2 (x_wi l6 x_wn))) x_wn (by decide) rfl (c281_63 j34  (by first | decide | omega) (by first | decide | omega)) (fun h42 q41 => ?_)
  obtain ⟨j43, f44⟩ := q41
  have f47 := Fr.trans f38 f44 (by decide)
  refine x_retV (np := 62) (x := 0) (by decide +kernel) (by decide +kernel) ⟨rfl, ?_⟩
  exact ⟨j43, f47⟩
set_option maxHeartbeats 0 in
/-- LentNames$Search.tryLoans(IIIII)V -/
theorem c276_63_c2 {sc : Nat × Nat} {d a2 a3 a4 a5 : Nat} {h : xh} (hJ : J h) (ba2 : 2147483648 ≤ a2 ∧ a2 ≤ 2147483653) (ba3 : 2147483648 ≤ a3 ∧ a3 ≤ 2147483653) (ba4 : 0 ≤ a4 ∧ a4 ≤ 4294967295) (ba5 : 0 ≤ a5 ∧ a5 ≤ 4294967295) : X sc 276 (d + 13) (xV fun h' => J h' ∧ Fr 32769 h h') 0 0 0 [x_r 63, iv_c 2147483650, iv_c a2, iv_c a3, iv_c a4, iv_c a5, 147573952589676412928, 147573952589676412928, 147573952589676412928, 147573952589676412928] [] h := by
  have la2 : a2 < 4294967296 := by first | decide | omega
  have la3 : a3 < 4294967296 := by first | decide | omega
  have la4 : a4 < 4294967296 := by first | decide | omega
  have la5 : a5 < 4294967296 := by first | decide | omega
  have hF := Fr.refl 32769 h
  refine x_aload (np := 1) (x := 0) (by decide +kernel) rfl (x_nc_le (by decide)) ?_
  have q1 : h 63 5 = 45 := by have z := jB (e := 5) 0 hJ rg_63_5_0_1 (by decide) (by decide); omega
  refine x_getR (np := 4) (x := 773) (f := 5) (q := 45) (by decide +kernel) (by decide) (by decide +kernel) q1 ?_
  have q2 : h 45 0 = 46 := by have z := jB (e := 0) 0 hJ rg_45_0_0_1 (by decide) (by decide); omega
  refine x_getR (np := 7) (x := 64) (f := 0) (q := 46) (by decide +kernel) (by decide) (by decide +kernel) q2 ?_
  refine x_iload (np := 8) (x := 3) (by decide +kernel) rfl la3 ?_
  obtain ⟨u3, q4⟩ : ∃ z, a3 = 2147483648 + z := ⟨a3 - 2147483648, by first | decide | omega⟩
  refine x_aldC (np := 9) (x := 0) (n := 6) (i := u3) (q := (h 46 u3)) (by decide +kernel) (by decide +kernel) (by first | decide | omega) (by first | decide | omega) (by decide) rfl (fun l5 => ?_)
  refine x_aload (np := 10) (x := 0) (by decide +kernel) rfl (x_nc_le (by decide)) ?_
  have q6 : h 63 5 = 45 := by have z := jB (e := 5) 0 hJ rg_63_5_0_1 (by decide) (by decide); omega
  refine x_getR (np := 13) (x := 773) (f := 5) (q := 45) (by decide +kernel) (by decide) (by decide +kernel) q6 ?_
  have q7 : h 45 1 = 47 := by have z := jB (e := 1) 0 hJ rg_45_1_0_1 (by decide) (by decide); omega
  refine x_getR (np := 16) (x := 65) (f := 1) (q := 47) (by decide +kernel) (by decide) (by decide +kernel) q7 ?_
  refine x_iload (np := 17) (x := 2) (by decide +kernel) rfl la2 ?_
  refine x_iload (np := 18) (x := 3) (by decide +kernel) rfl la3 ?_
  refine x_nI (t := 7) (mj := 149) (n := 2) (rc := 0) (ml := 2) (nr := 2) (np := 21) (as := [iv_c a2, iv_c a3]) (rest := [x_r 47, iv_c (h 46 u3)]) (lo1 := [iv_c a2, iv_c a3]) (by decide +kernel) (by decide) (by decide +kernel) (Or.inl rfl) rfl rfl (x_wi la2 (x_wi la3 x_wn)) (x_wr (by decide) (x_wi l5 x_wn)) (by decide) rfl ?_
  refine x_iload (np := 1) (x := 0) (by decide +kernel) rfl la2 ?_
  refine x_const (np := 3) (x := 9223372064772063238) (a := 2147483654) (by decide +kernel) (by decide) (by decide) ?_
  obtain ⟨u8, q9⟩ : ∃ z, a2 = 2147483648 + z := ⟨a2 - 2147483648, by first | decide | omega⟩
  refine x_imul (np := 4) (x := 0) (i := u8) (j := 6) (v := (2147483648 + 6 * u8)) (by decide +kernel) (by first | decide | omega) (by first | decide | omega) (by first | decide | omega) (by first | decide | omega) la2 (by decide) ?_
  refine x_iload (np := 5) (x := 1) (by decide +kernel) rfl la3 ?_
  refine x_iadd (np := 6) (x := 0) (v := (6 * u8 + a3)) (by decide +kernel) (by first | decide | omega) la3 (by first | decide | omega) (by first | decide | omega) ?_
  refine x_retI (np := 7) (x := 0) (by decide +kernel) (by first | decide | omega) (Or.inl (by decide +kernel)) ⟨_, rfl, (by first | decide | omega), ?_⟩
  refine x_aldC (np := 22) (x := 0) (n := 36) (i := (6 * u8 + u3)) (q := ((h 47 (6 * u8 + u3)))) (by decide +kernel) (by decide +kernel) (by first | decide | omega) (by first | decide | omega) (by decide) rfl (fun l11 => ?_)
  refine x_const (np := 23) (x := 9223372034707292159) (a := 2147483647) (by decide +kernel) (by decide) (by decide) ?_
  refine x_any (np := 24) (k9 := 2) (by decide +kernel) (by decide) l11 (by decide) (fun v12 l13 => ?_)
  refine x_any (np := 25) (k9 := 0) (by decide +kernel) (by decide) l5 l13 (fun v14 l15 => ?_)
  refine x_aload (np := 26) (x := 0) (by decide +kernel) rfl (x_nc_le (by decide)) ?_
  have q16 : h 63 2 = 66 := by have z := jB (e := 2) 0 hJ rg_63_2_0_1 (by decide) (by decide); omega
  refine x_getR (np := 29) (x := 770) (f := 2) (q := 66) (by decide +kernel) (by decide) (by decide +kernel) q16 ?_
  refine x_iload (np := 30) (x := 2) (by decide +kernel) rfl la2 ?_
  refine x_aldC (np := 31) (x := 0) (n := 6) (i := u8) (q := (h 66 u8)) (by decide +kernel) (by decide +kernel) (by first | decide | omega) (by first | decide | omega) (by decide) rfl (fun l17 => ?_)
  refine x_const (np := 32) (x := 9223372034707292159) (a := 2147483647) (by decide +kernel) (by decide) (by decide) ?_
  refine x_any (np := 33) (k9 := 2) (by decide +kernel) (by decide) l17 (by decide) (fun v18 l19 => ?_)
  refine x_any (np := 34) (k9 := 0) (by decide +kernel) (by decide) l15 l19 (fun v20 l21 => ?_)
  refine x_istore (np := 36) (x := 6) (lo' := [x_r 63, iv_c 2147483650, iv_c a2, iv_c a3, iv_c a4, iv_c a5, iv_c v20, 147573952589676412928, 147573952589676412928, 147573952589676412928]) (by decide +kernel) l21 (Nat.le_of_ble_eq_true rfl) rfl ?_
  refine x_aload (np := 37) (x := 0) (by decide +kernel) rfl (x_nc_le (by decide)) ?_
  have q22 : h 63 1 = 65 := by have z := jB (e := 1) 0 hJ rg_63_1_0_1 (by decide) (by decide); omega
  refine x_getR (np := 40) (x := 769) (f := 1) (q := 65) (by decide +kernel) (by decide) (by decide +kernel) q22 ?_
  refine x_iload (np := 41) (x := 2) (by decide +kernel) rfl la2 ?_
  refine x_aldC (np := 42) (x := 0) (n := 6) (i := u8) (q := (h 65 u8)) (by decide +kernel) (by decide +kernel) (by first | decide | omega) (by first | decide | omega) (by decide) rfl (fun l23 => ?_)
  refine x_iload (np := 44) (x := 6) (by decide +kernel) rfl l21 ?_
  refine x_any (np := 45) (k9 := 0) (by decide +kernel) (by decide) l23 l21 (fun v24 l25 => ?_)
  refine x_istore (np := 47) (x := 7) (lo' := [x_r 63, iv_c 2147483650, iv_c a2, iv_c a3, iv_c a4, iv_c a5, iv_c v20, iv_c v24, 147573952589676412928, 147573952589676412928]) (by decide +kernel) l25 (Nat.le_of_ble_eq_true rfl) rfl ?_
  refine x_const (np := 48) (x := 9223372039002259456) (a := 2147483648) (by decide +kernel) (by decide) (by decide) ?_
  refine x_istore (np := 50) (x := 8) (lo' := [x_r 63, iv_c 2147483650, iv_c a2, iv_c a3, iv_c a4, iv_c a5, iv_c v20, iv_c v24, iv_c 2147483648, 147573952589676412928]) (by decide +kernel) (by decide) (Nat.le_of_ble_eq_true rfl) rfl ?_
  have p3726 : ∀ (n : Nat) (v3720 : Nat) (w3722 : Nat) (h3723 : xh), 4294967296 - v3720 < n → (2147483648 ≤ v3720 ∧ v3720 ≤ 2147483660) → J h3723 → Fr 32769 h h3723 → X sc 276 (d + 13) (xV fun h' => J h' ∧ Fr 32769 h h') 0 0 50 [x_r 63, iv_c 2147483650, iv_c a2, iv_c a3, iv_c a4, iv_c a5, iv_c v20, iv_c v24, iv_c v3720, w3722] [] h3723 := by
    intro n
    induction n with
    | zero => intro v3720 w3722 h3723 q3727; exact absurd q3727 (Nat.not_lt_zero _)
    | succ n i3728 =>
      intro v3720 w3722 h3723 q3727 b3721 j3725 f3724
      have f3729 := Fr.trans hF f3724 (by decide)
      refine x_iload (np := 52) (x := 8) (by decide +kernel) rfl (by first | decide | omega) ?_
      refine x_iload (np := 54) (x := 5) (by decide +kernel) rfl la5 ?_
      refine x_icmp (k := 4) (tg := 145) (np := 57) (by decide +kernel) (by decide) (by first | decide | omega) la5 (fun q3730 => ?_) (fun q3731 => ?_)
      · have q3730 : a5 < v3720 := q3730
        refine x_retV (np := 146) (x := 0) (by decide +kernel) (by decide +kernel) ⟨rfl, ?_⟩
        exact ⟨j3725, f3729⟩
      have q3731 : ¬ (a5 < v3720) := q3731
      refine x_iload (np := 59) (x := 8) (by decide +kernel) rfl (by first | decide | omega) ?_
      refine x_const (np := 61) (x := 9223372090541867020) (a := 2147483660) (by decide +kernel) (by decide) (by decide) ?_
      refine x_icmp (k := 3) (tg := 145) (np := 64) (by decide +kernel) (by decide) (by first | decide | omega) (by decide) (fun q3732 => ?_) (fun q3733 => ?_)
      · have q3732 : 2147483660 ≤ v3720 := q3732
        refine x_retV (np := 146) (x := 0) (by decide +kernel) (by decide +kernel) ⟨rfl, ?_⟩
        exact ⟨j3725, f3729⟩
      have q3733 : ¬ (2147483660 ≤ v3720) := q3733
      refine x_iload (np := 66) (x := 7) (by decide +kernel) rfl l25 ?_
      refine x_iload (np := 68) (x := 8) (by decide +kernel) rfl (by first | decide | omega) ?_
      refine x_cP (t := 7) (mj := 148) (n := 2) (rc := 0) (ml := 2) (nr := 0) (np := 71) (as := [iv_c v24, iv_c v3720]) (rest := []) (lo1 := [iv_c v24, iv_c v3720]) (by decide +kernel) (by decide) (by decide +kernel) (Or.inl rfl) rfl rfl (x_wi l25 (x_wi (by first | decide | omega) x_wn)) x_wn (by decide) rfl (c148 j3725 (by first | decide | omega) (by first | decide | omega)) (fun v3734 l3735 q3736 => ?_)
      refine x_ifz (k := 1) (tg := 77) (np := 74) (by decide +kernel) (by decide) l3735 (fun q3737 => ?_) (fun q3738 => ?_)
      · have q3737 : v3734 ≠ 2147483648 := q3737
        refine x_iload (np := 79) (x := 8) (by decide +kernel) rfl (by first | decide | omega) ?_
        refine x_istore (np := 81) (x := 9) (lo' := [x_r 63, iv_c 2147483650, iv_c a2, iv_c a3, iv_c a4, iv_c a5, iv_c v20, iv_c v24, iv_c v3720, iv_c v3720]) (by decide +kernel) (by first | decide | omega) (Nat.le_of_ble_eq_true rfl) rfl ?_
        have p3831 : ∀ (n : Nat) (v3826 : Nat) (h3828 : xh), 4294967296 - v3826 < n → (2147483648 ≤ v3826 ∧ v3826 ≤ 2147483660) → J h3828 → Fr 32769 h3723 h3828 → X sc 276 (d + 13) (xV fun h' => J h' ∧ Fr 32769 h h') 0 0 81 [x_r 63, iv_c 2147483650, iv_c a2, iv_c a3, iv_c a4, iv_c a5, iv_c v20, iv_c v24, iv_c v3720, iv_c v3826] [] h3828 := by
          intro n
          induction n with
          | zero => intro v3826 h3828 q3832; exact absurd q3832 (Nat.not_lt_zero _)
          | succ n i3833 =>
            intro v3826 h3828 q3832 b3827 j3830 f3829
            have f3834 := Fr.trans f3729 f3829 (by decide)
            have f3835 := Fr.trans f3724 f3829 (by decide)
            refine x_iload (np := 83) (x := 9) (by decide +kernel) rfl (by first | decide | omega) ?_
            refine x_const (np := 85) (x := 9223372090541867020) (a := 2147483660) (by decide +kernel) (by decide) (by decide) ?_
            refine x_icmp (k := 3) (tg := 139) (np := 88) (by decide +kernel) (by decide) (by first | decide | omega) (by decide) (fun q3836 => ?_) (fun q3837 => ?_)
            · have q3836 : 2147483660 ≤ v3826 := q3836
              refine x_iinc (np := 142) (i := 8) (j := 2147483649) (v := (1 + v3720)) (lo' := [x_r 63, iv_c 2147483650, iv_c a2, iv_c a3, iv_c a4, iv_c a5, iv_c v20, iv_c v24, iv_c (1 + v3720), iv_c v3826]) (by decide +kernel) (by decide) (by decide) rfl (by first | decide | omega) (by first | decide | omega) (by first | decide | omega) rfl ?_
              refine x_goto (np := 145) (x := 50) (by decide +kernel) ?_
              exact i3728 (1 + v3720) (iv_c v3826) h3828 (by first | decide | omega) (by first | decide | omega) j3830 f3835
            have q3837 : ¬ (2147483660 ≤ v3826) := q3837
            refine x_iload (np := 90) (x := 6) (by decide +kernel) rfl l21 ?_
            refine x_iload (np := 92) (x := 9) (by decide +kernel) rfl (by first | decide | omega) ?_
            refine x_cP (t := 7) (mj := 148) (n := 2) (rc := 0) (ml := 2) (nr := 0) (np := 95) (as := [iv_c v20, iv_c v3826]) (rest := []) (lo1 := [iv_c v20, iv_c v3826]) (by decide +kernel) (by decide) (by decide +kernel) (Or.inl rfl) rfl rfl (x_wi l21 (x_wi (by first | decide | omega) x_wn)) x_wn (by decide) rfl (c148 j3830 (by first | decide | omega) (by first | decide | omega)) (fun v3838 l3839 q3840 => ?_)
            refine x_ifz (k := 0) (tg := 139) (np := 98) (by decide +kernel) (by decide) l3839 (fun q3841 => ?_) (fun q3842 => ?_)
            · have q3841 : v3838 = 2147483648 := q3841
              refine x_iinc (np := 142) (i := 8) (j := 2147483649) (v := (1 + v3720)) (lo' := [x_r 63, iv_c 2147483650, iv_c a2, iv_c a3, iv_c a4, iv_c a5, iv_c v20, iv_c v24, iv_c (1 + v3720), iv_c v3826]) (by decide +kernel) (by decide) (by decide) rfl (by first | decide | omega) (by first | decide | omega) (by first | decide | omega) rfl ?_
              refine x_goto (np := 145) (x := 50) (by decide +kernel) ?_
              exact i3728 (1 + v3720) (iv_c v3826) h3828 (by first | decide | omega) (by first | decide | omega) j3830 f3835
            have q3842 : ¬ (v3838 = 2147483648) := q3842
            refine x_aload (np := 99) (x := 0) (by decide +kernel) rfl (x_nc_le (by decide)) ?_
            refine x_nI (t := 8) (mj := 278) (n := 1) (rc := 13) (ml := 1) (nr := 0) (np := 102) (as := [x_r 63]) (rest := []) (lo1 := [x_r 63]) (by decide +kernel) (by decide) (by decide +kernel) (x_rb_of (by decide +kernel)) rfl rfl (x_wr (by decide) x_wn) x_wn (by decide) rfl ?_
            refine x_aload (np := 1) (x := 0) (by decide +kernel) rfl (x_nc_le (by decide)) ?_
            have b3843 := jB (e := 9) 0 j3830 rg_63_9_0_1 (by first | decide | omega) (by first | decide | omega)
            refine x_getC (np := 4) (x := 777) (f := 9) (q := (h3828 63 9)) (by decide +kernel) (by decide) (by decide +kernel) rfl (fun l3844 => ?_)
            refine x_ifz (k := 1) (tg := 21) (np := 7) (by decide +kernel) (by decide) l3844 (fun q3845 => ?_) (fun q3846 => ?_)
            · have q3845 : (h3828 63 9) ≠ 2147483648 := q3845
              refine x_const (np := 22) (x := 9223372043297226753) (a := 2147483649) (by decide +kernel) (by decide) (by decide) ?_
              refine x_goto (np := 25) (x := 26) (by decide +kernel) ?_
              refine x_retI (np := 27) (x := 0) (by decide +kernel) (by decide) (Or.inr ⟨by decide +kernel, by first | decide | omega, by first | decide | omega⟩) ⟨_, rfl, (by decide), ?_⟩
              refine x_ifz (k := 1) (tg := 139) (np := 105) (by decide +kernel) (by decide) (by decide) (fun q3847 => ?_) (fun q3848 => ?_)
              · have q3847 : 2147483649 ≠ 2147483648 := q3847
                refine x_iinc (np := 142) (i := 8) (j := 2147483649) (v := (1 + v3720)) (lo' := [x_r 63, iv_c 2147483650, iv_c a2, iv_c a3, iv_c a4, iv_c a5, iv_c v20, iv_c v24, iv_c (1 + v3720), iv_c v3826]) (by decide +kernel) (by decide) (by decide) rfl (by first | decide | omega) (by first | decide | omega) (by first | decide | omega) rfl ?_
                refine x_goto (np := 145) (x := 50) (by decide +kernel) ?_
                exact i3728 (1 + v3720) (iv_c v3826) h3828 (by first | decide | omega) (by first | decide | omega) j3830 f3835
              have q3848 : ¬ (2147483649 ≠ 2147483648) := q3848
              exfalso; omega
            have q3846 : ¬ ((h3828 63 9) ≠ 2147483648) := q3846
            refine x_aload (np := 8) (x := 0) (by decide +kernel) rfl (x_nc_le (by decide)) ?_
            refine x_getC (np := 11) (x := 776) (f := 8) (q := (h3828 63 8)) (by decide +kernel) (by decide) (by decide +kernel) rfl (fun l3849 => ?_)
            refine x_ifz (k := 5) (tg := 25) (np := 14) (by decide +kernel) (by decide) l3849 (fun q3850 => ?_) (fun q3851 => ?_)
            · have q3850 : (h3828 63 8) ≤ 2147483648 := q3850
              refine x_const (np := 26) (x := 9223372039002259456) (a := 2147483648) (by decide +kernel) (by decide) (by decide) ?_
              refine x_retI (np := 27) (x := 0) (by decide +kernel) (by decide) (Or.inr ⟨by decide +kernel, by first | decide | omega, by first | decide | omega⟩) ⟨_, rfl, (by decide), ?_⟩
              refine x_ifz (k := 1) (tg := 139) (np := 105) (by decide +kernel) (by decide) (by decide) (fun q3852 => ?_) (fun q3853 => ?_)
              · have q3852 : 2147483648 ≠ 2147483648 := q3852
                exfalso; omega
              have q3853 : ¬ (2147483648 ≠ 2147483648) := q3853
              refine x_iload (np := 107) (x := 9) (by decide +kernel) rfl (by first | decide | omega) ?_
              refine x_iload (np := 109) (x := 4) (by decide +kernel) rfl la4 ?_
              refine x_icmp (k := 2) (tg := 133) (np := 112) (by decide +kernel) (by decide) (by first | decide | omega) la4 (fun q3854 => ?_) (fun q3855 => ?_)
              · have q3854 : v3826 < a4 := q3854
                refine x_iinc (np := 136) (i := 9) (j := 2147483649) (v := (1 + v3826)) (lo' := [x_r 63, iv_c 2147483650, iv_c a2, iv_c a3, iv_c a4, iv_c a5, iv_c v20, iv_c v24, iv_c v3720, iv_c (1 + v3826)]) (by decide +kernel) (by decide) (by decide) rfl (by first | decide | omega) (by first | decide | omega) (by first | decide | omega) rfl ?_
                refine x_goto (np := 139) (x := 81) (by decide +kernel) ?_
                exact i3833 (1 + v3826) h3828 (by first | decide | omega) (by first | decide | omega) j3830 f3829
              have q3855 : ¬ (v3826 < a4) := q3855
              refine x_iload (np := 114) (x := 7) (by decide +kernel) rfl l25 ?_
              refine x_iload (np := 116) (x := 9) (by decide +kernel) rfl (by first | decide | omega) ?_
              refine x_cP (t := 7) (mj := 148) (n := 2) (rc := 0) (ml := 2) (nr := 0) (np := 119) (as := [iv_c v24, iv_c v3826]) (rest := []) (lo1 := [iv_c v24, iv_c v3826]) (by decide +kernel) (by decide) (by decide +kernel) (Or.inl rfl) rfl rfl (x_wi l25 (x_wi (by first | decide | omega) x_wn)) x_wn (by decide) rfl (c148 j3830 (by first | decide | omega) (by first | decide | omega)) (fun v3856 l3857 q3858 => ?_)
              refine x_ifz (k := 0) (tg := 133) (np := 122) (by decide +kernel) (by decide) l3857 (fun q3859 => ?_) (fun q3860 => ?_)
              · have q3859 : v3856 = 2147483648 := q3859
                refine x_iinc (np := 136) (i := 9) (j := 2147483649) (v := (1 + v3826)) (lo' := [x_r 63, iv_c 2147483650, iv_c a2, iv_c a3, iv_c a4, iv_c a5, iv_c v20, iv_c v24, iv_c v3720, iv_c (1 + v3826)]) (by decide +kernel) (by decide) (by decide) rfl (by first | decide | omega) (by first | decide | omega) (by first | decide | omega) rfl ?_
                refine x_goto (np := 139) (x := 81) (by decide +kernel) ?_
                exact i3833 (1 + v3826) h3828 (by first | decide | omega) (by first | decide | omega) j3830 f3829
              have q3860 : ¬ (v3856 = 2147483648) := q3860
              refine x_aload (np := 123) (x := 0) (by decide +kernel) rfl (x_nc_le (by decide)) ?_
              refine x_iload (np := 124) (x := 1) (by decide +kernel) rfl (by decide) ?_
              refine x_iload (np := 125) (x := 2) (by decide +kernel) rfl la2 ?_
              refine x_iload (np := 126) (x := 3) (by decide +kernel) rfl la3 ?_
              refine x_iload (np := 128) (x := 8) (by decide +kernel) rfl (by first | decide | omega) ?_
              refine x_iload (np := 130) (x := 9) (by decide +kernel) rfl (by first | decide | omega) ?_
              refine x_cV (t := 8) (mj := 277) (n := 6) (rc := 13) (ml := 7) (nr := 0) (np := 133) (as := [x_r 63, iv_c 2147483650, iv_c a2, iv_c a3, iv_c v3720, iv_c v3826]) (rest := []) (lo1 := [x_r 63, iv_c 2147483650, iv_c a2, iv_c a3, iv_c v3720, iv_c v3826, 147573952589676412928]) (by decide +kernel) (by decide) (by decide +kernel) (x_rb_of (by decide +kernel)) rfl rfl (x_wr (by decide) (x_wi (by decide) (x_wi la2 (x_wi la3 (x_wi (by first | decide | omega) (x_wi (by first | decide | omega) x_wn)))))) x_wn (by decide) rfl (c277_63_c2 j3830   (by first | decide | omega) (by first | decide | omega) (by first | decide | omega) (by first | decide | omega)) (fun h3864 q3863 => ?_)
              obtain ⟨j3865, f3866⟩ := q3863
              have f3869 := Fr.trans f3834 f3866 (by decide)
              have f3870 := Fr.trans f3835 f3866 (by decide)
              have f3871 := Fr.trans f3829 f3866 (by decide)
              refine x_iinc (np := 136) (i := 9) (j := 2147483649) (v := (1 + v3826)) (lo' := [x_r 63, iv_c 2147483650, iv_c a2, iv_c a3, iv_c a4, iv_c a5, iv_c v20, iv_c v24, iv_c v3720, iv_c (1 + v3826)]) (by decide +kernel) (by decide) (by decide) rfl (by first | decide | omega) (by first | decide | omega) (by first | decide | omega) rfl ?_
              refine x_goto (np := 139) (x := 81) (by decide +kernel) ?_
              exact i3833 (1 + v3826) h3864 (by first | decide | omega) (by first | decide | omega) j3865 f3871
            have q3851 : ¬ ((h3828 63 8) ≤ 2147483648) := q3851
            refine x_aload (np := 15) (x := 0) (by decide +kernel) rfl (x_nc_le (by decide)) ?_
            refine x_vI (P := fun r9 h9 => X sc 278 _ _ 0 0 18 [x_r 63] (iv_c r9 :: []) h9) (np := 18) (x := 5246977) (kk := 1) (cls := 4) (mj := 54) (ml := 1) (nr := 0) (rest := []) (lo1 := [x_r 63]) (by decide +kernel) (by decide) (by decide) (by decide) (by decide +kernel) (by decide +kernel) (by decide) (by decide +kernel) (by decide +kernel) x_wn (by decide) rfl ?_ (fun _ _ _ z => z)
            refine x_const (np := 1) (x := 9223372043297226753) (a := 2147483649) (by decide +kernel) (by decide) (by decide) ?_
            refine x_retI (np := 2) (x := 0) (by decide +kernel) (by decide) (Or.inr ⟨by decide +kernel, by first | decide | omega, by first | decide | omega⟩) ⟨_, rfl, (by decide), ?_⟩
            refine x_ifz (k := 0) (tg := 25) (np := 21) (by decide +kernel) (by decide) (by decide) (fun q3872 => ?_) (fun q3873 => ?_)
            · have q3872 : 2147483649 = 2147483648 := q3872
              exfalso; omega
            have q3873 : ¬ (2147483649 = 2147483648) := q3873
            refine x_const (np := 22) (x := 9223372043297226753) (a := 2147483649) (by decide +kernel) (by decide) (by decide) ?_
            refine x_goto (np := 25) (x := 26) (by decide +kernel) ?_
            refine x_retI (np := 27) (x := 0) (by decide +kernel) (by decide) (Or.inr ⟨by decide +kernel, by first | decide | omega, by first | decide | omega⟩) ⟨_, rfl, (by decide), ?_⟩
            refine x_ifz (k := 1) (tg := 139) (np := 105) (by decide +kernel) (by decide) (by decide) (fun q3874 => ?_) (fun q3875 => ?_)
            · have q3874 : 2147483649 ≠ 2147483648 := q3874
              refine x_iinc (np := 142) (i := 8) (j := 2147483649) (v := (1 + v3720)) (lo' := [x_r 63, iv_c 2147483650, iv_c a2, iv_c a3, iv_c a4, iv_c a5, iv_c v20, iv_c v24, iv_c (1 + v3720), iv_c v3826]) (by decide +kernel) (by decide) (by decide) rfl (by first | decide | omega) (by first | decide | omega) (by first | decide | omega) rfl ?_
              refine x_goto (np := 145) (x := 50) (by decide +kernel) ?_
              exact i3728 (1 + v3720) (iv_c v3826) h3828 (by first | decide | omega) (by first | decide | omega) j3830 f3835
            have q3875 : ¬ (2147483649 ≠ 2147483648) := q3875
            exfalso; omega
        exact p3831 _ v3720 h3723 (Nat.lt_succ_self _) (by first | decide | omega) j3725 (Fr.refl _ _)
      have q3738 : ¬ (v3734 ≠ 2147483648) := q3738
      refine x_goto (np := 77) (x := 139) (by decide +kernel) ?_
      refine x_iinc (np := 142) (i := 8) (j := 2147483649) (v := (1 + v3720)) (lo' := [x_r 63, iv_c 2147483650, iv_c a2, iv_c a3, iv_c a4, iv_c a5, iv_c v20, iv_c v24, iv_c (1 + v3720), w3722]) (by decide +kernel) (by decide) (by decide) rfl (by first | decide | omega) (by first | decide | omega) (by first | decide | omega) rfl ?_
      refine x_goto (np := 145) (x := 50) (by decide +kernel) ?_
      exact i3728 (1 + v3720) w3722 h3723 (by first | decide | omega) (by first | decide | omega) j3725 f3724
  exact p3726 _ 2147483648 147573952589676412928 h (Nat.lt_succ_self _) (by first | decide | omega) hJ (Fr.refl _ _)
set_option maxHeartbeats 0 in
/-- LentNames$Search.mend(I)V -/
theorem c275_63_c2 {sc : Nat × Nat} {d  : Nat} {h : xh} (hJ : J h) : X sc 275 (d + 14) (xV fun h' => J h' ∧ Fr 32769 h h') 0 0 0 [x_r 63, iv_c 2147483650, 147573952589676412928, 147573952589676412928, 147573952589676412928, 147573952589676412928, 147573952589676412928, 147573952589676412928] [] h := by
  have hF := Fr.refl 32769 h
  refine x_aload (np := 1) (x := 0) (by decide +kernel) rfl (x_nc_le (by decide)) ?_
  refine x_getC (np := 4) (x := 778) (f := 10) (q := (h 63 10)) (by decide +kernel) (by decide) (by decide +kernel) rfl (fun l1 => ?_)
  refine x_istore (np := 5) (x := 2) (lo' := [x_r 63, iv_c 2147483650, iv_c (h 63 10), 147573952589676412928, 147573952589676412928, 147573952589676412928, 147573952589676412928, 147573952589676412928]) (by decide +kernel) l1 (Nat.le_of_ble_eq_true rfl) rfl ?_
  refine x_aload (np := 6) (x := 0) (by decide +kernel) rfl (x_nc_le (by decide)) ?_
  refine x_getC (np := 9) (x := 779) (f := 11) (q := (h 63 11)) (by decide +kernel) (by decide) (by decide +kernel) rfl (fun l2 => ?_)
  refine x_istore (np := 10) (x := 3) (lo' := [x_r 63, iv_c 2147483650, iv_c (h 63 10), iv_c (h 63 11), 147573952589676412928, 147573952589676412928, 147573952589676412928, 147573952589676412928]) (by decide +kernel) l2 (Nat.le_of_ble_eq_true rfl) rfl ?_
  refine x_aload (np := 11) (x := 0) (by decide +kernel) rfl (x_nc_le (by decide)) ?_
  refine x_getC (np := 14) (x := 780) (f := 12) (q := (h 63 12)) (by decide +kernel) (by decide) (by decide +kernel) rfl (fun l3 => ?_)
  refine x_istore (np := 16) (x := 4) (lo' := [x_r 63, iv_c 2147483650, iv_c (h 63 10), iv_c (h 63 11), iv_c (h 63 12), 147573952589676412928, 147573952589676412928, 147573952589676412928]) (by decide +kernel) l3 (Nat.le_of_ble_eq_true rfl) rfl ?_
  refine x_aload (np := 17) (x := 0) (by decide +kernel) rfl (x_nc_le (by decide)) ?_
  refine x_getC (np := 20) (x := 781) (f := 13) (q := (h 63 13)) (by decide +kernel) (by decide) (by decide +kernel) rfl (fun l4 => ?_)
  refine x_istore (np := 22) (x := 5) (lo' := [x_r 63, iv_c 2147483650, iv_c (h 63 10), iv_c (h 63 11), iv_c (h 63 12), iv_c (h 63 13), 147573952589676412928, 147573952589676412928]) (by decide +kernel) l4 (Nat.le_of_ble_eq_true rfl) rfl ?_
  refine x_const (np := 23) (x := 9223372039002259456) (a := 2147483648) (by decide +kernel) (by decide) (by decide) ?_
  refine x_istore (np := 25) (x := 6) (lo' := [x_r 63, iv_c 2147483650, iv_c (h 63 10), iv_c (h 63 11), iv_c (h 63 12), iv_c (h 63 13), iv_c 2147483648, 147573952589676412928]) (by decide +kernel) (by decide) (Nat.le_of_ble_eq_true rfl) rfl ?_
  have p1452 : ∀ (n : Nat) (v1446 : Nat) (w1448 : Nat) (h1449 : xh), 4294967296 - v1446 < n → (2147483648 ≤ v1446 ∧ v1446 ≤ 2147483654) → J h1449 → Fr 32769 h h1449 → X sc 275 (d + 14) (xV fun h' => J h' ∧ Fr 32769 h h') 0 0 25 [x_r 63, iv_c 2147483650, iv_c (h 63 10), iv_c (h 63 11), iv_c (h 63 12), iv_c (h 63 13), iv_c v1446, w1448] [] h1449 := by
    intro n
    induction n with
    | zero => intro v1446 w1448 h1449 q1453; exact absurd q1453 (Nat.not_lt_zero _)
    | succ n i1454 =>
      intro v1446 w1448 h1449 q1453 b1447 j1451 f1450
      have f1455 := Fr.trans hF f1450 (by decide)
      refine x_iload (np := 27) (x := 6) (by decide +kernel) rfl (by first | decide | omega) ?_
      refine x_aload (np := 28) (x := 0) (by decide +kernel) rfl (x_nc_le (by decide)) ?_
      have t1456 : tw (h1449 63 6) := j1451.2.2.2.2.2.1
      refine x_getR (np := 31) (x := 774) (f := 6) (q := (h1449 63 6)) (by decide +kernel) (by decide) (by decide +kernel) rfl ?_
      have q1457 : h1449 (h1449 63 6) 7 = h (h1449 63 6) 7 := jK 0 f1450 (rg_T0_7_0_1 t1456) (by first | decide | omega) (by first | decide | omega) (by decide)
      have b1458 := jB (e := 7) 0 hJ (rg_T0_7_0_1 t1456) (by first | decide | omega) (by first | decide | omega)
      refine x_getC (np := 34) (x := 519) (f := 7) (q := (h (h1449 63 6) 7)) (by decide +kernel) (by decide) (tg_0_519_7_0 t1456) q1457 (fun l1459 => ?_)
      refine x_icmp (k := 3) (tg := 95) (np := 37) (by decide +kernel) (by decide) (by first | decide | omega) l1459 (fun q1460 => ?_) (fun q1461 => ?_)
      · have q1460 : (h (h1449 63 6) 7) ≤ v1446 := q1460
        refine x_retV (np := 96) (x := 0) (by decide +kernel) (by decide +kernel) ⟨rfl, ?_⟩
        exact ⟨j1451, f1455⟩
      have q1461 : ¬ ((h (h1449 63 6) 7) ≤ v1446) := q1461
      refine x_const (np := 38) (x := 9223372039002259456) (a := 2147483648) (by decide +kernel) (by decide) (by decide) ?_
      refine x_istore (np := 40) (x := 7) (lo' := [x_r 63, iv_c 2147483650, iv_c (h 63 10), iv_c (h 63 11), iv_c (h 63 12), iv_c (h 63 13), iv_c v1446, iv_c 2147483648]) (by decide +kernel) (by decide) (Nat.le_of_ble_eq_true rfl) rfl ?_
      have p1659 : ∀ (n : Nat) (v1654 : Nat) (h1656 : xh), 4294967296 - v1654 < n → (2147483648 ≤ v1654 ∧ v1654 ≤ 2147483654) → J h1656 → Fr 32769 h1449 h1656 → X sc 275 (d + 14) (xV fun h' => J h' ∧ Fr 32769 h h') 0 0 40 [x_r 63, iv_c 2147483650, iv_c (h 63 10), iv_c (h 63 11), iv_c (h 63 12), iv_c (h 63 13), iv_c v1446, iv_c v1654] [] h1656 := by
        intro n
        induction n with
        | zero => intro v1654 h1656 q1660; exact absurd q1660 (Nat.not_lt_zero _)
        | succ n i1661 =>
          intro v1654 h1656 q1660 b1655 j1658 f1657
          have f1662 := Fr.trans f1455 f1657 (by decide)
          have f1663 := Fr.trans f1450 f1657 (by decide)
          refine x_iload (np := 42) (x := 7) (by decide +kernel) rfl (by first | decide | omega) ?_
          refine x_aload (np := 43) (x := 0) (by decide +kernel) rfl (x_nc_le (by decide)) ?_
          have t1664 : tw (h1656 63 6) := j1658.2.2.2.2.2.1
          refine x_getR (np := 46) (x := 774) (f := 6) (q := (h1656 63 6)) (by decide +kernel) (by decide) (by decide +kernel) rfl ?_
          have q1665 : h1656 (h1656 63 6) 7 = h1449 (h1656 63 6) 7 := jK 0 f1657 (rg_T0_7_0_1 t1664) (by first | decide | omega) (by first | decide | omega) (by decide)
          have q1666 : h1449 (h1656 63 6) 7 = h (h1656 63 6) 7 := jK 0 f1450 (rg_T0_7_0_1 t1664) (by first | decide | omega) (by first | decide | omega) (by decide)
          have b1667 := jB (e := 7) 0 hJ (rg_T0_7_0_1 t1664) (by first | decide | omega) (by first | decide | omega)
          refine x_getC (np := 49) (x := 519) (f := 7) (q := (h (h1656 63 6) 7)) (by decide +kernel) (by decide) (tg_0_519_7_0 t1664) (q1665.trans q1666) (fun l1668 => ?_)
          refine x_icmp (k := 3) (tg := 89) (np := 52) (by decide +kernel) (by decide) (by first | decide | omega) l1668 (fun q1669 => ?_) (fun q1670 => ?_)
          · have q1669 : (h (h1656 63 6) 7) ≤ v1654 := q1669
            refine x_iinc (np := 92) (i := 6) (j := 2147483649) (v := (1 + v1446)) (lo' := [x_r 63, iv_c 2147483650, iv_c (h 63 10), iv_c (h 63 11), iv_c (h 63 12), iv_c (h 63 13), iv_c (1 + v1446), iv_c v1654]) (by decide +kernel) (by decide) (by decide) rfl (by first | decide | omega) (by first | decide | omega) (by first | decide | omega) rfl ?_
            refine x_goto (np := 95) (x := 25) (by decide +kernel) ?_
            exact i1454 (1 + v1446) (iv_c v1654) h1656 (by first | decide | omega) (by first | decide | omega) j1658 f1663
          have q1670 : ¬ ((h (h1656 63 6) 7) ≤ v1654) := q1670
          refine x_iload (np := 53) (x := 2) (by decide +kernel) rfl l1 ?_
          refine x_iload (np := 55) (x := 6) (by decide +kernel) rfl (by first | decide | omega) ?_
          refine x_cP (t := 7) (mj := 148) (n := 2) (rc := 0) (ml := 2) (nr := 0) (np := 58) (as := [iv_c (h 63 10), iv_c v1446]) (rest := []) (lo1 := [iv_c (h 63 10), iv_c v1446]) (by decide +kernel) (by decide) (by decide +kernel) (Or.inl rfl) rfl rfl (x_wi l1 (x_wi (by first | decide | omega) x_wn)) x_wn (by decide) rfl (c148 j1658 (by first | decide | omega) (by first | decide | omega)) (fun v1671 l1672 q1673 => ?_)
          refine x_ifz (k := 0) (tg := 83) (np := 61) (by decide +kernel) (by decide) l1672 (fun q1674 => ?_) (fun q1675 => ?_)
          · have q1674 : v1671 = 2147483648 := q1674
            refine x_iinc (np := 86) (i := 7) (j := 2147483649) (v := (1 + v1654)) (lo' := [x_r 63, iv_c 2147483650, iv_c (h 63 10), iv_c (h 63 11), iv_c (h 63 12), iv_c (h 63 13), iv_c v1446, iv_c (1 + v1654)]) (by decide +kernel) (by decide) (by decide) rfl (by first | decide | omega) (by first | decide | omega) (by first | decide | omega) rfl ?_
            refine x_goto (np := 89) (x := 40) (by decide +kernel) ?_
            exact i1661 (1 + v1654) h1656 (by first | decide | omega) (by first | decide | omega) j1658 f1657
          have q1675 : ¬ (v1671 = 2147483648) := q1675
          refine x_iload (np := 62) (x := 3) (by decide +kernel) rfl l2 ?_
          refine x_iload (np := 64) (x := 7) (by decide +kernel) rfl (by first | decide | omega) ?_
          refine x_cP (t := 7) (mj := 148) (n := 2) (rc := 0) (ml := 2) (nr := 0) (np := 67) (as := [iv_c (h 63 11), iv_c v1654]) (rest := []) (lo1 := [iv_c (h 63 11), iv_c v1654]) (by decide +kernel) (by decide) (by decide +kernel) (Or.inl rfl) rfl rfl (x_wi l2 (x_wi (by first | decide | omega) x_wn)) x_wn (by decide) rfl (c148 j1658 (by first | decide | omega) (by first | decide | omega)) (fun v1676 l1677 q1678 => ?_)
          refine x_ifz (k := 0) (tg := 83) (np := 70) (by decide +kernel) (by decide) l1677 (fun q1679 => ?_) (fun q1680 => ?_)
          · have q1679 : v1676 = 2147483648 := q1679
            refine x_iinc (np := 86) (i := 7) (j := 2147483649) (v := (1 + v1654)) (lo' := [x_r 63, iv_c 2147483650, iv_c (h 63 10), iv_c (h 63 11), iv_c (h 63 12), iv_c (h 63 13), iv_c v1446, iv_c (1 + v1654)]) (by decide +kernel) (by decide) (by decide) rfl (by first | decide | omega) (by first | decide | omega) (by first | decide | omega) rfl ?_
            refine x_goto (np := 89) (x := 40) (by decide +kernel) ?_
            exact i1661 (1 + v1654) h1656 (by first | decide | omega) (by first | decide | omega) j1658 f1657
          have q1680 : ¬ (v1676 = 2147483648) := q1680
          refine x_aload (np := 71) (x := 0) (by decide +kernel) rfl (x_nc_le (by decide)) ?_
          refine x_iload (np := 72) (x := 1) (by decide +kernel) rfl (by decide) ?_
          refine x_iload (np := 74) (x := 6) (by decide +kernel) rfl (by first | decide | omega) ?_
          refine x_iload (np := 76) (x := 7) (by decide +kernel) rfl (by first | decide | omega) ?_
          refine x_iload (np := 78) (x := 4) (by decide +kernel) rfl l3 ?_
          refine x_iload (np := 80) (x := 5) (by decide +kernel) rfl l4 ?_
          refine x_cV (t := 8) (mj := 276) (n := 6) (rc := 13) (ml := 10) (nr := 0) (np := 83) (as := [x_r 63, iv_c 2147483650, iv_c v1446, iv_c v1654, iv_c (h 63 12), iv_c (h 63 13)]) (rest := []) (lo1 := [x_r 63, iv_c 2147483650, iv_c v1446, iv_c v1654, iv_c (h 63 12), iv_c (h 63 13), 147573952589676412928, 147573952589676412928, 147573952589676412928, 147573952589676412928]) (by decide +kernel) (by decide) (by decide +kernel) (x_rb_of (by decide +kernel)) rfl rfl (x_wr (by decide) (x_wi (by decide) (x_wi (by first | decide | omega) (x_wi (by first | decide | omega) (x_wi l3 (x_wi l4 x_wn)))))) x_wn (by decide) rfl (c276_63_c2 j1658   (by first | decide | omega) (by first | decide | omega) (by first | decide | omega) (by first | decide | omega)) (fun h1684 q1683 => ?_)
          obtain ⟨j1685, f1686⟩ := q1683
          have f1689 := Fr.trans f1662 f1686 (by decide)
          have f1690 := Fr.trans f1663 f1686 (by decide)
          have f1691 := Fr.trans f1657 f1686 (by decide)
          refine x_iinc (np := 86) (i := 7) (j := 2147483649) (v := (1 + v1654)) (lo' := [x_r 63, iv_c 2147483650, iv_c (h 63 10), iv_c (h 63 11), iv_c (h 63 12), iv_c (h 63 13), iv_c v1446, iv_c (1 + v1654)]) (by decide +kernel) (by decide) (by decide) rfl (by first | decide | omega) (by first | decide | omega) (by first | decide | omega) rfl ?_
          refine x_goto (np := 89) (x := 40) (by decide +kernel) ?_
          exact i1661 (1 + v1654) h1684 (by first | decide | omega) (by first | decide | omega) j1685 f1691
      exact p1659 _ 2147483648 h1449 (Nat.lt_succ_self _) (by first | decide | omega) j1451 (Fr.refl _ _)
  exact p1452 _ 2147483648 147573952589676412928 h (Nat.lt_succ_self _) (by first | decide | omega) hJ (Fr.refl _ _)
set_option maxHeartbeats 0 in
/-- LentNames$Search.keepSet(I)V -/
theorem c279_63_c2 {sc : Nat × Nat} {d  : Nat} {h : xh} (hJ : J h) : X sc 279 d (xV fun h' => J h' ∧ Fr 32769 h h') 0 0 0 [x_r 63, iv_c 2147483650, 147573952589676412928, 147573952589676412928] [] h := by
  have hF := Fr.refl 32769 h
  refine x_aload (np := 1) (x := 0) (by decide +kernel) rfl (x_nc_le (by decide)) ?_
  refine x_dup (np := 2) (x := 0) (by decide +kernel) (by have z := x_nc_le (k := 63) (by decide); unfold x_r; omega) ?_
  refine x_getC (np := 5) (x := 776) (f := 8) (q := (h 63 8)) (by decide +kernel) (by decide) (by decide +kernel) rfl (fun l1 => ?_)
  refine x_const (np := 6) (x := 9223372043297226753) (a := 2147483649) (by decide +kernel) (by decide) (by decide) ?_
  refine x_addA (by rw [tb_b279]; decide +kernel) l1 (by decide) (fun v2 l3 => ?_)
  refine x_putI (np := 10) (x := 776) (f := 8) (by decide +kernel) (by decide +kernel) l3 (Or.inl (by decide)) ?_
  have j5 := jU (e := 8) (v := v2) 0 hJ rg_63_8_0_1 (by first | decide | omega) (by first | decide | omega) (by first | decide | omega)
  have f7 := jF (e := 8) (v := v2) 0 hF rg_63_8_0_1 (by first | decide | omega) (by first | decide | omega) (by decide)
  generalize e6 : x_up h 63 8 v2 = h4 at j5 f7 ⊢
  refine x_aload (np := 11) (x := 0) (by decide +kernel) rfl (x_nc_le (by decide)) ?_
  have q8 : h4 63 8 = v2 := by rw [← e6]; exact x_up_at
  refine x_getC (np := 14) (x := 776) (f := 8) (q := v2) (by decide +kernel) (by decide) (by decide +kernel) q8 (fun l9 => ?_)
  refine x_const (np := 15) (x := 9223372043297226753) (a := 2147483649) (by decide +kernel) (by decide) (by decide) ?_
  refine x_icmp (k := 5) (tg := 19) (np := 18) (by decide +kernel) (by decide) l3 (by decide) (fun q10 => ?_) (fun q11 => ?_)
  · have q10 : v2 ≤ 2147483649 := q10
    refine x_aload (np := 20) (x := 0) (by decide +kernel) rfl (x_nc_le (by decide)) ?_
    refine x_iload (np := 21) (x := 1) (by decide +kernel) rfl (by decide) ?_
    refine x_putI (np := 24) (x := 783) (f := 15) (by decide +kernel) (by decide +kernel) (by decide) (Or.inl (by decide)) ?_
    have j13 := jU (e := 15) (v := 2147483650) 0 j5 rg_63_15_0_1 (by first | decide | omega) (by first | decide | omega) (by first | decide | omega)
    have f15 := jF (e := 15) (v := 2147483650) 0 f7 rg_63_15_0_1 (by first | decide | omega) (by first | decide | omega) (by decide)
    generalize e14 : x_up h4 63 15 2147483650 = h12 at j13 f15 ⊢
    refine x_const (np := 25) (x := 9223372039002259456) (a := 2147483648) (by decide +kernel) (by decide) (by decide) ?_
    refine x_istore (np := 26) (x := 2) (lo' := [x_r 63, iv_c 2147483650, iv_c 2147483648, 147573952589676412928]) (by decide +kernel) (by decide) (Nat.le_of_ble_eq_true rfl) rfl ?_
    have p622 : ∀ (n : Nat) (v616 : Nat) (w618 : Nat) (h619 : xh), 4294967296 - v616 < n → (2147483648 ≤ v616 ∧ v616 ≤ 2147483653) → J h619 → Fr 32768 h12 h619 → X sc 279 d (xV fun h' => J h' ∧ Fr 32769 h h') 0 0 26 [x_r 63, iv_c 2147483650, iv_c v616, w618] [] h619 := by
      intro n
      induction n with
      | zero => intro v616 w618 h619 q623; exact absurd q623 (Nat.not_lt_zero _)
      | succ n i624 =>
        intro v616 w618 h619 q623 b617 j621 f620
        have f625 := Fr.trans f15 f620 (by decide)
        refine x_iload (np := 27) (x := 2) (by decide +kernel) rfl (by first | decide | omega) ?_
        refine x_aload (np := 28) (x := 0) (by decide +kernel) rfl (x_nc_le (by decide)) ?_
        have b626 := jB (e := 15) 0 j621 rg_63_15_0_1 (by first | decide | omega) (by first | decide | omega)
        refine x_getC (np := 31) (x := 783) (f := 15) (q := (h619 63 15)) (by decide +kernel) (by decide) (by decide +kernel) rfl (fun l627 => ?_)
        refine x_icmp (k := 3) (tg := 95) (np := 34) (by decide +kernel) (by decide) (by first | decide | omega) l627 (fun q628 => ?_) (fun q629 => ?_)
        · have q628 : (h619 63 15) ≤ v616 := q628
          refine x_retV (np := 96) (x := 0) (by decide +kernel) (by decide +kernel) ⟨rfl, ?_⟩
          exact ⟨j621, f625⟩
        have q629 : ¬ ((h619 63 15) ≤ v616) := q629
        refine x_iload (np := 35) (x := 2) (by decide +kernel) rfl (by first | decide | omega) ?_
        refine x_istore (np := 36) (x := 3) (lo' := [x_r 63, iv_c 2147483650, iv_c v616, iv_c v616]) (by decide +kernel) (by first | decide | omega) (Nat.le_of_ble_eq_true rfl) rfl ?_
        have p704 : ∀ (n : Nat) (v699 : Nat) (h701 : xh), v699 < n → (2147483648 ≤ v699 ∧ v699 ≤ 2147483652) → J h701 → Fr 32768 h619 h701 → X sc 279 d (xV fun h' => J h' ∧ Fr 32769 h h') 0 0 36 [x_r 63, iv_c 2147483650, iv_c v616, iv_c v699] [] h701 := by
          intro n
          induction n with
          | zero => intro v699 h701 q705; exact absurd q705 (Nat.not_lt_zero _)
          | succ n i706 =>
            intro v699 h701 q705 b700 j703 f702
            have f707 := Fr.trans f625 f702 (by decide)
            have f708 := Fr.trans f620 f702 (by decide)
            refine x_iload (np := 37) (x := 3) (by decide +kernel) rfl (by first | decide | omega) ?_
            refine x_ifz (k := 5) (tg := 77) (np := 40) (by decide +kernel) (by decide) (by first | decide | omega) (fun q709 => ?_) (fun q710 => ?_)
            · have q709 : v699 ≤ 2147483648 := q709
              refine x_aload (np := 78) (x := 0) (by decide +kernel) rfl (x_nc_le (by decide)) ?_
              have q711 : h701 63 4 = 68 := by have z := jB (e := 4) 0 j703 rg_63_4_0_1 (by decide) (by decide); omega
              refine x_getR (np := 81) (x := 772) (f := 4) (q := 68) (by decide +kernel) (by decide) (by decide +kernel) q711 ?_
              refine x_iload (np := 82) (x := 3) (by decide +kernel) rfl (by first | decide | omega) ?_
              refine x_aload (np := 83) (x := 0) (by decide +kernel) rfl (x_nc_le (by decide)) ?_
              have q712 : h701 63 3 = 67 := by have z := jB (e := 3) 0 j703 rg_63_3_0_1 (by decide) (by decide); omega
              refine x_getR (np := 86) (x := 771) (f := 3) (q := 67) (by decide +kernel) (by decide) (by decide +kernel) q712 ?_
              refine x_iload (np := 87) (x := 2) (by decide +kernel) rfl (by first | decide | omega) ?_
              obtain ⟨u713, q714⟩ : ∃ z, v616 = 2147483648 + z := ⟨v616 - 2147483648, by first | decide | omega⟩
              refine x_aldC (np := 88) (x := 0) (n := 5) (i := u713) (q := (h701 67 u713)) (by decide +kernel) (by decide +kernel) (by first | decide | omega) (by first | decide | omega) (by decide) rfl (fun l715 => ?_)
              obtain ⟨u716, q717⟩ : ∃ z, v699 = 2147483648 + z := ⟨v699 - 2147483648, by first | decide | omega⟩
              refine x_ast (np := 89) (x := 0) (kd := 1) (n := 5) (i := u716) (by decide +kernel) (Or.inl rfl) (by decide +kernel) (by first | decide | omega) (by first | decide | omega) (by decide) l715 (fun z => absurd z (by decide)) ?_
              have j719 := jU (e := u716) (v := (h701 67 u713)) u716 j703 rg_68_0_1_5 (by first | decide | omega) (by first | decide | omega) (by first | decide | omega)
              have f721 := jF (e := u716) (v := (h701 67 u713)) u716 f707 rg_68_0_1_5 (by first | decide | omega) (by first | decide | omega) (by decide)
              have f722 := jF (e := u716) (v := (h701 67 u713)) u716 f708 rg_68_0_1_5 (by first | decide | omega) (by first | decide | omega) (by decide)
              generalize e720 : x_up h701 68 u716 (h701 67 u713) = h718 at j719 f721 f722 ⊢
              refine x_iinc (np := 92) (i := 2) (j := 2147483649) (v := (1 + v616)) (lo' := [x_r 63, iv_c 2147483650, iv_c (1 + v616), iv_c v699]) (by decide +kernel) (by decide) (by decide) rfl (by first | decide | omega) (by first | decide | omega) (by first | decide | omega) rfl ?_
              refine x_goto (np := 95) (x := 26) (by decide +kernel) ?_
              exact i624 (1 + v616) (iv_c v699) h718 (by first | decide | omega) (by first | decide | omega) j719 f722
            have q710 : ¬ (v699 ≤ 2147483648) := q710
            refine x_aload (np := 41) (x := 0) (by decide +kernel) rfl (x_nc_le (by decide)) ?_
            have q723 : h701 63 4 = 68 := by have z := jB (e := 4) 0 j703 rg_63_4_0_1 (by decide) (by decide); omega
            refine x_getR (np := 44) (x := 772) (f := 4) (q := 68) (by decide +kernel) (by decide) (by decide +kernel) q723 ?_
            refine x_iload (np := 45) (x := 3) (by decide +kernel) rfl (by first | decide | omega) ?_
            refine x_const (np := 46) (x := 9223372043297226753) (a := 2147483649) (by decide +kernel) (by decide) (by decide) ?_
            obtain ⟨v724, q725⟩ : ∃ z, z + 2147483649 = v699 + 2147483648 := ⟨v699 + 2147483648 - 2147483649, by first | decide | omega⟩
            refine x_isub (np := 47) (x := 0) (v := v724) (by decide +kernel) (by first | decide | omega) (by decide) (by first | decide | omega) (by first | decide | omega) ?_
            obtain ⟨u726, q727⟩ : ∃ z, v724 = 2147483648 + z := ⟨v724 - 2147483648, by first | decide | omega⟩
            refine x_aldC (np := 48) (x := 0) (n := 5) (i := u726) (q := (h701 68 u726)) (by decide +kernel) (by decide +kernel) (by first | decide | omega) (by first | decide | omega) (by decide) rfl (fun l728 => ?_)
            refine x_aload (np := 49) (x := 0) (by decide +kernel) rfl (x_nc_le (by decide)) ?_
            have q729 : h701 63 3 = 67 := by have z := jB (e := 3) 0 j703 rg_63_3_0_1 (by decide) (by decide); omega
            refine x_getR (np := 52) (x := 771) (f := 3) (q := 67) (by decide +kernel) (by decide) (by decide +kernel) q729 ?_
            refine x_iload (np := 53) (x := 2) (by decide +kernel) rfl (by first | decide | omega) ?_
            obtain ⟨u730, q731⟩ : ∃ z, v616 = 2147483648 + z := ⟨v616 - 2147483648, by first | decide | omega⟩
            refine x_aldC (np := 54) (x := 0) (n := 5) (i := u730) (q := (h701 67 u730)) (by decide +kernel) (by decide +kernel) (by first | decide | omega) (by first | decide | omega) (by decide) rfl (fun l732 => ?_)
            refine x_icmp (k := 5) (tg := 77) (np := 57) (by decide +kernel) (by decide) l728 l732 (fun q733 => ?_) (fun q734 => ?_)
            · have q733 : (h701 68 u726) ≤ (h701 67 u730) := q733
              refine x_aload (np := 78) (x := 0) (by decide +kernel) rfl (x_nc_le (by decide)) ?_
              have q735 : h701 63 4 = 68 := by have z := jB (e := 4) 0 j703 rg_63_4_0_1 (by decide) (by decide); omega
              refine x_getR (np := 81) (x := 772) (f := 4) (q := 68) (by decide +kernel) (by decide) (by decide +kernel) q735 ?_
              refine x_iload (np := 82) (x := 3) (by decide +kernel) rfl (by first | decide | omega) ?_
              refine x_aload (np := 83) (x := 0) (by decide +kernel) rfl (x_nc_le (by decide)) ?_
              have q736 : h701 63 3 = 67 := by have z := jB (e := 3) 0 j703 rg_63_3_0_1 (by decide) (by decide); omega
              refine x_getR (np := 86) (x := 771) (f := 3) (q := 67) (by decide +kernel) (by decide) (by decide +kernel) q736 ?_
              refine x_iload (np := 87) (x := 2) (by decide +kernel) rfl (by first | decide | omega) ?_
              refine x_aldC (np := 88) (x := 0) (n := 5) (i := u730) (q := (h701 67 u730)) (by decide +kernel) (by decide +kernel) (by first | decide | omega) (by first | decide | omega) (by decide) rfl (fun l737 => ?_)
              obtain ⟨u738, q739⟩ : ∃ z, v699 = 2147483648 + z := ⟨v699 - 2147483648, by first | decide | omega⟩
              refine x_ast (np := 89) (x := 0) (kd := 1) (n := 5) (i := u738) (by decide +kernel) (Or.inl rfl) (by decide +kernel) (by first | decide | omega) (by first | decide | omega) (by decide) l732 (fun z => absurd z (by decide)) ?_
              have j741 := jU (e := u738) (v := (h701 67 u730)) u738 j703 rg_68_0_1_5 (by first | decide | omega) (by first | decide | omega) (by first | decide | omega)
              have f743 := jF (e := u738) (v := (h701 67 u730)) u738 f707 rg_68_0_1_5 (by first | decide | omega) (by first | decide | omega) (by decide)
              have f744 := jF (e := u738) (v := (h701 67 u730)) u738 f708 rg_68_0_1_5 (by first | decide | omega) (by first | decide | omega) (by decide)
              generalize e742 : x_up h701 68 u738 (h701 67 u730) = h740 at j741 f743 f744 ⊢
              refine x_iinc (np := 92) (i := 2) (j := 2147483649) (v := (1 + v616)) (lo' := [x_r 63, iv_c 2147483650, iv_c (1 + v616), iv_c v699]) (by decide +kernel) (by decide) (by decide) rfl (by first | decide | omega) (by first | decide | omega) (by first | decide | omega) rfl ?_
              refine x_goto (np := 95) (x := 26) (by decide +kernel) ?_
              exact i624 (1 + v616) (iv_c v699) h740 (by first | decide | omega) (by first | decide | omega) j741 f744
            have q734 : ¬ ((h701 68 u726) ≤ (h701 67 u730)) := q734
            refine x_aload (np := 58) (x := 0) (by decide +kernel) rfl (x_nc_le (by decide)) ?_
            have q745 : h701 63 4 = 68 := by have z := jB (e := 4) 0 j703 rg_63_4_0_1 (by decide) (by decide); omega
            refine x_getR (np := 61) (x := 772) (f := 4) (q := 68) (by decide +kernel) (by decide) (by decide +kernel) q745 ?_
            refine x_iload (np := 62) (x := 3) (by decide +kernel) rfl (by first | decide | omega) ?_
            refine x_aload (np := 63) (x := 0) (by decide +kernel) rfl (x_nc_le (by decide)) ?_
            have q746 : h701 63 4 = 68 := by have z := jB (e := 4) 0 j703 rg_63_4_0_1 (by decide) (by decide); omega
            refine x_getR (np := 66) (x := 772) (f := 4) (q := 68) (by decide +kernel) (by decide) (by decide +kernel) q746 ?_
            refine x_iload (np := 67) (x := 3) (by decide +kernel) rfl (by first | decide | omega) ?_
            refine x_const (np := 68) (x := 9223372043297226753) (a := 2147483649) (by decide +kernel) (by decide) (by decide) ?_
            obtain ⟨v747, q748⟩ : ∃ z, z + 2147483649 = v699 + 2147483648 := ⟨v699 + 2147483648 - 2147483649, by first | decide | omega⟩
            refine x_isub (np := 69) (x := 0) (v := v747) (by decide +kernel) (by first | decide | omega) (by decide) (by first | decide | omega) (by first | decide | omega) ?_
            obtain ⟨u749, q750⟩ : ∃ z, v747 = 2147483648 + z := ⟨v747 - 2147483648, by first | decide | omega⟩
            refine x_aldC (np := 70) (x := 0) (n := 5) (i := u749) (q := (h701 68 u749)) (by decide +kernel) (by decide +kernel) (by first | decide | omega) (by first | decide | omega) (by decide) rfl (fun l751 => ?_)
            obtain ⟨u752, q753⟩ : ∃ z, v699 = 2147483648 + z := ⟨v699 - 2147483648, by first | decide | omega⟩
            refine x_ast (np := 71) (x := 0) (kd := 1) (n := 5) (i := u752) (by decide +kernel) (Or.inl rfl) (by decide +kernel) (by first | decide | omega) (by first | decide | omega) (by decide) l751 (fun z => absurd z (by decide)) ?_
            have j755 := jU (e := u752) (v := (h701 68 u749)) u752 j703 rg_68_0_1_5 (by first | decide | omega) (by first | decide | omega) (by first | decide | omega)
            have f757 := jF (e := u752) (v := (h701 68 u749)) u752 f707 rg_68_0_1_5 (by first | decide | omega) (by first | decide | omega) (by decide)
            have f758 := jF (e := u752) (v := (h701 68 u749)) u752 f708 rg_68_0_1_5 (by first | decide | omega) (by first | decide | omega) (by decide)
            have f759 := jF (e := u752) (v := (h701 68 u749)) u752 f702 rg_68_0_1_5 (by first | decide | omega) (by first | decide | omega) (by decide)
            generalize e756 : x_up h701 68 u752 (h701 68 u749) = h754 at j755 f757 f758 f759 ⊢
            obtain ⟨v760, q761⟩ : ∃ z, z + 1 = v699 := ⟨v699 - 1, by first | decide | omega⟩
            refine x_iinc (np := 74) (i := 3) (j := 2147483647) (v := v760) (lo' := [x_r 63, iv_c 2147483650, iv_c v616, iv_c v760]) (by decide +kernel) (by decide) (by decide) rfl (by first | decide | omega) (by first | decide | omega) (by first | decide | omega) rfl ?_
            refine x_goto (np := 77) (x := 36) (by decide +kernel) ?_
            exact i706 v760 h754 (by first | decide | omega) (by first | decide | omega) j755 f759
        exact p704 _ v616 h619 (Nat.lt_succ_self _) (by first | decide | omega) j621 (Fr.refl _ _)
    exact p622 _ 2147483648 147573952589676412928 h12 (Nat.lt_succ_self _) (by first | decide | omega) j13 (Fr.refl _ _)
  have q11 : ¬ (v2 ≤ 2147483649) := q11
  refine x_retV (np := 19) (x := 0) (by decide +kernel) (by decide +kernel) ⟨rfl, ?_⟩
  exact ⟨j5, f7⟩
set_option maxHeartbeats 0 in
/-- LentNames$Search.come(I)V -/
theorem c274_63_c2 {sc : Nat × Nat} {d  : Nat} {h : xh} (hJ : J h) : X sc 274 (d + 15) (xV fun h' => J h' ∧ Fr 32769 h h') 0 0 0 [x_r 63, iv_c 2147483650] [] h := by
  have hF := Fr.refl 32769 h
  refine x_aload (np := 1) (x := 0) (by decide +kernel) rfl (x_nc_le (by decide)) ?_
  refine x_dup (np := 2) (x := 0) (by decide +kernel) (by have z := x_nc_le (k := 63) (by decide); unfold x_r; omega) ?_
  refine x_getC (np := 5) (x := 785) (f := 17) (q := (h 63 17)) (by decide +kernel) (by decide) (by decide +kernel) rfl (fun l1 => ?_)
  refine x_const (np := 6) (x := 9223372043297226753) (a := 2147483649) (by decide +kernel) (by decide) (by decide) ?_
  refine x_addA (by rw [tb_b274]; decide +kernel) l1 (by decide) (fun v2 l3 => ?_)
  refine x_putI (np := 10) (x := 785) (f := 17) (by decide +kernel) (by decide +kernel) l3 (Or.inl (by decide)) ?_
  have j5 := jU (e := 17) (v := v2) 0 hJ rg_63_17_0_1 (by first | decide | omega) (by first | decide | omega) (by first | decide | omega)
  have f7 := jF (e := 17) (v := v2) 0 hF rg_63_17_0_1 (by first | decide | omega) (by first | decide | omega) (by decide)
  generalize e6 : x_up h 63 17 v2 = h4 at j5 f7 ⊢
  refine x_aload (np := 11) (x := 0) (by decide +kernel) rfl (x_nc_le (by decide)) ?_
  have q8 : h4 63 17 = v2 := by rw [← e6]; exact x_up_at
  refine x_getC (np := 14) (x := 785) (f := 17) (q := v2) (by decide +kernel) (by decide) (by decide +kernel) q8 (fun l9 => ?_)
  refine x_const (np := 17) (x := 9223457938348199456) (a := 2147503648) (by decide +kernel) (by decide) (by decide) ?_
  refine x_icmp (k := 5) (tg := 28) (np := 20) (by decide +kernel) (by decide) l3 (by decide) (fun q10 => ?_) (fun q11 => ?_)
  · have q10 : v2 ≤ 2147503648 := q10
    refine x_aload (np := 29) (x := 0) (by decide +kernel) rfl (x_nc_le (by decide)) ?_
    refine x_vI (P := fun r9 h9 => X sc 274 _ _ 0 0 32 [x_r 63, iv_c 2147483650] (iv_c r9 :: []) h9) (np := 32) (x := 5246979) (kk := 3) (cls := 4) (mj := 56) (ml := 1) (nr := 0) (rest := []) (lo1 := [x_r 63]) (by decide +kernel) (by decide) (by decide) (by decide) (by decide +kernel) (by decide +kernel) (by decide) (by decide +kernel) (by decide +kernel) x_wn (by decide) rfl ?_ (fun _ _ _ z => z)
    refine x_aload (np := 1) (x := 0) (by decide +kernel) rfl (x_nc_le (by decide)) ?_
    refine x_cI (t := 6) (mj := 57) (n := 1) (rc := 5) (ml := 5) (nr := 0) (np := 4) (as := [x_r 63]) (rest := []) (lo1 := [x_r 63, 147573952589676412928, 147573952589676412928, 147573952589676412928, 147573952589676412928]) (by decide +kernel) (by decide) (by decide +kernel) (x_rb_of (by decide +kernel)) rfl rfl (x_wr (by decide) x_wn) x_wn (by decide) rfl (c57_63 j5 ) (fun v12 h15 l13 q14 => ?_)
    obtain ⟨j16, f17, b18⟩ := q14
    have f19 := Fr.trans f7 f17 (by decide)
    refine x_ifz (k := 1) (tg := 14) (np := 7) (by decide +kernel) (by decide) l13 (fun q20 => ?_) (fun q21 => ?_)
    · have q20 : v12 ≠ 2147483648 := q20
      refine x_const (np := 15) (x := 9223372043297226753) (a := 2147483649) (by decide +kernel) (by decide) (by decide) ?_
      refine x_goto (np := 18) (x := 19) (by decide +kernel) ?_
      refine x_retI (np := 20) (x := 0) (by decide +kernel) (by decide) (Or.inr ⟨by decide +kernel, by first | decide | omega, by first | decide | omega⟩) ⟨_, rfl, (by decide), ?_⟩
      refine x_ifz (k := 1) (tg := 43) (np := 35) (by decide +kernel) (by decide) (by decide) (fun q22 => ?_) (fun q23 => ?_)
      · have q22 : 2147483649 ≠ 2147483648 := q22
        refine x_iload (np := 44) (x := 1) (by decide +kernel) rfl (by decide) ?_
        refine x_aload (np := 45) (x := 0) (by decide +kernel) rfl (x_nc_le (by decide)) ?_
        refine x_getC (np := 48) (x := 784) (f := 16) (q := (h15 63 16)) (by decide +kernel) (by decide) (by decide +kernel) rfl (fun l24 => ?_)
        refine x_icmp (k := 3) (tg := 61) (np := 51) (by decide +kernel) (by decide) (by decide) l24 (fun q25 => ?_) (fun q26 => ?_)
        · have q25 : (h15 63 16) ≤ 2147483650 := q25
          refine x_retV (np := 62) (x := 0) (by decide +kernel) (by decide +kernel) ⟨rfl, ?_⟩
          exact ⟨j16, f19⟩
        have q26 : ¬ ((h15 63 16) ≤ 2147483650) := q26
        refine x_iload (np := 52) (x := 1) (by decide +kernel) rfl (by decide) ?_
        refine x_const (np := 53) (x := 9223372060477095941) (a := 2147483653) (by decide +kernel) (by decide) (by decide) ?_
        refine x_icmp (k := 3) (tg := 61) (np := 56) (by decide +kernel) (by decide) (by decide) (by decide) (fun q27 => ?_) (fun q28 => ?_)
        · have q27 : 2147483653 ≤ 2147483650 := q27
          exfalso; omega
        have q28 : ¬ (2147483653 ≤ 2147483650) := q28
        refine x_aload (np := 57) (x := 0) (by decide +kernel) rfl (x_nc_le (by decide)) ?_
        refine x_iload (np := 58) (x := 1) (by decide +kernel) rfl (by decide) ?_
        refine x_cV (t := 8) (mj := 275) (n := 2) (rc := 13) (ml := 8) (nr := 0) (np := 61) (as := [x_r 63, iv_c 2147483650]) (rest := []) (lo1 := [x_r 63, iv_c 2147483650, 147573952589676412928, 147573952589676412928, 147573952589676412928, 147573952589676412928, 147573952589676412928, 147573952589676412928]) (by decide +kernel) (by decide) (by decide +kernel) (x_rb_of (by decide +kernel)) rfl rfl (x_wr (by decide) (x_wi (by decide) x_wn)) x_wn (by decide) rfl (c275_63_c2 j16  ) (fun h32 q31 => ?_)
        obtain ⟨j33, f34⟩ := q31
        have f37 := Fr.trans f19 f34 (by decide)
        refine x_retV (np := 62) (x := 0) (by decide +kernel) (by decide +kernel) ⟨rfl, ?_⟩
        exact ⟨j33, f37⟩
      have q23 : ¬ (2147483649 ≠ 2147483648) := q23
      exfalso; omega
    have q21 : ¬ (v12 ≠ 2147483648) := q21
    refine x_aload (np := 8) (x := 0) (by decide +kernel) rfl (x_nc_le (by decide)) ?_
    refine x_cI (t := 6) (mj := 58) (n := 1) (rc := 5) (ml := 4) (nr := 0) (np := 11) (as := [x_r 63]) (rest := []) (lo1 := [x_r 63, 147573952589676412928, 147573952589676412928, 147573952589676412928]) (by decide +kernel) (by decide) (by decide +kernel) (x_rb_of (by decide +kernel)) rfl rfl (x_wr (by decide) x_wn) x_wn (by decide) rfl (c58_63 j16 ) (fun v38 h41 l39 q40 => ?_)
    obtain ⟨j42, f43, b44⟩ := q40
    have f45 := Fr.trans f19 f43 (by decide)
    refine x_ifz (k := 0) (tg := 18) (np := 14) (by decide +kernel) (by decide) l39 (fun q46 => ?_) (fun q47 => ?_)
    · have q46 : v38 = 2147483648 := q46
      refine x_const (np := 19) (x := 9223372039002259456) (a := 2147483648) (by decide +kernel) (by decide) (by decide) ?_
      refine x_retI (np := 20) (x := 0) (by decide +kernel) (by decide) (Or.inr ⟨by decide +kernel, by first | decide | omega, by first | decide | omega⟩) ⟨_, rfl, (by decide), ?_⟩
      refine x_ifz (k := 1) (tg := 43) (np := 35) (by decide +kernel) (by decide) (by decide) (fun q48 => ?_) (fun q49 => ?_)
      · have q48 : 2147483648 ≠ 2147483648 := q48
        exfalso; omega
      have q49 : ¬ (2147483648 ≠ 2147483648) := q49
      refine x_aload (np := 36) (x := 0) (by decide +kernel) rfl (x_nc_le (by decide)) ?_
      refine x_iload (np := 37) (x := 1) (by decide +kernel) rfl (by decide) ?_
      refine x_cV (t := 8) (mj := 279) (n := 2) (rc := 13) (ml := 4) (nr := 0) (np := 40) (as := [x_r 63, iv_c 2147483650]) (rest := []) (lo1 := [x_r 63, iv_c 2147483650, 147573952589676412928, 147573952589676412928]) (by decide +kernel) (by decide) (by decide +kernel) (x_rb_of (by decide +kernel)) rfl rfl (x_wr (by decide) (x_wi (by decide) x_wn)) x_wn (by decide) rfl (c279_63_c2 j42  ) (fun h53 q52 => ?_)
      obtain ⟨j54, f55⟩ := q52
      have f58 := Fr.trans f45 f55 (by decide)
      refine x_goto (np := 43) (x := 61) (by decide +kernel) ?_
      refine x_retV (np := 62) (x := 0) (by decide +kernel) (by decide +kernel) ⟨rfl, ?_⟩
      exact ⟨j54, f58⟩
    have q47 : ¬ (v38 = 2147483648) := q47
    refine x_const (np := 15) (x := 9223372043297226753) (a := 2147483649) (by decide +kernel) (by decide) (by decide) ?_
    refine x_goto (np := 18) (x := 19) (by decide +kernel) ?_
    refine x_retI (np := 20) (x := 0) (by decide +kernel) (by decide) (Or.inr ⟨by decide +kernel, by first | decide | omega, by first | decide | omega⟩) ⟨_, rfl, (by decide), ?_⟩
    refine x_ifz (k := 1) (tg := 43) (np := 35) (by decide +kernel) (by decide) (by decide) (fun q59 => ?_) (fun q60 => ?_)
    · have q59 : 2147483649 ≠ 2147483648 := q59
      refine x_iload (np := 44) (x := 1) (by decide +kernel) rfl (by decide) ?_
      refine x_aload (np := 45) (x := 0) (by decide +kernel) rfl (x_nc_le (by decide)) ?_
      refine x_getC (np := 48) (x := 784) (f := 16) (q := (h41 63 16)) (by decide +kernel) (by decide) (by decide +kernel) rfl (fun l61 => ?_)
      refine x_icmp (k := 3) (tg := 61) (np := 51) (by decide +kernel) (by decide) (by decide) l61 (fun q62 => ?_) (fun q63 => ?_)
      · have q62 : (h41 63 16) ≤ 2147483650 := q62
        refine x_retV (np := 62) (x := 0) (by decide +kernel) (by decide +kernel) ⟨rfl, ?_⟩
        exact ⟨j42, f45⟩
      have q63 : ¬ ((h41 63 16) ≤ 2147483650) := q63
      refine x_iload (np := 52) (x := 1) (by decide +kernel) rfl (by decide) ?_
      refine x_const (np := 53) (x := 9223372060477095941) (a := 2147483653) (by decide +kernel) (by decide) (by decide) ?_
      refine x_icmp (k := 3) (tg := 61) (np := 56) (by decide +kernel) (by decide) (by decide) (by decide) (fun q64 => ?_) (fun q65 => ?_)
      · have q64 : 2147483653 ≤ 2147483650 := q64
        exfalso; omega
      have q65 : ¬ (2147483653 ≤ 2147483650) := q65
      refine x_aload (np := 57) (x := 0) (by decide +kernel) rfl (x_nc_le (by decide)) ?_
      refine x_iload (np := 58) (x := 1) (by decide +kernel) rfl (by decide) ?_
      refine x_cV (t := 8) (mj := 275) (n := 2) (rc := 13) (ml := 8) (nr := 0) (np := 61) (as := [x_r 63, iv_c 2147483650]) (rest := []) (lo1 := [x_r 63, iv_c 2147483650, 147573952589676412928, 147573952589676412928, 147573952589676412928, 147573952589676412928, 147573952589676412928, 147573952589676412928]) (by decide +kernel) (by decide) (by decide +kernel) (x_rb_of (by decide +kernel)) rfl rfl (x_wr (by decide) (x_wi (by decide) x_wn)) x_wn (by decide) rfl (c275_63_c2 j42  ) (fun h69 q68 => ?_)
      obtain ⟨j70, f71⟩ := q68
      have f74 := Fr.trans f45 f71 (by decide)
      refine x_retV (np := 62) (x := 0) (by decide +kernel) (by decide +kernel) ⟨rfl, ?_⟩
      exact ⟨j70, f74⟩
    have q60 : ¬ (2147483649 ≠ 2147483648) := q60
    exfalso; omega
  have q11 : ¬ (v2 ≤ 2147503648) := q11
  refine x_aload (np := 21) (x := 0) (by decide +kernel) rfl (x_nc_le (by decide)) ?_
  refine x_const (np := 22) (x := 9223372043297226753) (a := 2147483649) (by decide +kernel) (by decide) (by decide) ?_
  refine x_putI (np := 25) (x := 4873) (f := 9) (by decide +kernel) (by decide +kernel) (by decide) (Or.inr ⟨by decide, by first | decide | omega, by first | decide | omega⟩) ?_
  have j76 := jU (e := 9) (v := 2147483649) 0 j5 rg_63_9_0_1 (by first | decide | omega) (by first | decide | omega) (by first | decide | omega)
  have f78 := jF (e := 9) (v := 2147483649) 0 f7 rg_63_9_0_1 (by first | decide | omega) (by first | decide | omega) (by decide)
  generalize e77 : x_up h4 63 9 2147483649 = h75 at j76 f78 ⊢
  refine x_goto (np := 28) (x := 61) (by decide +kernel) ?_
  refine x_retV (np := 62) (x := 0) (by decide +kernel) (by decide +kernel) ⟨rfl, ?_⟩
  exact ⟨j76, f78⟩
set_option maxHeartbeats 0 in
/-- LentNames$Search.tryLoan(IIIII)V -/
theorem c277_63_c1 {sc : Nat × Nat} {d a2 a3 a4 a5 : Nat} {h : xh} (hJ : J h) (ba2 : 2147483648 ≤ a2 ∧ a2 ≤ 2147483653) (ba3 : 2147483648 ≤ a3 ∧ a3 ≤ 2147483653) (ba4 : 2147483648 ≤ a4 ∧ a4 ≤ 2147483659) (ba5 : 2147483648 ≤ a5 ∧ a5 ≤ 2147483659) : X sc 277 (d + 16) (xV fun h' => J h' ∧ Fr 32769 h h') 0 0 0 [x_r 63, iv_c 2147483649, iv_c a2, iv_c a3, iv_c a4, iv_c a5, 147573952589676412928] [] h := by
  have la2 : a2 < 4294967296 := by first | decide | omega
  have la3 : a3 < 4294967296 := by first | decide | omega
  have la4 : a4 < 4294967296 := by first | decide | omega
  have la5 : a5 < 4294967296 := by first | decide | omega
  have hF := Fr.refl 32769 h
  refine x_const (np := 1) (x := 9223372043297226753) (a := 2147483649) (by decide +kernel) (by decide) (by decide) ?_
  refine x_iload (np := 3) (x := 5) (by decide +kernel) rfl la5 ?_
  refine x_const (np := 4) (x := 9223372043297226753) (a := 2147483649) (by decide +kernel) (by decide) (by decide) ?_
  refine x_iadd (np := 5) (x := 0) (v := (1 + a5)) (by decide +kernel) la5 (by decide) (by first | decide | omega) (by first | decide | omega) ?_
  refine x_any (np := 6) (k9 := 3) (by decide +kernel) (by decide) (by decide) (by first | decide | omega) (fun v1 l2 => ?_)
  refine x_const (np := 7) (x := 9223372043297226753) (a := 2147483649) (by decide +kernel) (by decide) (by decide) ?_
  refine x_iload (np := 9) (x := 4) (by decide +kernel) rfl la4 ?_
  refine x_any (np := 10) (k9 := 3) (by decide +kernel) (by decide) (by decide) la4 (fun v3 l4 => ?_)
  refine x_subA (by rw [tb_b277]; decide +kernel) l2 l4 (fun v5 l6 => ?_)
  refine x_istore (np := 13) (x := 6) (lo' := [x_r 63, iv_c 2147483649, iv_c a2, iv_c a3, iv_c a4, iv_c a5, iv_c v5]) (by decide +kernel) l6 (Nat.le_of_ble_eq_true rfl) rfl ?_
  refine x_aload (np := 14) (x := 0) (by decide +kernel) rfl (x_nc_le (by decide)) ?_
  have q7 : h 63 3 = 67 := by have z := jB (e := 3) 0 hJ rg_63_3_0_1 (by decide) (by decide); omega
  refine x_getR (np := 17) (x := 771) (f := 3) (q := 67) (by decide +kernel) (by decide) (by decide +kernel) q7 ?_
  refine x_iload (np := 18) (x := 1) (by decide +kernel) rfl (by decide) ?_
  refine x_const (np := 21) (x := 9223414988675229456) (a := 2147493648) (by decide +kernel) (by decide) (by decide) ?_
  refine x_iload (np := 22) (x := 2) (by decide +kernel) rfl la2 ?_
  obtain ⟨u8, q9⟩ : ∃ z, a2 = 2147483648 + z := ⟨a2 - 2147483648, by first | decide | omega⟩
  refine x_imul (np := 23) (x := 0) (i := 10000) (j := u8) (v := (2147483648 + 10000 * u8)) (by decide +kernel) (by first | decide | omega) (by first | decide | omega) (by first | decide | omega) (by first | decide | omega) (by decide) la2 ?_
  refine x_const (np := 26) (x := 9223376333969556456) (a := 2147484648) (by decide +kernel) (by decide) (by decide) ?_
  refine x_iload (np := 27) (x := 3) (by decide +kernel) rfl la3 ?_
  obtain ⟨u11, q12⟩ : ∃ z, a3 = 2147483648 + z := ⟨a3 - 2147483648, by first | decide | omega⟩
  refine x_imul (np := 28) (x := 0) (i := 1000) (j := u11) (v := (2147483648 + 1000 * u11)) (by decide +kernel) (by first | decide | omega) (by first | decide | omega) (by first | decide | omega) (by first | decide | omega) (by decide) la3 ?_
  refine x_iadd (np := 29) (x := 0) (v := (2147483648 + 10000 * u8 + 1000 * u11)) (by decide +kernel) (by first | decide | omega) (by first | decide | omega) (by first | decide | omega) (by first | decide | omega) ?_
  refine x_const (np := 31) (x := 9223372124901605396) (a := 2147483668) (by decide +kernel) (by decide) (by decide) ?_
  refine x_iload (np := 33) (x := 4) (by decide +kernel) rfl la4 ?_
  obtain ⟨u14, q15⟩ : ∃ z, a4 = 2147483648 + z := ⟨a4 - 2147483648, by first | decide | omega⟩
  refine x_imul (np := 34) (x := 0) (i := 20) (j := u14) (v := (2147483648 + 20 * u14)) (by decide +kernel) (by first | decide | omega) (by first | decide | omega) (by first | decide | omega) (by first | decide | omega) (by decide) la4 ?_
  refine x_iadd (np := 35) (x := 0) (v := (2147483648 + 10000 * u8 + 1000 * u11 + 20 * u14)) (by decide +kernel) (by first | decide | omega) (by first | decide | omega) (by first | decide | omega) (by first | decide | omega) ?_
  refine x_iload (np := 37) (x := 5) (by decide +kernel) rfl la5 ?_
  refine x_iadd (np := 38) (x := 0) (v := (10000 * u8 + 1000 * u11 + 20 * u14 + a5)) (by decide +kernel) (by first | decide | omega) la5 (by first | decide | omega) (by first | decide | omega) ?_
  refine x_ast (np := 39) (x := 0) (kd := 1) (n := 5) (i := 1) (by decide +kernel) (Or.inl rfl) (by decide +kernel) (by first | decide | omega) (by first | decide | omega) (by decide) (by first | decide | omega) (fun z => absurd z (by decide)) ?_
  have j18 := jU (e := 1) (v := (10000 * u8 + 1000 * u11 + 20 * u14 + a5)) 1 hJ rg_67_0_1_5 (by first | decide | omega) (by first | decide | omega) (by first | decide | omega)
  have f20 := jF (e := 1) (v := (10000 * u8 + 1000 * u11 + 20 * u14 + a5)) 1 hF rg_67_0_1_5 (by first | decide | omega) (by first | decide | omega) (by decide)
  generalize e19 : x_up h 67 1 (10000 * u8 + 1000 * u11 + 20 * u14 + a5) = h17 at j18 f20 ⊢
  refine x_aload (np := 40) (x := 0) (by decide +kernel) rfl (x_nc_le (by decide)) ?_
  refine x_iload (np := 41) (x := 2) (by decide +kernel) rfl la2 ?_
  refine x_iload (np := 42) (x := 3) (by decide +kernel) rfl la3 ?_
  refine x_iload (np := 44) (x := 6) (by decide +kernel) rfl l6 ?_
  refine x_cV (t := 8) (mj := 280) (n := 4) (rc := 13) (ml := 5) (nr := 0) (np := 47) (as := [x_r 63, iv_c a2, iv_c a3, iv_c v5]) (rest := []) (lo1 := [x_r 63, iv_c a2, iv_c a3, iv_c v5, 147573952589676412928]) (by decide +kernel) (by decide) (by decide +kernel) (x_rb_of (by decide +kernel)) rfl rfl (x_wr (by decide) (x_wi la2 (x_wi la3 (x_wi l6 x_wn)))) x_wn (by decide) rfl (c280_63 j18  (by first | decide | omega) (by first | decide | omega) (by first | decide | omega)) (fun h24 q23 => ?_)
  obtain ⟨j25, f26⟩ := q23
  have f29 := Fr.trans f20 f26 (by decide)
  refine x_aload (np := 48) (x := 0) (by decide +kernel) rfl (x_nc_le (by decide)) ?_
  refine x_iload (np := 49) (x := 1) (by decide +kernel) rfl (by decide) ?_
  refine x_const (np := 50) (x := 9223372043297226753) (a := 2147483649) (by decide +kernel) (by decide) (by decide) ?_
  refine x_iadd (np := 51) (x := 0) (v := 2147483650) (by decide +kernel) (by decide) (by decide) (by first | decide | omega) (by first | decide | omega) ?_
  refine x_cV (t := 8) (mj := 274) (n := 2) (rc := 13) (ml := 2) (nr := 0) (np := 54) (as := [x_r 63, iv_c 2147483650]) (rest := []) (lo1 := [x_r 63, iv_c 2147483650]) (by decide +kernel) (by decide) (by decide +kernel) (x_rb_of (by decide +kernel)) rfl rfl (x_wr (by decide) (x_wi (by decide) x_wn)) x_wn (by decide) rfl (c274_63_c2 j25  ) (fun h33 q32 => ?_)
  obtain ⟨j34, f35⟩ := q32
  have f38 := Fr.trans f29 f35 (by decide)
  refine x_aload (np := 55) (x := 0) (by decide +kernel) rfl (x_nc_le (by decide)) ?_
  refine x_iload (np := 56) (x := 2) (by decide +kernel) rfl la2 ?_
  refine x_iload (np := 58) (x := 6) (by decide +kernel) rfl l6 ?_
  refine x_cV (t := 8) (mj := 281) (n := 3) (rc := 13) (ml := 5) (nr := 0) (np := 61) (as := [x_r 63, iv_c a2, iv_c v5]) (rest := []) (lo1 := [x_r 63, iv_c a2, iv_c v5, 147573952589676412928, 147573952589676412928]) (by decide +kernel) (by decide) (by decide +kernel) (x_rb_of (by decide +kernel)) rfl rfl (x_wr (by decide) (x_wi la2 (x_wi l6 x_wn))) x_wn (by decide) rfl (c281_63 j34  (by first | decide | omega) (by first | decide | omega)) (fun h42 q41 => ?_)
  obtain ⟨j43, f44⟩ := q41
  have f47 := Fr.trans f38 f44 (by decide)
  refine x_retV (np := 62) (x := 0) (by decide +kernel) (by decide +kernel) ⟨rfl, ?_⟩
  exact ⟨j43, f47⟩
set_option maxHeartbeats 0 in
/-- LentNames$Search.tryLoans(IIIII)V -/
theorem c276_63_c1 {sc : Nat × Nat} {d a2 a3 a4 a5 : Nat} {h : xh} (hJ : J h) (ba2 : 2147483648 ≤ a2 ∧ a2 ≤ 2147483653) (ba3 : 2147483648 ≤ a3 ∧ a3 ≤ 2147483653) (ba4 : 0 ≤ a4 ∧ a4 ≤ 4294967295) (ba5 : 0 ≤ a5 ∧ a5 ≤ 4294967295) : X sc 276 (d + 17) (xV fun h' => J h' ∧ Fr 32769 h h') 0 0 0 [x_r 63, iv_c 2147483649, iv_c a2, iv_c a3, iv_c a4, iv_c a5, 147573952589676412928, 147573952589676412928, 147573952589676412928, 147573952589676412928] [] h := by
  have la2 : a2 < 4294967296 := by first | decide | omega
  have la3 : a3 < 4294967296 := by first | decide | omega
  have la4 : a4 < 4294967296 := by first | decide | omega
  have la5 : a5 < 4294967296 := by first | decide | omega
  have hF := Fr.refl 32769 h
  refine x_aload (np := 1) (x := 0) (by decide +kernel) rfl (x_nc_le (by decide)) ?_
  have q1 : h 63 5 = 45 := by have z := jB (e := 5) 0 hJ rg_63_5_0_1 (by decide) (by decide); omega
  refine x_getR (np := 4) (x := 773) (f := 5) (q := 45) (by decide +kernel) (by decide) (by decide +kernel) q1 ?_
  have q2 : h 45 0 = 46 := by have z := jB (e := 0) 0 hJ rg_45_0_0_1 (by decide) (by decide); omega
  refine x_getR (np := 7) (x := 64) (f := 0) (q := 46) (by decide +kernel) (by decide) (by decide +kernel) q2 ?_
  refine x_iload (np := 8) (x := 3) (by decide +kernel) rfl la3 ?_
  obtain ⟨u3, q4⟩ : ∃ z, a3 = 2147483648 + z := ⟨a3 - 2147483648, by first | decide | omega⟩
  refine x_aldC (np := 9) (x := 0) (n := 6) (i := u3) (q := (h 46 u3)) (by decide +kernel) (by decide +kernel) (by first | decide | omega) (by first | decide | omega) (by decide) rfl (fun l5 => ?_)
  refine x_aload (np := 10) (x := 0) (by decide +kernel) rfl (x_nc_le (by decide)) ?_
  have q6 : h 63 5 = 45 := by have z := jB (e := 5) 0 hJ rg_63_5_0_1 (by decide) (by decide); omega
  refine x_getR (np := 13) (x := 773) (f := 5) (q := 45) (by decide +kernel) (by decide) (by decide +kernel) q6 ?_
  have q7 : h 45 1 = 47 := by have z := jB (e := 1) 0 hJ rg_45_1_0_1 (by decide) (by decide); omega
  refine x_getR (np := 16) (x := 65) (f := 1) (q := 47) (by decide +kernel) (by decide) (by decide +kernel) q7 ?_
  refine x_iload (np := 17) (x := 2) (by decide +kernel) rfl la2 ?_
  refine x_iload (np := 18) (x := 3) (by decide +kernel) rfl la3 ?_
  refine x_nI (t := 7) (mj := 149) (n := 2) (rc := 0) (ml := 2) (nr := 2) (np := 21) (as := [iv_c a2, iv_c a3]) (rest := [x_r 47, iv_c (h 46 u3)]) (lo1 := [iv_c a2, iv_c a3]) (by decide +kernel) (by decide) (by decide +kernel) (Or.inl rfl) rfl rfl (x_wi la2 (x_wi la3 x_wn)) (x_wr (by decide) (x_wi l5 x_wn)) (by decide) rfl ?_
  refine x_iload (np := 1) (x := 0) (by decide +kernel) rfl la2 ?_
  refine x_const (np := 3) (x := 9223372064772063238) (a := 2147483654) (by decide +kernel) (by decide) (by decide) ?_
  obtain ⟨u8, q9⟩ : ∃ z, a2 = 2147483648 + z := ⟨a2 - 2147483648, by first | decide | omega⟩
  refine x_imul (np := 4) (x := 0) (i := u8) (j := 6) (v := (2147483648 + 6 * u8)) (by decide +kernel) (by first | decide | omega) (by first | decide | omega) (by first | decide | omega) (by first | decide | omega) la2 (by decide) ?_
  refine x_iload (np := 5) (x := 1) (by decide +kernel) rfl la3 ?_
  refine x_iadd (np := 6) (x := 0) (v := (6 * u8 + a3)) (by decide +kernel) (by first | decide | omega) la3 (by first | decide | omega) (by first | decide | omega) ?_
  refine x_retI (np := 7) (x := 0) (by decide +kernel) (by first | decide | omega) (Or.inl (by decide +kernel)) ⟨_, rfl, (by first | decide | omega), ?_⟩
  refine x_aldC (np := 22) (x := 0) (n := 36) (i := (6 * u8 + u3)) (q := ((h 47 (6 * u8 + u3)))) (by decide +kernel) (by decide +kernel) (by first | decide | omega) (by first | decide | omega) (by decide) rfl (fun l11 => ?_)
  refine x_const (np := 23) (x := 9223372034707292159) (a := 2147483647) (by decide +kernel) (by decide) (by decide) ?_
  refine x_any (np := 24) (k9 := 2) (by decide +kernel) (by decide) l11 (by decide) (fun v12 l13 => ?_)
  refine x_any (np := 25) (k9 := 0) (by decide +kernel) (by decide) l5 l13 (fun v14 l15 => ?_)
  refine x_aload (np := 26) (x := 0) (by decide +kernel) rfl (x_nc_le (by decide)) ?_
  have q16 : h 63 2 = 66 := by have z := jB (e := 2) 0 hJ rg_63_2_0_1 (by decide) (by decide); omega
  refine x_getR (np := 29) (x := 770) (f := 2) (q := 66) (by decide +kernel) (by decide) (by decide +kernel) q16 ?_
  refine x_iload (np := 30) (x := 2) (by decide +kernel) rfl la2 ?_
  refine x_aldC (np := 31) (x := 0) (n := 6) (i := u8) (q := (h 66 u8)) (by decide +kernel) (by decide +kernel) (by first | decide | omega) (by first | decide | omega) (by decide) rfl (fun l17 => ?_)
  refine x_const (np := 32) (x := 9223372034707292159) (a := 2147483647) (by decide +kernel) (by decide) (by decide) ?_
  refine x_any (np := 33) (k9 := 2) (by decide +kernel) (by decide) l17 (by decide) (fun v18 l19 => ?_)
  refine x_any (np := 34) (k9 := 0) (by decide +kernel) (by decide) l15 l19 (fun v20 l21 => ?_)
  refine x_istore (np := 36) (x := 6) (lo' := [x_r 63, iv_c 2147483649, iv_c a2, iv_c a3, iv_c a4, iv_c a5, iv_c v20, 147573952589676412928, 147573952589676412928, 147573952589676412928]) (by decide +kernel) l21 (Nat.le_of_ble_eq_true rfl) rfl ?_
  refine x_aload (np := 37) (x := 0) (by decide +kernel) rfl (x_nc_le (by decide)) ?_
  have q22 : h 63 1 = 65 := by have z := jB (e := 1) 0 hJ rg_63_1_0_1 (by decide) (by decide); omega
  refine x_getR (np := 40) (x := 769) (f := 1) (q := 65) (by decide +kernel) (by decide) (by decide +kernel) q22 ?_
  refine x_iload (np := 41) (x := 2) (by decide +kernel) rfl la2 ?_
  refine x_aldC (np := 42) (x := 0) (n := 6) (i := u8) (q := (h 65 u8)) (by decide +kernel) (by decide +kernel) (by first | decide | omega) (by first | decide | omega) (by decide) rfl (fun l23 => ?_)
  refine x_iload (np := 44) (x := 6) (by decide +kernel) rfl l21 ?_
  refine x_any (np := 45) (k9 := 0) (by decide +kernel) (by decide) l23 l21 (fun v24 l25 => ?_)
  refine x_istore (np := 47) (x := 7) (lo' := [x_r 63, iv_c 2147483649, iv_c a2, iv_c a3, iv_c a4, iv_c a5, iv_c v20, iv_c v24, 147573952589676412928, 147573952589676412928]) (by decide +kernel) l25 (Nat.le_of_ble_eq_true rfl) rfl ?_
  refine x_const (np := 48) (x := 9223372039002259456) (a := 2147483648) (by decide +kernel) (by decide) (by decide) ?_
  refine x_istore (np := 50) (x := 8) (lo' := [x_r 63, iv_c 2147483649, iv_c a2, iv_c a3, iv_c a4, iv_c a5, iv_c v20, iv_c v24, iv_c 2147483648, 147573952589676412928]) (by decide +kernel) (by decide) (Nat.le_of_ble_eq_true rfl) rfl ?_
  have p3726 : ∀ (n : Nat) (v3720 : Nat) (w3722 : Nat) (h3723 : xh), 4294967296 - v3720 < n → (2147483648 ≤ v3720 ∧ v3720 ≤ 2147483660) → J h3723 → Fr 32769 h h3723 → X sc 276 (d + 17) (xV fun h' => J h' ∧ Fr 32769 h h') 0 0 50 [x_r 63, iv_c 2147483649, iv_c a2, iv_c a3, iv_c a4, iv_c a5, iv_c v20, iv_c v24, iv_c v3720, w3722] [] h3723 := by
    intro n
    induction n with
    | zero => intro v3720 w3722 h3723 q3727; exact absurd q3727 (Nat.not_lt_zero _)
    | succ n i3728 =>
      intro v3720 w3722 h3723 q3727 b3721 j3725 f3724
      have f3729 := Fr.trans hF f3724 (by decide)
      refine x_iload (np := 52) (x := 8) (by decide +kernel) rfl (by first | decide | omega) ?_
      refine x_iload (np := 54) (x := 5) (by decide +kernel) rfl la5 ?_
      refine x_icmp (k := 4) (tg := 145) (np := 57) (by decide +kernel) (by decide) (by first | decide | omega) la5 (fun q3730 => ?_) (fun q3731 => ?_)
      · have q3730 : a5 < v3720 := q3730
        refine x_retV (np := 146) (x := 0) (by decide +kernel) (by decide +kernel) ⟨rfl, ?_⟩
        exact ⟨j3725, f3729⟩
      have q3731 : ¬ (a5 < v3720) := q3731
      refine x_iload (np := 59) (x := 8) (by decide +kernel) rfl (by first | decide | omega) ?_
      refine x_const (np := 61) (x := 9223372090541867020) (a := 2147483660) (by decide +kernel) (by decide) (by decide) ?_
      refine x_icmp (k := 3) (tg := 145) (np := 64) (by decide +kernel) (by decide) (by first | decide | omega) (by decide) (fun q3732 => ?_) (fun q3733 => ?_)
      · have q3732 : 2147483660 ≤ v3720 := q3732
        refine x_retV (np := 146) (x := 0) (by decide +kernel) (by decide +kernel) ⟨rfl, ?_⟩
        exact ⟨j3725, f3729⟩
      have q3733 : ¬ (2147483660 ≤ v3720) := q3733
      refine x_iload (np := 66) (x := 7) (by decide +kernel) rfl l25 ?_
      refine x_iload (np := 68) (x := 8) (by decide +kernel) rfl (by first | decide | omega) ?_
      refine x_cP (t := 7) (mj := 148) (n := 2) (rc := 0) (ml := 2) (nr := 0) (np := 71) (as := [iv_c v24, iv_c v3720]) (rest := []) (lo1 := [iv_c v24, iv_c v3720]) (by decide +kernel) (by decide) (by decide +kernel) (Or.inl rfl) rfl rfl (x_wi l25 (x_wi (by first | decide | omega) x_wn)) x_wn (by decide) rfl (c148 j3725 (by first | decide | omega) (by first | decide | omega)) (fun v3734 l3735 q3736 => ?_)
      refine x_ifz (k := 1) (tg := 77) (np := 74) (by decide +kernel) (by decide) l3735 (fun q3737 => ?_) (fun q3738 => ?_)
      · have q3737 : v3734 ≠ 2147483648 := q3737
        refine x_iload (np := 79) (x := 8) (by decide +kernel) rfl (by first | decide | omega) ?_
        refine x_istore (np := 81) (x := 9) (lo' := [x_r 63, iv_c 2147483649, iv_c a2, iv_c a3, iv_c a4, iv_c a5, iv_c v20, iv_c v24, iv_c v3720, iv_c v3720]) (by decide +kernel) (by first | decide | omega) (Nat.le_of_ble_eq_true rfl) rfl ?_
        have p3831 : ∀ (n : Nat) (v3826 : Nat) (h3828 : xh), 4294967296 - v3826 < n → (2147483648 ≤ v3826 ∧ v3826 ≤ 2147483660) → J h3828 → Fr 32769 h3723 h3828 → X sc 276 (d + 17) (xV fun h' => J h' ∧ Fr 32769 h h') 0 0 81 [x_r 63, iv_c 2147483649, iv_c a2, iv_c a3, iv_c a4, iv_c a5, iv_c v20, iv_c v24, iv_c v3720, iv_c v3826] [] h3828 := by
          intro n
          induction n with
          | zero => intro v3826 h3828 q3832; exact absurd q3832 (Nat.not_lt_zero _)
          | succ n i3833 =>
            intro v3826 h3828 q3832 b3827 j3830 f3829
            have f3834 := Fr.trans f3729 f3829 (by decide)
            have f3835 := Fr.trans f3724 f3829 (by decide)
            refine x_iload (np := 83) (x := 9) (by decide +kernel) rfl (by first | decide | omega) ?_
            refine x_const (np := 85) (x := 9223372090541867020) (a := 2147483660) (by decide +kernel) (by decide) (by decide) ?_
            refine x_icmp (k := 3) (tg := 139) (np := 88) (by decide +kernel) (by decide) (by first | decide | omega) (by decide) (fun q3836 => ?_) (fun q3837 => ?_)
            · have q3836 : 2147483660 ≤ v3826 := q3836
              refine x_iinc (np := 142) (i := 8) (j := 2147483649) (v := (1 + v3720)) (lo' := [x_r 63, iv_c 2147483649, iv_c a2, iv_c a3, iv_c a4, iv_c a5, iv_c v20, iv_c v24, iv_c (1 + v3720), iv_c v3826]) (by decide +kernel) (by decide) (by decide) rfl (by first | decide | omega) (by first | decide | omega) (by first | decide | omega) rfl ?_
              refine x_goto (np := 145) (x := 50) (by decide +kernel) ?_
              exact i3728 (1 + v3720) (iv_c v3826) h3828 (by first | decide | omega) (by first | decide | omega) j3830 f3835
            have q3837 : ¬ (2147483660 ≤ v3826) := q3837
            refine x_iload (np := 90) (x := 6) (by decide +kernel) rfl l21 ?_
            refine x_iload (np := 92) (x := 9) (by decide +kernel) rfl (by first | decide | omega) ?_
            refine x_cP (t := 7) (mj := 148) (n := 2) (rc := 0) (ml := 2) (nr := 0) (np := 95) (as := [iv_c v20, iv_c v3826]) (rest := []) (lo1 := [iv_c v20, iv_c v3826]) (by decide +kernel) (by decide) (by decide +kernel) (Or.inl rfl) rfl rfl (x_wi l21 (x_wi (by first | decide | omega) x_wn)) x_wn (by decide) rfl (c148 j3830 (by first | decide | omega) (by first | decide | omega)) (fun v3838 l3839 q3840 => ?_)
            refine x_ifz (k := 0) (tg := 139) (np := 98) (by decide +kernel) (by decide) l3839 (fun q3841 => ?_) (fun q3842 => ?_)
            · have q3841 : v3838 = 2147483648 := q3841
              refine x_iinc (np := 142) (i := 8) (j := 2147483649) (v := (1 + v3720)) (lo' := [x_r 63, iv_c 2147483649, iv_c a2, iv_c a3, iv_c a4, iv_c a5, iv_c v20, iv_c v24, iv_c (1 + v3720), iv_c v3826]) (by decide +kernel) (by decide) (by decide) rfl (by first | decide | omega) (by first | decide | omega) (by first | decide | omega) rfl ?_
              refine x_goto (np := 145) (x := 50) (by decide +kernel) ?_
              exact i3728 (1 + v3720) (iv_c v3826) h3828 (by first | decide | omega) (by first | decide | omega) j3830 f3835
            have q3842 : ¬ (v3838 = 2147483648) := q3842
            refine x_aload (np := 99) (x := 0) (by decide +kernel) rfl (x_nc_le (by decide)) ?_
            refine x_nI (t := 8) (mj := 278) (n := 1) (rc := 13) (ml := 1) (nr := 0) (np := 102) (as := [x_r 63]) (rest := []) (lo1 := [x_r 63]) (by decide +kernel) (by decide) (by decide +kernel) (x_rb_of (by decide +kernel)) rfl rfl (x_wr (by decide) x_wn) x_wn (by decide) rfl ?_
            refine x_aload (np := 1) (x := 0) (by decide +kernel) rfl (x_nc_le (by decide)) ?_
            have b3843 := jB (e := 9) 0 j3830 rg_63_9_0_1 (by first | decide | omega) (by first | decide | omega)
            refine x_getC (np := 4) (x := 777) (f := 9) (q := (h3828 63 9)) (by decide +kernel) (by decide) (by decide +kernel) rfl (fun l3844 => ?_)
            refine x_ifz (k := 1) (tg := 21) (np := 7) (by decide +kernel) (by decide) l3844 (fun q3845 => ?_) (fun q3846 => ?_)
            · have q3845 : (h3828 63 9) ≠ 2147483648 := q3845
              refine x_const (np := 22) (x := 9223372043297226753) (a := 2147483649) (by decide +kernel) (by decide) (by decide) ?_
              refine x_goto (np := 25) (x := 26) (by decide +kernel) ?_
              refine x_retI (np := 27) (x := 0) (by decide +kernel) (by decide) (Or.inr ⟨by decide +kernel, by first | decide | omega, by first | decide | omega⟩) ⟨_, rfl, (by decide), ?_⟩
              refine x_ifz (k := 1) (tg := 139) (np := 105) (by decide +kernel) (by decide) (by decide) (fun q3847 => ?_) (fun q3848 => ?_)
              · have q3847 : 2147483649 ≠ 2147483648 := q3847
                refine x_iinc (np := 142) (i := 8) (j := 2147483649) (v := (1 + v3720)) (lo' := [x_r 63, iv_c 2147483649, iv_c a2, iv_c a3, iv_c a4, iv_c a5, iv_c v20, iv_c v24, iv_c (1 + v3720), iv_c v3826]) (by decide +kernel) (by decide) (by decide) rfl (by first | decide | omega) (by first | decide | omega) (by first | decide | omega) rfl ?_
                refine x_goto (np := 145) (x := 50) (by decide +kernel) ?_
                exact i3728 (1 + v3720) (iv_c v3826) h3828 (by first | decide | omega) (by first | decide | omega) j3830 f3835
              have q3848 : ¬ (2147483649 ≠ 2147483648) := q3848
              exfalso; omega
            have q3846 : ¬ ((h3828 63 9) ≠ 2147483648) := q3846
            refine x_aload (np := 8) (x := 0) (by decide +kernel) rfl (x_nc_le (by decide)) ?_
            refine x_getC (np := 11) (x := 776) (f := 8) (q := (h3828 63 8)) (by decide +kernel) (by decide) (by decide +kernel) rfl (fun l3849 => ?_)
            refine x_ifz (k := 5) (tg := 25) (np := 14) (by decide +kernel) (by decide) l3849 (fun q3850 => ?_) (fun q3851 => ?_)
            · have q3850 : (h3828 63 8) ≤ 2147483648 := q3850
              refine x_const (np := 26) (x := 9223372039002259456) (a := 2147483648) (by decide +kernel) (by decide) (by decide) ?_
              refine x_retI (np := 27) (x := 0) (by decide +kernel) (by decide) (Or.inr ⟨by decide +kernel, by first | decide | omega, by first | decide | omega⟩) ⟨_, rfl, (by decide), ?_⟩
              refine x_ifz (k := 1) (tg := 139) (np := 105) (by decide +kernel) (by decide) (by decide) (fun q3852 => ?_) (fun q3853 => ?_)
              · have q3852 : 2147483648 ≠ 2147483648 := q3852
                exfalso; omega
              have q3853 : ¬ (2147483648 ≠ 2147483648) := q3853
              refine x_iload (np := 107) (x := 9) (by decide +kernel) rfl (by first | decide | omega) ?_
              refine x_iload (np := 109) (x := 4) (by decide +kernel) rfl la4 ?_
              refine x_icmp (k := 2) (tg := 133) (np := 112) (by decide +kernel) (by decide) (by first | decide | omega) la4 (fun q3854 => ?_) (fun q3855 => ?_)
              · have q3854 : v3826 < a4 := q3854
                refine x_iinc (np := 136) (i := 9) (j := 2147483649) (v := (1 + v3826)) (lo' := [x_r 63, iv_c 2147483649, iv_c a2, iv_c a3, iv_c a4, iv_c a5, iv_c v20, iv_c v24, iv_c v3720, iv_c (1 + v3826)]) (by decide +kernel) (by decide) (by decide) rfl (by first | decide | omega) (by first | decide | omega) (by first | decide | omega) rfl ?_
                refine x_goto (np := 139) (x := 81) (by decide +kernel) ?_
                exact i3833 (1 + v3826) h3828 (by first | decide | omega) (by first | decide | omega) j3830 f3829
              have q3855 : ¬ (v3826 < a4) := q3855
              refine x_iload (np := 114) (x := 7) (by decide +kernel) rfl l25 ?_
              refine x_iload (np := 116) (x := 9) (by decide +kernel) rfl (by first | decide | omega) ?_
              refine x_cP (t := 7) (mj := 148) (n := 2) (rc := 0) (ml := 2) (nr := 0) (np := 119) (as := [iv_c v24, iv_c v3826]) (rest := []) (lo1 := [iv_c v24, iv_c v3826]) (by decide +kernel) (by decide) (by decide +kernel) (Or.inl rfl) rfl rfl (x_wi l25 (x_wi (by first | decide | omega) x_wn)) x_wn (by decide) rfl (c148 j3830 (by first | decide | omega) (by first | decide | omega)) (fun v3856 l3857 q3858 => ?_)
              refine x_ifz (k := 0) (tg := 133) (np := 122) (by decide +kernel) (by decide) l3857 (fun q3859 => ?_) (fun q3860 => ?_)
              · have q3859 : v3856 = 2147483648 := q3859
                refine x_iinc (np := 136) (i := 9) (j := 2147483649) (v := (1 + v3826)) (lo' := [x_r 63, iv_c 2147483649, iv_c a2, iv_c a3, iv_c a4, iv_c a5, iv_c v20, iv_c v24, iv_c v3720, iv_c (1 + v3826)]) (by decide +kernel) (by decide) (by decide) rfl (by first | decide | omega) (by first | decide | omega) (by first | decide | omega) rfl ?_
                refine x_goto (np := 139) (x := 81) (by decide +kernel) ?_
                exact i3833 (1 + v3826) h3828 (by first | decide | omega) (by first | decide | omega) j3830 f3829
              have q3860 : ¬ (v3856 = 2147483648) := q3860
              refine x_aload (np := 123) (x := 0) (by decide +kernel) rfl (x_nc_le (by decide)) ?_
              refine x_iload (np := 124) (x := 1) (by decide +kernel) rfl (by decide) ?_
              refine x_iload (np := 125) (x := 2) (by decide +kernel) rfl la2 ?_
              refine x_iload (np := 126) (x := 3) (by decide +kernel) rfl la3 ?_
              refine x_iload (np := 128) (x := 8) (by decide +kernel) rfl (by first | decide | omega) ?_
              refine x_iload (np := 130) (x := 9) (by decide +kernel) rfl (by first | decide | omega) ?_
              refine x_cV (t := 8) (mj := 277) (n := 6) (rc := 13) (ml := 7) (nr := 0) (np := 133) (as := [x_r 63, iv_c 2147483649, iv_c a2, iv_c a3, iv_c v3720, iv_c v3826]) (rest := []) (lo1 := [x_r 63, iv_c 2147483649, iv_c a2, iv_c a3, iv_c v3720, iv_c v3826, 147573952589676412928]) (by decide +kernel) (by decide) (by decide +kernel) (x_rb_of (by decide +kernel)) rfl rfl (x_wr (by decide) (x_wi (by decide) (x_wi la2 (x_wi la3 (x_wi (by first | decide | omega) (x_wi (by first | decide | omega) x_wn)))))) x_wn (by decide) rfl (c277_63_c1 j3830   (by first | decide | omega) (by first | decide | omega) (by first | decide | omega) (by first | decide | omega)) (fun h3864 q3863 => ?_)
              obtain ⟨j3865, f3866⟩ := q3863
              have f3869 := Fr.trans f3834 f3866 (by decide)
              have f3870 := Fr.trans f3835 f3866 (by decide)
              have f3871 := Fr.trans f3829 f3866 (by decide)
              refine x_iinc (np := 136) (i := 9) (j := 2147483649) (v := (1 + v3826)) (lo' := [x_r 63, iv_c 2147483649, iv_c a2, iv_c a3, iv_c a4, iv_c a5, iv_c v20, iv_c v24, iv_c v3720, iv_c (1 + v3826)]) (by decide +kernel) (by decide) (by decide) rfl (by first | decide | omega) (by first | decide | omega) (by first | decide | omega) rfl ?_
              refine x_goto (np := 139) (x := 81) (by decide +kernel) ?_
              exact i3833 (1 + v3826) h3864 (by first | decide | omega) (by first | decide | omega) j3865 f3871
            have q3851 : ¬ ((h3828 63 8) ≤ 2147483648) := q3851
            refine x_aload (np := 15) (x := 0) (by decide +kernel) rfl (x_nc_le (by decide)) ?_
            refine x_vI (P := fun r9 h9 => X sc 278 _ _ 0 0 18 [x_r 63] (iv_c r9 :: []) h9) (np := 18) (x := 5246977) (kk := 1) (cls := 4) (mj := 54) (ml := 1) (nr := 0) (rest := []) (lo1 := [x_r 63]) (by decide +kernel) (by decide) (by decide) (by decide) (by decide +kernel) (by decide +kernel) (by decide) (by decide +kernel) (by decide +kernel) x_wn (by decide) rfl ?_ (fun _ _ _ z => z)
            refine x_const (np := 1) (x := 9223372043297226753) (a := 2147483649) (by decide +kernel) (by decide) (by decide) ?_
            refine x_retI (np := 2) (x := 0) (by decide +kernel) (by decide) (Or.inr ⟨by decide +kernel, by first | decide | omega, by first | decide | omega⟩) ⟨_, rfl, (by decide), ?_⟩
            refine x_ifz (k := 0) (tg := 25) (np := 21) (by decide +kernel) (by decide) (by decide) (fun q3872 => ?_) (fun q3873 => ?_)
            · have q3872 : 2147483649 = 2147483648 := q3872
              exfalso; omega
            have q3873 : ¬ (2147483649 = 2147483648) := q3873
            refine x_const (np := 22) (x := 9223372043297226753) (a := 2147483649) (by decide +kernel) (by decide) (by decide) ?_
            refine x_goto (np := 25) (x := 26) (by decide +kernel) ?_
            refine x_retI (np := 27) (x := 0) (by decide +kernel) (by decide) (Or.inr ⟨by decide +kernel, by first | decide | omega, by first | decide | omega⟩) ⟨_, rfl, (by decide), ?_⟩
            refine x_ifz (k := 1) (tg := 139) (np := 105) (by decide +kernel) (by decide) (by decide) (fun q3874 => ?_) (fun q3875 => ?_)
            · have q3874 : 2147483649 ≠ 2147483648 := q3874
              refine x_iinc (np := 142) (i := 8) (j := 2147483649) (v := (1 + v3720)) (lo' := [x_r 63, iv_c 2147483649, iv_c a2, iv_c a3, iv_c a4, iv_c a5, iv_c v20, iv_c v24, iv_c (1 + v3720), iv_c v3826]) (by decide +kernel) (by decide) (by decide) rfl (by first | decide | omega) (by first | decide | omega) (by first | decide | omega) rfl ?_
              refine x_goto (np := 145) (x := 50) (by decide +kernel) ?_
              exact i3728 (1 + v3720) (iv_c v3826) h3828 (by first | decide | omega) (by first | decide | omega) j3830 f3835
            have q3875 : ¬ (2147483649 ≠ 2147483648) := q3875
            exfalso; omega
        exact p3831 _ v3720 h3723 (Nat.lt_succ_self _) (by first | decide | omega) j3725 (Fr.refl _ _)
      have q3738 : ¬ (v3734 ≠ 2147483648) := q3738
      refine x_goto (np := 77) (x := 139) (by decide +kernel) ?_
      refine x_iinc (np := 142) (i := 8) (j := 2147483649) (v := (1 + v3720)) (lo' := [x_r 63, iv_c 2147483649, iv_c a2, iv_c a3, iv_c a4, iv_c a5, iv_c v20, iv_c v24, iv_c (1 + v3720), w3722]) (by decide +kernel) (by decide) (by decide) rfl (by first | decide | omega) (by first | decide | omega) (by first | decide | omega) rfl ?_
      refine x_goto (np := 145) (x := 50) (by decide +kernel) ?_
      exact i3728 (1 + v3720) w3722 h3723 (by first | decide | omega) (by first | decide | omega) j3725 f3724
  exact p3726 _ 2147483648 147573952589676412928 h (Nat.lt_succ_self _) (by first | decide | omega) hJ (Fr.refl _ _)
set_option maxHeartbeats 0 in
/-- LentNames$Search.mend(I)V -/
theorem c275_63_c1 {sc : Nat × Nat} {d  : Nat} {h : xh} (hJ : J h) : X sc 275 (d + 18) (xV fun h' => J h' ∧ Fr 32769 h h') 0 0 0 [x_r 63, iv_c 2147483649, 147573952589676412928, 147573952589676412928, 147573952589676412928, 147573952589676412928, 147573952589676412928, 147573952589676412928] [] h := by
  have hF := Fr.refl 32769 h
  refine x_aload (np := 1) (x := 0) (by decide +kernel) rfl (x_nc_le (by decide)) ?_
  refine x_getC (np := 4) (x := 778) (f := 10) (q := (h 63 10)) (by decide +kernel) (by decide) (by decide +kernel) rfl (fun l1 => ?_)
  refine x_istore (np := 5) (x := 2) (lo' := [x_r 63, iv_c 2147483649, iv_c (h 63 10), 147573952589676412928, 147573952589676412928, 147573952589676412928, 147573952589676412928, 147573952589676412928]) (by decide +kernel) l1 (Nat.le_of_ble_eq_true rfl) rfl ?_
  refine x_aload (np := 6) (x := 0) (by decide +kernel) rfl (x_nc_le (by decide)) ?_
  refine x_getC (np := 9) (x := 779) (f := 11) (q := (h 63 11)) (by decide +kernel) (by decide) (by decide +kernel) rfl (fun l2 => ?_)
  refine x_istore (np := 10) (x := 3) (lo' := [x_r 63, iv_c 2147483649, iv_c (h 63 10), iv_c (h 63 11), 147573952589676412928, 147573952589676412928, 147573952589676412928, 147573952589676412928]) (by decide +kernel) l2 (Nat.le_of_ble_eq_true rfl) rfl ?_
  refine x_aload (np := 11) (x := 0) (by decide +kernel) rfl (x_nc_le (by decide)) ?_
  refine x_getC (np := 14) (x := 780) (f := 12) (q := (h 63 12)) (by decide +kernel) (by decide) (by decide +kernel) rfl (fun l3 => ?_)
  refine x_istore (np := 16) (x := 4) (lo' := [x_r 63, iv_c 2147483649, iv_c (h 63 10), iv_c (h 63 11), iv_c (h 63 12), 147573952589676412928, 147573952589676412928, 147573952589676412928]) (by decide +kernel) l3 (Nat.le_of_ble_eq_true rfl) rfl ?_
  refine x_aload (np := 17) (x := 0) (by decide +kernel) rfl (x_nc_le (by decide)) ?_
  refine x_getC (np := 20) (x := 781) (f := 13) (q := (h 63 13)) (by decide +kernel) (by decide) (by decide +kernel) rfl (fun l4 => ?_)
  refine x_istore (np := 22) (x := 5) (lo' := [x_r 63, iv_c 2147483649, iv_c (h 63 10), iv_c (h 63 11), iv_c (h 63 12), iv_c (h 63 13), 147573952589676412928, 147573952589676412928]) (by decide +kernel) l4 (Nat.le_of_ble_eq_true rfl) rfl ?_
  refine x_const (np := 23) (x := 9223372039002259456) (a := 2147483648) (by decide +kernel) (by decide) (by decide) ?_
  refine x_istore (np := 25) (x := 6) (lo' := [x_r 63, iv_c 2147483649, iv_c (h 63 10), iv_c (h 63 11), iv_c (h 63 12), iv_c (h 63 13), iv_c 2147483648, 147573952589676412928]) (by decide +kernel) (by decide) (Nat.le_of_ble_eq_true rfl) rfl ?_
  have p1452 : ∀ (n : Nat) (v1446 : Nat) (w1448 : Nat) (h1449 : xh), 4294967296 - v1446 < n → (2147483648 ≤ v1446 ∧ v1446 ≤ 2147483654) → J h1449 → Fr 32769 h h1449 → X sc 275 (d + 18) (xV fun h' => J h' ∧ Fr 32769 h h') 0 0 25 [x_r 63, iv_c 2147483649, iv_c (h 63 10), iv_c (h 63 11), iv_c (h 63 12), iv_c (h 63 13), iv_c v1446, w1448] [] h1449 := by
    intro n
    induction n with
    | zero => intro v1446 w1448 h1449 q1453; exact absurd q1453 (Nat.not_lt_zero _)
    | succ n i1454 =>
      intro v1446 w1448 h1449 q1453 b1447 j1451 f1450
      have f1455 := Fr.trans hF f1450 (by decide)
      refine x_iload (np := 27) (x := 6) (by decide +kernel) rfl (by first | decide | omega) ?_
      refine x_aload (np := 28) (x := 0) (by decide +kernel) rfl (x_nc_le (by decide)) ?_
      have t1456 : tw (h1449 63 6) := j1451.2.2.2.2.2.1
      refine x_getR (np := 31) (x := 774) (f := 6) (q := (h1449 63 6)) (by decide +kernel) (by decide) (by decide +kernel) rfl ?_
      have q1457 : h1449 (h1449 63 6) 7 = h (h1449 63 6) 7 := jK 0 f1450 (rg_T0_7_0_1 t1456) (by first | decide | omega) (by first | decide | omega) (by decide)
      have b1458 := jB (e := 7) 0 hJ (rg_T0_7_0_1 t1456) (by first | decide | omega) (by first | decide | omega)
      refine x_getC (np := 34) (x := 519) (f := 7) (q := (h (h1449 63 6) 7)) (by decide +kernel) (by decide) (tg_0_519_7_0 t1456) q1457 (fun l1459 => ?_)
      refine x_icmp (k := 3) (tg := 95) (np := 37) (by decide +kernel) (by decide) (by first | decide | omega) l1459 (fun q1460 => ?_) (fun q1461 => ?_)
      · have q1460 : (h (h1449 63 6) 7) ≤ v1446 := q1460
        refine x_retV (np := 96) (x := 0) (by decide +kernel) (by decide +kernel) ⟨rfl, ?_⟩
        exact ⟨j1451, f1455⟩
      have q1461 : ¬ ((h (h1449 63 6) 7) ≤ v1446) := q1461
      refine x_const (np := 38) (x := 9223372039002259456) (a := 2147483648) (by decide +kernel) (by decide) (by decide) ?_
      refine x_istore (np := 40) (x := 7) (lo' := [x_r 63, iv_c 2147483649, iv_c (h 63 10), iv_c (h 63 11), iv_c (h 63 12), iv_c (h 63 13), iv_c v1446, iv_c 2147483648]) (by decide +kernel) (by decide) (Nat.le_of_ble_eq_true rfl) rfl ?_
      have p1659 : ∀ (n : Nat) (v1654 : Nat) (h1656 : xh), 4294967296 - v1654 < n → (2147483648 ≤ v1654 ∧ v1654 ≤ 2147483654) → J h1656 → Fr 32769 h1449 h1656 → X sc 275 (d + 18) (xV fun h' => J h' ∧ Fr 32769 h h') 0 0 40 [x_r 63, iv_c 2147483649, iv_c (h 63 10), iv_c (h 63 11), iv_c (h 63 12), iv_c (h 63 13), iv_c v1446, iv_c v1654] [] h1656 := by
        intro n
        induction n with
        | zero => intro v1654 h1656 q1660; exact absurd q1660 (Nat.not_lt_zero _)
        | succ n i1661 =>
          intro v1654 h1656 q1660 b1655 j1658 f1657
          have f1662 := Fr.trans f1455 f1657 (by decide)
          have f1663 := Fr.trans f1450 f1657 (by decide)
          refine x_iload (np := 42) (x := 7) (by decide +kernel) rfl (by first | decide | omega) ?_
          refine x_aload (np := 43) (x := 0) (by decide +kernel) rfl (x_nc_le (by decide)) ?_
          have t1664 : tw (h1656 63 6) := j1658.2.2.2.2.2.1
          refine x_getR (np := 46) (x := 774) (f := 6) (q := (h1656 63 6)) (by decide +kernel) (by decide) (by decide +kernel) rfl ?_
          have q1665 : h1656 (h1656 63 6) 7 = h1449 (h1656 63 6) 7 := jK 0 f1657 (rg_T0_7_0_1 t1664) (by first | decide | omega) (by first | decide | omega) (by decide)
          have q1666 : h1449 (h1656 63 6) 7 = h (h1656 63 6) 7 := jK 0 f1450 (rg_T0_7_0_1 t1664) (by first | decide | omega) (by first | decide | omega) (by decide)
          have b1667 := jB (e := 7) 0 hJ (rg_T0_7_0_1 t1664) (by first | decide | omega) (by first | decide | omega)
          refine x_getC (np := 49) (x := 519) (f := 7) (q := (h (h1656 63 6) 7)) (by decide +kernel) (by decide) (tg_0_519_7_0 t1664) (q1665.trans q1666) (fun l1668 => ?_)
          refine x_icmp (k := 3) (tg := 89) (np := 52) (by decide +kernel) (by decide) (by first | decide | omega) l1668 (fun q1669 => ?_) (fun q1670 => ?_)
          · have q1669 : (h (h1656 63 6) 7) ≤ v1654 := q1669
            refine x_iinc (np := 92) (i := 6) (j := 2147483649) (v := (1 + v1446)) (lo' := [x_r 63, iv_c 2147483649, iv_c (h 63 10), iv_c (h 63 11), iv_c (h 63 12), iv_c (h 63 13), iv_c (1 + v1446), iv_c v1654]) (by decide +kernel) (by decide) (by decide) rfl (by first | decide | omega) (by first | decide | omega) (by first | decide | omega) rfl ?_
            refine x_goto (np := 95) (x := 25) (by decide +kernel) ?_
            exact i1454 (1 + v1446) (iv_c v1654) h1656 (by first | decide | omega) (by first | decide | omega) j1658 f1663
          have q1670 : ¬ ((h (h1656 63 6) 7) ≤ v1654) := q1670
          refine x_iload (np := 53) (x := 2) (by decide +kernel) rfl l1 ?_
          refine x_iload (np := 55) (x := 6) (by decide +kernel) rfl (by first | decide | omega) ?_
          refine x_cP (t := 7) (mj := 148) (n := 2) (rc := 0) (ml := 2) (nr := 0) (np := 58) (as := [iv_c (h 63 10), iv_c v1446]) (rest := []) (lo1 := [iv_c (h 63 10), iv_c v1446]) (by decide +kernel) (by decide) (by decide +kernel) (Or.inl rfl) rfl rfl (x_wi l1 (x_wi (by first | decide | omega) x_wn)) x_wn (by decide) rfl (c148 j1658 (by first | decide | omega) (by first | decide | omega)) (fun v1671 l1672 q1673 => ?_)
          refine x_ifz (k := 0) (tg := 83) (np := 61) (by decide +kernel) (by decide) l1672 (fun q1674 => ?_) (fun q1675 => ?_)
          · have q1674 : v1671 = 2147483648 := q1674
            refine x_iinc (np := 86) (i := 7) (j := 2147483649) (v := (1 + v1654)) (lo' := [x_r 63, iv_c 2147483649, iv_c (h 63 10), iv_c (h 63 11), iv_c (h 63 12), iv_c (h 63 13), iv_c v1446, iv_c (1 + v1654)]) (by decide +kernel) (by decide) (by decide) rfl (by first | decide | omega) (by first | decide | omega) (by first | decide | omega) rfl ?_
            refine x_goto (np := 89) (x := 40) (by decide +kernel) ?_
            exact i1661 (1 + v1654) h1656 (by first | decide | omega) (by first | decide | omega) j1658 f1657
          have q1675 : ¬ (v1671 = 2147483648) := q1675
          refine x_iload (np := 62) (x := 3) (by decide +kernel) rfl l2 ?_
          refine x_iload (np := 64) (x := 7) (by decide +kernel) rfl (by first | decide | omega) ?_
          refine x_cP (t := 7) (mj := 148) (n := 2) (rc := 0) (ml := 2) (nr := 0) (np := 67) (as := [iv_c (h 63 11), iv_c v1654]) (rest := []) (lo1 := [iv_c (h 63 11), iv_c v1654]) (by decide +kernel) (by decide) (by decide +kernel) (Or.inl rfl) rfl rfl (x_wi l2 (x_wi (by first | decide | omega) x_wn)) x_wn (by decide) rfl (c148 j1658 (by first | decide | omega) (by first | decide | omega)) (fun v1676 l1677 q1678 => ?_)
          refine x_ifz (k := 0) (tg := 83) (np := 70) (by decide +kernel) (by decide) l1677 (fun q1679 => ?_) (fun q1680 => ?_)
          · have q1679 : v1676 = 2147483648 := q1679
            refine x_iinc (np := 86) (i := 7) (j := 2147483649) (v := (1 + v1654)) (lo' := [x_r 63, iv_c 2147483649, iv_c (h 63 10), iv_c (h 63 11), iv_c (h 63 12), iv_c (h 63 13), iv_c v1446, iv_c (1 + v1654)]) (by decide +kernel) (by decide) (by decide) rfl (by first | decide | omega) (by first | decide | omega) (by first | decide | omega) rfl ?_
            refine x_goto (np := 89) (x := 40) (by decide +kernel) ?_
            exact i1661 (1 + v1654) h1656 (by first | decide | omega) (by first | decide | omega) j1658 f1657
          have q1680 : ¬ (v1676 = 2147483648) := q1680
          refine x_aload (np := 71) (x := 0) (by decide +kernel) rfl (x_nc_le (by decide)) ?_
          refine x_iload (np := 72) (x := 1) (by decide +kernel) rfl (by decide) ?_
          refine x_iload (np := 74) (x := 6) (by decide +kernel) rfl (by first | decide | omega) ?_
          refine x_iload (np := 76) (x := 7) (by decide +kernel) rfl (by first | decide | omega) ?_
          refine x_iload (np := 78) (x := 4) (by decide +kernel) rfl l3 ?_
          refine x_iload (np := 80) (x := 5) (by decide +kernel) rfl l4 ?_
          refine x_cV (t := 8) (mj := 276) (n := 6) (rc := 13) (ml := 10) (nr := 0) (np := 83) (as := [x_r 63, iv_c 2147483649, iv_c v1446, iv_c v1654, iv_c (h 63 12), iv_c (h 63 13)]) (rest := []) (lo1 := [x_r 63, iv_c 2147483649, iv_c v1446, iv_c v1654, iv_c (h 63 12), iv_c (h 63 13), 147573952589676412928, 147573952589676412928, 147573952589676412928, 147573952589676412928]) (by decide +kernel) (by decide) (by decide +kernel) (x_rb_of (by decide +kernel)) rfl rfl (x_wr (by decide) (x_wi (by decide) (x_wi (by first | decide | omega) (x_wi (by first | decide | omega) (x_wi l3 (x_wi l4 x_wn)))))) x_wn (by decide) rfl (c276_63_c1 j1658   (by first | decide | omega) (by first | decide | omega) (by first | decide | omega) (by first | decide | omega)) (fun h1684 q1683 => ?_)
          obtain ⟨j1685, f1686⟩ := q1683
          have f1689 := Fr.trans f1662 f1686 (by decide)
          have f1690 := Fr.trans f1663 f1686 (by decide)
          have f1691 := Fr.trans f1657 f1686 (by decide)
          refine x_iinc (np := 86) (i := 7) (j := 2147483649) (v := (1 + v1654)) (lo' := [x_r 63, iv_c 2147483649, iv_c (h 63 10), iv_c (h 63 11), iv_c (h 63 12), iv_c (h 63 13), iv_c v1446, iv_c (1 + v1654)]) (by decide +kernel) (by decide) (by decide) rfl (by first | decide | omega) (by first | decide | omega) (by first | decide | omega) rfl ?_
          refine x_goto (np := 89) (x := 40) (by decide +kernel) ?_
          exact i1661 (1 + v1654) h1684 (by first | decide | omega) (by first | decide | omega) j1685 f1691
      exact p1659 _ 2147483648 h1449 (Nat.lt_succ_self _) (by first | decide | omega) j1451 (Fr.refl _ _)
  exact p1452 _ 2147483648 147573952589676412928 h (Nat.lt_succ_self _) (by first | decide | omega) hJ (Fr.refl _ _)
set_option maxHeartbeats 0 in
/-- LentNames$Search.keepSet(I)V -/
theorem c279_63_c1 {sc : Nat × Nat} {d  : Nat} {h : xh} (hJ : J h) : X sc 279 d (xV fun h' => J h' ∧ Fr 32769 h h') 0 0 0 [x_r 63, iv_c 2147483649, 147573952589676412928, 147573952589676412928] [] h := by
  have hF := Fr.refl 32769 h
  refine x_aload (np := 1) (x := 0) (by decide +kernel) rfl (x_nc_le (by decide)) ?_
  refine x_dup (np := 2) (x := 0) (by decide +kernel) (by have z := x_nc_le (k := 63) (by decide); unfold x_r; omega) ?_
  refine x_getC (np := 5) (x := 776) (f := 8) (q := (h 63 8)) (by decide +kernel) (by decide) (by decide +kernel) rfl (fun l1 => ?_)
  refine x_const (np := 6) (x := 9223372043297226753) (a := 2147483649) (by decide +kernel) (by decide) (by decide) ?_
  refine x_addA (by rw [tb_b279]; decide +kernel) l1 (by decide) (fun v2 l3 => ?_)
  refine x_putI (np := 10) (x := 776) (f := 8) (by decide +kernel) (by decide +kernel) l3 (Or.inl (by decide)) ?_
  have j5 := jU (e := 8) (v := v2) 0 hJ rg_63_8_0_1 (by first | decide | omega) (by first | decide | omega) (by first | decide | omega)
  have f7 := jF (e := 8) (v := v2) 0 hF rg_63_8_0_1 (by first | decide | omega) (by first | decide | omega) (by decide)
  generalize e6 : x_up h 63 8 v2 = h4 at j5 f7 ⊢
  refine x_aload (np := 11) (x := 0) (by decide +kernel) rfl (x_nc_le (by decide)) ?_
  have q8 : h4 63 8 = v2 := by rw [← e6]; exact x_up_at
  refine x_getC (np := 14) (x := 776) (f := 8) (q := v2) (by decide +kernel) (by decide) (by decide +kernel) q8 (fun l9 => ?_)
  refine x_const (np := 15) (x := 9223372043297226753) (a := 2147483649) (by decide +kernel) (by decide) (by decide) ?_
  refine x_icmp (k := 5) (tg := 19) (np := 18) (by decide +kernel) (by decide) l3 (by decide) (fun q10 => ?_) (fun q11 => ?_)
  · have q10 : v2 ≤ 2147483649 := q10
    refine x_aload (np := 20) (x := 0) (by decide +kernel) rfl (x_nc_le (by decide)) ?_
    refine x_iload (np := 21) (x := 1) (by decide +kernel) rfl (by decide) ?_
    refine x_putI (np := 24) (x := 783) (f := 15) (by decide +kernel) (by decide +kernel) (by decide) (Or.inl (by decide)) ?_
    have j13 := jU (e := 15) (v := 2147483649) 0 j5 rg_63_15_0_1 (by first | decide | omega) (by first | decide | omega) (by first | decide | omega)
    have f15 := jF (e := 15) (v := 2147483649) 0 f7 rg_63_15_0_1 (by first | decide | omega) (by first | decide | omega) (by decide)
    generalize e14 : x_up h4 63 15 2147483649 = h12 at j13 f15 ⊢
    refine x_const (np := 25) (x := 9223372039002259456) (a := 2147483648) (by decide +kernel) (by decide) (by decide) ?_
    refine x_istore (np := 26) (x := 2) (lo' := [x_r 63, iv_c 2147483649, iv_c 2147483648, 147573952589676412928]) (by decide +kernel) (by decide) (Nat.le_of_ble_eq_true rfl) rfl ?_
    have p622 : ∀ (n : Nat) (v616 : Nat) (w618 : Nat) (h619 : xh), 4294967296 - v616 < n → (2147483648 ≤ v616 ∧ v616 ≤ 2147483653) → J h619 → Fr 32768 h12 h619 → X sc 279 d (xV fun h' => J h' ∧ Fr 32769 h h') 0 0 26 [x_r 63, iv_c 2147483649, iv_c v616, w618] [] h619 := by
      intro n
      induction n with
      | zero => intro v616 w618 h619 q623; exact absurd q623 (Nat.not_lt_zero _)
      | succ n i624 =>
        intro v616 w618 h619 q623 b617 j621 f620
        have f625 := Fr.trans f15 f620 (by decide)
        refine x_iload (np := 27) (x := 2) (by decide +kernel) rfl (by first | decide | omega) ?_
        refine x_aload (np := 28) (x := 0) (by decide +kernel) rfl (x_nc_le (by decide)) ?_
        have b626 := jB (e := 15) 0 j621 rg_63_15_0_1 (by first | decide | omega) (by first | decide | omega)
        refine x_getC (np := 31) (x := 783) (f := 15) (q := (h619 63 15)) (by decide +kernel) (by decide) (by decide +kernel) rfl (fun l627 => ?_)
        refine x_icmp (k := 3) (tg := 95) (np := 34) (by decide +kernel) (by decide) (by first | decide | omega) l627 (fun q628 => ?_) (fun q629 => ?_)
        · have q628 : (h619 63 15) ≤ v616 := q628
          refine x_retV (np := 96) (x := 0) (by decide +kernel) (by decide +kernel) ⟨rfl, ?_⟩
          exact ⟨j621, f625⟩
        have q629 : ¬ ((h619 63 15) ≤ v616) := q629
        refine x_iload (np := 35) (x := 2) (by decide +kernel) rfl (by first | decide | omega) ?_
        refine x_istore (np := 36) (x := 3) (lo' := [x_r 63, iv_c 2147483649, iv_c v616, iv_c v616]) (by decide +kernel) (by first | decide | omega) (Nat.le_of_ble_eq_true rfl) rfl ?_
        have p704 : ∀ (n : Nat) (v699 : Nat) (h701 : xh), v699 < n → (2147483648 ≤ v699 ∧ v699 ≤ 2147483652) → J h701 → Fr 32768 h619 h701 → X sc 279 d (xV fun h' => J h' ∧ Fr 32769 h h') 0 0 36 [x_r 63, iv_c 2147483649, iv_c v616, iv_c v699] [] h701 := by
          intro n
          induction n with
          | zero => intro v699 h701 q705; exact absurd q705 (Nat.not_lt_zero _)
          | succ n i706 =>
            intro v699 h701 q705 b700 j703 f702
            have f707 := Fr.trans f625 f702 (by decide)
            have f708 := Fr.trans f620 f702 (by decide)
            refine x_iload (np := 37) (x := 3) (by decide +kernel) rfl (by first | decide | omega) ?_
            refine x_ifz (k := 5) (tg := 77) (np := 40) (by decide +kernel) (by decide) (by first | decide | omega) (fun q709 => ?_) (fun q710 => ?_)
            · have q709 : v699 ≤ 2147483648 := q709
              refine x_aload (np := 78) (x := 0) (by decide +kernel) rfl (x_nc_le (by decide)) ?_
              have q711 : h701 63 4 = 68 := by have z := jB (e := 4) 0 j703 rg_63_4_0_1 (by decide) (by decide); omega
              refine x_getR (np := 81) (x := 772) (f := 4) (q := 68) (by decide +kernel) (by decide) (by decide +kernel) q711 ?_
              refine x_iload (np := 82) (x := 3) (by decide +kernel) rfl (by first | decide | omega) ?_
              refine x_aload (np := 83) (x := 0) (by decide +kernel) rfl (x_nc_le (by decide)) ?_
              have q712 : h701 63 3 = 67 := by have z := jB (e := 3) 0 j703 rg_63_3_0_1 (by decide) (by decide); omega
              refine x_getR (np := 86) (x := 771) (f := 3) (q := 67) (by decide +kernel) (by decide) (by decide +kernel) q712 ?_
              refine x_iload (np := 87) (x := 2) (by decide +kernel) rfl (by first | decide | omega) ?_
              obtain ⟨u713, q714⟩ : ∃ z, v616 = 2147483648 + z := ⟨v616 - 2147483648, by first | decide | omega⟩
              refine x_aldC (np := 88) (x := 0) (n := 5) (i := u713) (q := (h701 67 u713)) (by decide +kernel) (by decide +kernel) (by first | decide | omega) (by first | decide | omega) (by decide) rfl (fun l715 => ?_)
              obtain ⟨u716, q717⟩ : ∃ z, v699 = 2147483648 + z := ⟨v699 - 2147483648, by first | decide | omega⟩
              refine x_ast (np := 89) (x := 0) (kd := 1) (n := 5) (i := u716) (by decide +kernel) (Or.inl rfl) (by decide +kernel) (by first | decide | omega) (by first | decide | omega) (by decide) l715 (fun z => absurd z (by decide)) ?_
              have j719 := jU (e := u716) (v := (h701 67 u713)) u716 j703 rg_68_0_1_5 (by first | decide | omega) (by first | decide | omega) (by first | decide | omega)
              have f721 := jF (e := u716) (v := (h701 67 u713)) u716 f707 rg_68_0_1_5 (by first | decide | omega) (by first | decide | omega) (by decide)
              have f722 := jF (e := u716) (v := (h701 67 u713)) u716 f708 rg_68_0_1_5 (by first | decide | omega) (by first | decide | omega) (by decide)
              generalize e720 : x_up h701 68 u716 (h701 67 u713) = h718 at j719 f721 f722 ⊢
              refine x_iinc (np := 92) (i := 2) (j := 2147483649) (v := (1 + v616)) (lo' := [x_r 63, iv_c 2147483649, iv_c (1 + v616), iv_c v699]) (by decide +kernel) (by decide) (by decide) rfl (by first | decide | omega) (by first | decide | omega) (by first | decide | omega) rfl ?_
              refine x_goto (np := 95) (x := 26) (by decide +kernel) ?_
              exact i624 (1 + v616) (iv_c v699) h718 (by first | decide | omega) (by first | decide | omega) j719 f722
            have q710 : ¬ (v699 ≤ 2147483648) := q710
            refine x_aload (np := 41) (x := 0) (by decide +kernel) rfl (x_nc_le (by decide)) ?_
            have q723 : h701 63 4 = 68 := by have z := jB (e := 4) 0 j703 rg_63_4_0_1 (by decide) (by decide); omega
            refine x_getR (np := 44) (x := 772) (f := 4) (q := 68) (by decide +kernel) (by decide) (by decide +kernel) q723 ?_
            refine x_iload (np := 45) (x := 3) (by decide +kernel) rfl (by first | decide | omega) ?_
            refine x_const (np := 46) (x := 9223372043297226753) (a := 2147483649) (by decide +kernel) (by decide) (by decide) ?_
            obtain ⟨v724, q725⟩ : ∃ z, z + 2147483649 = v699 + 2147483648 := ⟨v699 + 2147483648 - 2147483649, by first | decide | omega⟩
            refine x_isub (np := 47) (x := 0) (v := v724) (by decide +kernel) (by first | decide | omega) (by decide) (by first | decide | omega) (by first | decide | omega) ?_
            obtain ⟨u726, q727⟩ : ∃ z, v724 = 2147483648 + z := ⟨v724 - 2147483648, by first | decide | omega⟩
            refine x_aldC (np := 48) (x := 0) (n := 5) (i := u726) (q := (h701 68 u726)) (by decide +kernel) (by decide +kernel) (by first | decide | omega) (by first | decide | omega) (by decide) rfl (fun l728 => ?_)
            refine x_aload (np := 49) (x := 0) (by decide +kernel) rfl (x_nc_le (by decide)) ?_
            have q729 : h701 63 3 = 67 := by have z := jB (e := 3) 0 j703 rg_63_3_0_1 (by decide) (by decide); omega
            refine x_getR (np := 52) (x := 771) (f := 3) (q := 67) (by decide +kernel) (by decide) (by decide +kernel) q729 ?_
            refine x_iload (np := 53) (x := 2) (by decide +kernel) rfl (by first | decide | omega) ?_
            obtain ⟨u730, q731⟩ : ∃ z, v616 = 2147483648 + z := ⟨v616 - 2147483648, by first | decide | omega⟩
            refine x_aldC (np := 54) (x := 0) (n := 5) (i := u730) (q := (h701 67 u730)) (by decide +kernel) (by decide +kernel) (by first | decide | omega) (by first | decide | omega) (by decide) rfl (fun l732 => ?_)
            refine x_icmp (k := 5) (tg := 77) (np := 57) (by decide +kernel) (by decide) l728 l732 (fun q733 => ?_) (fun q734 => ?_)
            · have q733 : (h701 68 u726) ≤ (h701 67 u730) := q733
              refine x_aload (np := 78) (x := 0) (by decide +kernel) rfl (x_nc_le (by decide)) ?_
              have q735 : h701 63 4 = 68 := by have z := jB (e := 4) 0 j703 rg_63_4_0_1 (by decide) (by decide); omega
              refine x_getR (np := 81) (x := 772) (f := 4) (q := 68) (by decide +kernel) (by decide) (by decide +kernel) q735 ?_
              refine x_iload (np := 82) (x := 3) (by decide +kernel) rfl (by first | decide | omega) ?_
              refine x_aload (np := 83) (x := 0) (by decide +kernel) rfl (x_nc_le (by decide)) ?_
              have q736 : h701 63 3 = 67 := by have z := jB (e := 3) 0 j703 rg_63_3_0_1 (by decide) (by decide); omega
              refine x_getR (np := 86) (x := 771) (f := 3) (q := 67) (by decide +kernel) (by decide) (by decide +kernel) q736 ?_
              refine x_iload (np := 87) (x := 2) (by decide +kernel) rfl (by first | decide | omega) ?_
              refine x_aldC (np := 88) (x := 0) (n := 5) (i := u730) (q := (h701 67 u730)) (by decide +kernel) (by decide +kernel) (by first | decide | omega) (by first | decide | omega) (by decide) rfl (fun l737 => ?_)
              obtain ⟨u738, q739⟩ : ∃ z, v699 = 2147483648 + z := ⟨v699 - 2147483648, by first | decide | omega⟩
              refine x_ast (np := 89) (x := 0) (kd := 1) (n := 5) (i := u738) (by decide +kernel) (Or.inl rfl) (by decide +kernel) (by first | decide | omega) (by first | decide | omega) (by decide) l732 (fun z => absurd z (by decide)) ?_
              have j741 := jU (e := u738) (v := (h701 67 u730)) u738 j703 rg_68_0_1_5 (by first | decide | omega) (by first | decide | omega) (by first | decide | omega)
              have f743 := jF (e := u738) (v := (h701 67 u730)) u738 f707 rg_68_0_1_5 (by first | decide | omega) (by first | decide | omega) (by decide)
              have f744 := jF (e := u738) (v := (h701 67 u730)) u738 f708 rg_68_0_1_5 (by first | decide | omega) (by first | decide | omega) (by decide)
              generalize e742 : x_up h701 68 u738 (h701 67 u730) = h740 at j741 f743 f744 ⊢
              refine x_iinc (np := 92) (i := 2) (j := 2147483649) (v := (1 + v616)) (lo' := [x_r 63, iv_c 2147483649, iv_c (1 + v616), iv_c v699]) (by decide +kernel) (by decide) (by decide) rfl (by first | decide | omega) (by first | decide | omega) (by first | decide | omega) rfl ?_
              refine x_goto (np := 95) (x := 26) (by decide +kernel) ?_
              exact i624 (1 + v616) (iv_c v699) h740 (by first | decide | omega) (by first | decide | omega) j741 f744
            have q734 : ¬ ((h701 68 u726) ≤ (h701 67 u730)) := q734
            refine x_aload (np := 58) (x := 0) (by decide +kernel) rfl (x_nc_le (by decide)) ?_
            have q745 : h701 63 4 = 68 := by have z := jB (e := 4) 0 j703 rg_63_4_0_1 (by decide) (by decide); omega
            refine x_getR (np := 61) (x := 772) (f := 4) (q := 68) (by decide +kernel) (by decide) (by decide +kernel) q745 ?_
            refine x_iload (np := 62) (x := 3) (by decide +kernel) rfl (by first | decide | omega) ?_
            refine x_aload (np := 63) (x := 0) (by decide +kernel) rfl (x_nc_le (by decide)) ?_
            have q746 : h701 63 4 = 68 := by have z := jB (e := 4) 0 j703 rg_63_4_0_1 (by decide) (by decide); omega
            refine x_getR (np := 66) (x := 772) (f := 4) (q := 68) (by decide +kernel) (by decide) (by decide +kernel) q746 ?_
            refine x_iload (np := 67) (x := 3) (by decide +kernel) rfl (by first | decide | omega) ?_
            refine x_const (np := 68) (x := 9223372043297226753) (a := 2147483649) (by decide +kernel) (by decide) (by decide) ?_
            obtain ⟨v747, q748⟩ : ∃ z, z + 2147483649 = v699 + 2147483648 := ⟨v699 + 2147483648 - 2147483649, by first | decide | omega⟩
            refine x_isub (np := 69) (x := 0) (v := v747) (by decide +kernel) (by first | decide | omega) (by decide) (by first | decide | omega) (by first | decide | omega) ?_
            obtain ⟨u749, q750⟩ : ∃ z, v747 = 2147483648 + z := ⟨v747 - 2147483648, by first | decide | omega⟩
            refine x_aldC (np := 70) (x := 0) (n := 5) (i := u749) (q := (h701 68 u749)) (by decide +kernel) (by decide +kernel) (by first | decide | omega) (by first | decide | omega) (by decide) rfl (fun l751 => ?_)
            obtain ⟨u752, q753⟩ : ∃ z, v699 = 2147483648 + z := ⟨v699 - 2147483648, by first | decide | omega⟩
            refine x_ast (np := 71) (x := 0) (kd := 1) (n := 5) (i := u752) (by decide +kernel) (Or.inl rfl) (by decide +kernel) (by first | decide | omega) (by first | decide | omega) (by decide) l751 (fun z => absurd z (by decide)) ?_
            have j755 := jU (e := u752) (v := (h701 68 u749)) u752 j703 rg_68_0_1_5 (by first | decide | omega) (by first | decide | omega) (by first | decide | omega)
            have f757 := jF (e := u752) (v := (h701 68 u749)) u752 f707 rg_68_0_1_5 (by first | decide | omega) (by first | decide | omega) (by decide)
            have f758 := jF (e := u752) (v := (h701 68 u749)) u752 f708 rg_68_0_1_5 (by first | decide | omega) (by first | decide | omega) (by decide)
            have f759 := jF (e := u752) (v := (h701 68 u749)) u752 f702 rg_68_0_1_5 (by first | decide | omega) (by first | decide | omega) (by decide)
            generalize e756 : x_up h701 68 u752 (h701 68 u749) = h754 at j755 f757 f758 f759 ⊢
            obtain ⟨v760, q761⟩ : ∃ z, z + 1 = v699 := ⟨v699 - 1, by first | decide | omega⟩
            refine x_iinc (np := 74) (i := 3) (j := 2147483647) (v := v760) (lo' := [x_r 63, iv_c 2147483649, iv_c v616, iv_c v760]) (by decide +kernel) (by decide) (by decide) rfl (by first | decide | omega) (by first | decide | omega) (by first | decide | omega) rfl ?_
            refine x_goto (np := 77) (x := 36) (by decide +kernel) ?_
            exact i706 v760 h754 (by first | decide | omega) (by first | decide | omega) j755 f759
        exact p704 _ v616 h619 (Nat.lt_succ_self _) (by first | decide | omega) j621 (Fr.refl _ _)
    exact p622 _ 2147483648 147573952589676412928 h12 (Nat.lt_succ_self _) (by first | decide | omega) j13 (Fr.refl _ _)
  have q11 : ¬ (v2 ≤ 2147483649) := q11
  refine x_retV (np := 19) (x := 0) (by decide +kernel) (by decide +kernel) ⟨rfl, ?_⟩
  exact ⟨j5, f7⟩
