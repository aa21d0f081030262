/-! ===== methods ===== -/
set_option maxHeartbeats 0 in
/-- LentNamesModel.isAsked(II)Z -/
theorem c256_75_c4 {sc : Nat × Nat} {d a2 : Nat} {h : xh} (hJ : J h) (ba2 : 2147483648 ≤ a2 ∧ a2 ≤ 2147488831) (hr0 : 2147483648 ≤ (h 94 4)) : X sc 256 (d + 3) (xI fun r h' => h' = h ∧ (2147483648 ≤ r ∧ r ≤ 2147483649)) 0 0 0 [x_r 75, iv_c 2147483652, iv_c a2, 147573952589676412928, 147573952589676412928, 147573952589676412928, 147573952589676412928, 147573952589676412928] [] h := by
  have la2 : a2 < 4294967296 := by first | decide | omega
  have b1 := jB (e := 4) 4 hJ rg_94_0_1_6 (by first | decide | omega) (by first | decide | omega)
  refine x_iload (np := 1) (x := 2) (by decide +kernel) rfl la2 ?_
  refine x_nI (t := 0) (mj := 242) (n := 1) (rc := 0) (ml := 1) (nr := 0) (np := 4) (as := [iv_c a2]) (rest := []) (lo1 := [iv_c a2]) (by decide +kernel) (by decide) (by decide +kernel) (Or.inl rfl) rfl rfl (x_wi la2 x_wn) x_wn (by decide) rfl ?_
  refine x_iload (np := 1) (x := 0) (by decide +kernel) rfl la2 ?_
  refine x_const (np := 4) (x := 9223375749854004064) (a := 2147484512) (by decide +kernel) (by decide) (by decide) ?_
  obtain ⟨u2, q3⟩ : ∃ z, a2 = 2147483648 + z := ⟨a2 - 2147483648, by first | decide | omega⟩
  obtain ⟨u4, q5⟩ : ∃ z, z = u2 / 864 := ⟨_, rfl⟩
  refine x_div (np := 5) (i := u2) (j := 864) (by decide +kernel) (by first | decide | omega) (by decide) (by first | decide | omega) (by decide) ?_
  rw [← q5]
  refine x_retI (np := 6) (x := 0) (by decide +kernel) (by first | decide | omega) (Or.inl (by decide +kernel)) ⟨_, rfl, (by first | decide | omega), ?_⟩
  refine x_istore (np := 5) (x := 3) (lo' := [x_r 75, iv_c 2147483652, iv_c a2, iv_c (2147483648 + u4), 147573952589676412928, 147573952589676412928, 147573952589676412928, 147573952589676412928]) (by decide +kernel) (by first | decide | omega) (Nat.le_of_ble_eq_true rfl) rfl ?_
  refine x_iload (np := 6) (x := 2) (by decide +kernel) rfl la2 ?_
  refine x_nI (t := 0) (mj := 243) (n := 1) (rc := 0) (ml := 1) (nr := 0) (np := 9) (as := [iv_c a2]) (rest := []) (lo1 := [iv_c a2]) (by decide +kernel) (by decide) (by decide +kernel) (Or.inl rfl) rfl rfl (x_wi la2 x_wn) x_wn (by decide) rfl ?_
  refine x_iload (np := 1) (x := 0) (by decide +kernel) rfl la2 ?_
  refine x_const (np := 4) (x := 9223372657477550224) (a := 2147483792) (by decide +kernel) (by decide) (by decide) ?_
  obtain ⟨u6, q7⟩ : ∃ z, z = u2 / 144 := ⟨_, rfl⟩
  refine x_div (np := 5) (i := u2) (j := 144) (by decide +kernel) (by first | decide | omega) (by decide) (by first | decide | omega) (by decide) ?_
  rw [← q7]
  refine x_const (np := 7) (x := 9223372064772063238) (a := 2147483654) (by decide +kernel) (by decide) (by decide) ?_
  obtain ⟨u8, q9⟩ : ∃ z, z = u6 % 6 := ⟨_, rfl⟩
  refine x_rem (np := 8) (i := u6) (j := 6) (by decide +kernel) (by first | decide | omega) (by decide) (by first | decide | omega) (by decide) ?_
  rw [← q9]
  refine x_retI (np := 9) (x := 0) (by decide +kernel) (by first | decide | omega) (Or.inl (by decide +kernel)) ⟨_, rfl, (by first | decide | omega), ?_⟩
  refine x_istore (np := 11) (x := 4) (lo' := [x_r 75, iv_c 2147483652, iv_c a2, iv_c (2147483648 + u4), iv_c (2147483648 + u8), 147573952589676412928, 147573952589676412928, 147573952589676412928]) (by decide +kernel) (by first | decide | omega) (Nat.le_of_ble_eq_true rfl) rfl ?_
  refine x_iload (np := 12) (x := 2) (by decide +kernel) rfl la2 ?_
  refine x_nI (t := 0) (mj := 244) (n := 1) (rc := 0) (ml := 1) (nr := 0) (np := 15) (as := [iv_c a2]) (rest := []) (lo1 := [iv_c a2]) (by decide +kernel) (by decide) (by decide +kernel) (Or.inl rfl) rfl rfl (x_wi la2 x_wn) x_wn (by decide) rfl ?_
  refine x_iload (np := 1) (x := 0) (by decide +kernel) rfl la2 ?_
  refine x_const (np := 3) (x := 9223372090541867020) (a := 2147483660) (by decide +kernel) (by decide) (by decide) ?_
  obtain ⟨u10, q11⟩ : ∃ z, z = u2 / 12 := ⟨_, rfl⟩
  refine x_div (np := 4) (i := u2) (j := 12) (by decide +kernel) (by first | decide | omega) (by decide) (by first | decide | omega) (by decide) ?_
  rw [← q11]
  refine x_const (np := 6) (x := 9223372090541867020) (a := 2147483660) (by decide +kernel) (by decide) (by decide) ?_
  obtain ⟨u12, q13⟩ : ∃ z, z = u10 % 12 := ⟨_, rfl⟩
  refine x_rem (np := 7) (i := u10) (j := 12) (by decide +kernel) (by first | decide | omega) (by decide) (by first | decide | omega) (by decide) ?_
  rw [← q13]
  refine x_retI (np := 8) (x := 0) (by decide +kernel) (by first | decide | omega) (Or.inl (by decide +kernel)) ⟨_, rfl, (by first | decide | omega), ?_⟩
  refine x_istore (np := 17) (x := 5) (lo' := [x_r 75, iv_c 2147483652, iv_c a2, iv_c (2147483648 + u4), iv_c (2147483648 + u8), iv_c (2147483648 + u12), 147573952589676412928, 147573952589676412928]) (by decide +kernel) (by first | decide | omega) (Nat.le_of_ble_eq_true rfl) rfl ?_
  refine x_iload (np := 18) (x := 2) (by decide +kernel) rfl la2 ?_
  refine x_nI (t := 0) (mj := 245) (n := 1) (rc := 0) (ml := 1) (nr := 0) (np := 21) (as := [iv_c a2]) (rest := []) (lo1 := [iv_c a2]) (by decide +kernel) (by decide) (by decide +kernel) (Or.inl rfl) rfl rfl (x_wi la2 x_wn) x_wn (by decide) rfl ?_
  refine x_iload (np := 1) (x := 0) (by decide +kernel) rfl la2 ?_
  refine x_const (np := 3) (x := 9223372090541867020) (a := 2147483660) (by decide +kernel) (by decide) (by decide) ?_
  obtain ⟨u14, q15⟩ : ∃ z, z = u2 % 12 := ⟨_, rfl⟩
  refine x_rem (np := 4) (i := u2) (j := 12) (by decide +kernel) (by first | decide | omega) (by decide) (by first | decide | omega) (by decide) ?_
  rw [← q15]
  refine x_retI (np := 5) (x := 0) (by decide +kernel) (by first | decide | omega) (Or.inl (by decide +kernel)) ⟨_, rfl, (by first | decide | omega), ?_⟩
  refine x_istore (np := 23) (x := 6) (lo' := [x_r 75, iv_c 2147483652, iv_c a2, iv_c (2147483648 + u4), iv_c (2147483648 + u8), iv_c (2147483648 + u12), iv_c (2147483648 + u14), 147573952589676412928]) (by decide +kernel) (by first | decide | omega) (Nat.le_of_ble_eq_true rfl) rfl ?_
  refine x_aload (np := 24) (x := 0) (by decide +kernel) rfl (x_nc_le (by decide)) ?_
  have q16 : h 75 28 = 94 := by have z := jB (e := 28) 0 hJ rg_75_28_0_1 (by decide) (by decide); omega
  refine x_getR (np := 27) (x := 732) (f := 28) (q := 94) (by decide +kernel) (by decide) (by decide +kernel) q16 ?_
  refine x_iload (np := 28) (x := 1) (by decide +kernel) rfl (by decide) ?_
  refine x_aldC (np := 29) (x := 0) (n := 6) (i := 4) (q := (h 94 4)) (by decide +kernel) (by decide +kernel) (by first | decide | omega) (by first | decide | omega) (by decide) rfl (fun l17 => ?_)
  refine x_istore (np := 31) (x := 7) (lo' := [x_r 75, iv_c 2147483652, iv_c a2, iv_c (2147483648 + u4), iv_c (2147483648 + u8), iv_c (2147483648 + u12), iv_c (2147483648 + u14), iv_c (h 94 4)]) (by decide +kernel) l17 (Nat.le_of_ble_eq_true rfl) rfl ?_
  refine x_aload (np := 32) (x := 0) (by decide +kernel) rfl (x_nc_le (by decide)) ?_
  have b18 := jB (e := 33) 0 hJ rg_75_33_0_1 (by first | decide | omega) (by first | decide | omega)
  refine x_getC (np := 35) (x := 737) (f := 33) (q := (h 75 33)) (by decide +kernel) (by decide) (by decide +kernel) rfl (fun l19 => ?_)
  refine x_ifz (k := 1) (tg := 108) (np := 38) (by decide +kernel) (by decide) l19 (fun q20 => ?_) (fun q21 => ?_)
  · have q20 : (h 75 33) ≠ 2147483648 := q20
    refine x_iload (np := 110) (x := 7) (by decide +kernel) rfl l17 ?_
    refine x_const (np := 112) (x := 9223372468498989156) (a := 2147483748) (by decide +kernel) (by decide) (by decide) ?_
    refine x_icmp (k := 3) (tg := 161) (np := 115) (by decide +kernel) (by decide) l17 (by decide) (fun q22 => ?_) (fun q23 => ?_)
    · have q22 : 2147483748 ≤ (h 94 4) := q22
      refine x_iload (np := 163) (x := 4) (by decide +kernel) rfl (by first | decide | omega) ?_
      refine x_iload (np := 165) (x := 7) (by decide +kernel) rfl l17 ?_
      refine x_const (np := 167) (x := 9223372468498989156) (a := 2147483748) (by decide +kernel) (by decide) (by decide) ?_
      obtain ⟨v24, q25⟩ : ∃ z, z + 2147483748 = (h 94 4) + 2147483648 := ⟨(h 94 4) + 2147483648 - 2147483748, by first | decide | omega⟩
      refine x_isub (np := 168) (x := 0) (v := v24) (by decide +kernel) l17 (by decide) (by first | decide | omega) (by first | decide | omega) ?_
      refine x_icmp (k := 1) (tg := 202) (np := 171) (by decide +kernel) (by decide) (by first | decide | omega) (by first | decide | omega) (fun q26 => ?_) (fun q27 => ?_)
      · have q26 : (2147483648 + u8) ≠ v24 := q26
        refine x_const (np := 203) (x := 9223372039002259456) (a := 2147483648) (by decide +kernel) (by decide) (by decide) ?_
        refine x_retI (np := 204) (x := 0) (by decide +kernel) (by decide) (Or.inr ⟨by decide +kernel, by first | decide | omega, by first | decide | omega⟩) ⟨_, rfl, (by decide), ?_⟩
        exact ⟨rfl, (by first | decide | omega)⟩
      have q27 : ¬ ((2147483648 + u8) ≠ v24) := q27
      refine x_iload (np := 173) (x := 6) (by decide +kernel) rfl (by first | decide | omega) ?_
      refine x_aload (np := 174) (x := 0) (by decide +kernel) rfl (x_nc_le (by decide)) ?_
      have q28 : h 75 29 = 95 := by have z := jB (e := 29) 0 hJ rg_75_29_0_1 (by decide) (by decide); omega
      refine x_getR (np := 177) (x := 733) (f := 29) (q := 95) (by decide +kernel) (by decide) (by decide +kernel) q28 ?_
      refine x_iload (np := 178) (x := 1) (by decide +kernel) rfl (by decide) ?_
      have b29 := jB (e := 4) 4 hJ rg_95_0_1_6 (by first | decide | omega) (by first | decide | omega)
      refine x_aldC (np := 179) (x := 0) (n := 6) (i := 4) (q := (h 95 4)) (by decide +kernel) (by decide +kernel) (by first | decide | omega) (by first | decide | omega) (by decide) rfl (fun l30 => ?_)
      refine x_aload (np := 180) (x := 0) (by decide +kernel) rfl (x_nc_le (by decide)) ?_
      have b31 := jB (e := 31) 0 hJ rg_75_31_0_1 (by first | decide | omega) (by first | decide | omega)
      refine x_getC (np := 183) (x := 735) (f := 31) (q := (h 75 31)) (by decide +kernel) (by decide) (by decide +kernel) rfl (fun l32 => ?_)
      obtain ⟨v33, q34⟩ : ∃ z, z + (h 75 31) = (h 95 4) + 2147483648 := ⟨(h 95 4) + 2147483648 - (h 75 31), by first | decide | omega⟩
      refine x_isub (np := 184) (x := 0) (v := v33) (by decide +kernel) l30 l32 (by first | decide | omega) (by first | decide | omega) ?_
      refine x_icmp (k := 2) (tg := 202) (np := 187) (by decide +kernel) (by decide) (by first | decide | omega) (by first | decide | omega) (fun q35 => ?_) (fun q36 => ?_)
      · have q35 : (2147483648 + u14) < v33 := q35
        refine x_const (np := 203) (x := 9223372039002259456) (a := 2147483648) (by decide +kernel) (by decide) (by decide) ?_
        refine x_retI (np := 204) (x := 0) (by decide +kernel) (by decide) (Or.inr ⟨by decide +kernel, by first | decide | omega, by first | decide | omega⟩) ⟨_, rfl, (by decide), ?_⟩
        exact ⟨rfl, (by first | decide | omega)⟩
      have q36 : ¬ ((2147483648 + u14) < v33) := q36
      refine x_iload (np := 189) (x := 5) (by decide +kernel) rfl (by first | decide | omega) ?_
      refine x_aload (np := 190) (x := 0) (by decide +kernel) rfl (x_nc_le (by decide)) ?_
      have q37 : h 75 29 = 95 := by have z := jB (e := 29) 0 hJ rg_75_29_0_1 (by decide) (by decide); omega
      refine x_getR (np := 193) (x := 733) (f := 29) (q := 95) (by decide +kernel) (by decide) (by decide +kernel) q37 ?_
      refine x_iload (np := 194) (x := 1) (by decide +kernel) rfl (by decide) ?_
      refine x_aldC (np := 195) (x := 0) (n := 6) (i := 4) (q := (h 95 4)) (by decide +kernel) (by decide +kernel) (by first | decide | omega) (by first | decide | omega) (by decide) rfl (fun l38 => ?_)
      refine x_icmp (k := 4) (tg := 202) (np := 198) (by decide +kernel) (by decide) (by first | decide | omega) l30 (fun q39 => ?_) (fun q40 => ?_)
      · have q39 : (h 95 4) < (2147483648 + u12) := q39
        refine x_const (np := 203) (x := 9223372039002259456) (a := 2147483648) (by decide +kernel) (by decide) (by decide) ?_
        refine x_retI (np := 204) (x := 0) (by decide +kernel) (by decide) (Or.inr ⟨by decide +kernel, by first | decide | omega, by first | decide | omega⟩) ⟨_, rfl, (by decide), ?_⟩
        exact ⟨rfl, (by first | decide | omega)⟩
      have q40 : ¬ ((h 95 4) < (2147483648 + u12)) := q40
      refine x_const (np := 199) (x := 9223372043297226753) (a := 2147483649) (by decide +kernel) (by decide) (by decide) ?_
      refine x_goto (np := 202) (x := 203) (by decide +kernel) ?_
      refine x_retI (np := 204) (x := 0) (by decide +kernel) (by decide) (Or.inr ⟨by decide +kernel, by first | decide | omega, by first | decide | omega⟩) ⟨_, rfl, (by decide), ?_⟩
      exact ⟨rfl, (by first | decide | omega)⟩
    have q23 : ¬ (2147483748 ≤ (h 94 4)) := q23
    refine x_iload (np := 116) (x := 3) (by decide +kernel) rfl (by first | decide | omega) ?_
    refine x_aload (np := 117) (x := 0) (by decide +kernel) rfl (x_nc_le (by decide)) ?_
    refine x_iload (np := 119) (x := 7) (by decide +kernel) rfl l17 ?_
    refine x_const (np := 120) (x := 9223372039002259456) (a := 2147483648) (by decide +kernel) (by decide) (by decide) ?_
    refine x_nI (t := 6) (mj := 162) (n := 3) (rc := 12) (ml := 3) (nr := 1) (np := 123) (as := [x_r 75, iv_c (h 94 4), iv_c 2147483648]) (rest := [iv_c (2147483648 + u4)]) (lo1 := [x_r 75, iv_c (h 94 4), iv_c 2147483648]) (by decide +kernel) (by decide) (by decide +kernel) (x_rb_of (by decide +kernel)) rfl rfl (x_wr (by decide) (x_wi l17 (x_wi (by decide) x_wn))) (x_wi (by first | decide | omega) x_wn) (by decide) rfl ?_
    refine x_aload (np := 1) (x := 0) (by decide +kernel) rfl (x_nc_le (by decide)) ?_
    have q41 : h 75 1 = 76 := by have z := jB (e := 1) 0 hJ rg_75_1_0_1 (by decide) (by decide); omega
    refine x_getR (np := 4) (x := 705) (f := 1) (q := 76) (by decide +kernel) (by decide) (by decide +kernel) q41 ?_
    refine x_const (np := 7) (x := 9223372726197026976) (a := 2147483808) (by decide +kernel) (by decide) (by decide) ?_
    refine x_const (np := 8) (x := 9223372056182128644) (a := 2147483652) (by decide +kernel) (by decide) (by decide) ?_
    refine x_iload (np := 9) (x := 1) (by decide +kernel) rfl l17 ?_
    obtain ⟨u42, q43⟩ : ∃ z, (h 94 4) = 2147483648 + z := ⟨(h 94 4) - 2147483648, by first | decide | omega⟩
    refine x_imul (np := 10) (x := 0) (i := 4) (j := u42) (v := (2147483648 + 4 * u42)) (by decide +kernel) (by first | decide | omega) (by first | decide | omega) (by first | decide | omega) (by first | decide | omega) (by decide) l17 ?_
    refine x_iadd (np := 11) (x := 0) (v := (2147483808 + 4 * u42)) (by decide +kernel) (by decide) (by first | decide | omega) (by first | decide | omega) (by first | decide | omega) ?_
    refine x_iload (np := 12) (x := 2) (by decide +kernel) rfl (by decide) ?_
    refine x_iadd (np := 13) (x := 0) (v := (2147483808 + 4 * u42)) (by decide +kernel) (by first | decide | omega) (by decide) (by first | decide | omega) (by first | decide | omega) ?_
    refine x_aldC (np := 14) (x := 0) (n := 1952) (i := (160 + 4 * u42)) (q := ((h 76 (160 + 4 * u42)))) (by decide +kernel) (by decide +kernel) (by first | decide | omega) (by first | decide | omega) (by decide) rfl (fun l45 => ?_)
    refine x_retI (np := 15) (x := 0) (by decide +kernel) l45 (Or.inl (by decide +kernel)) ⟨_, rfl, l45, ?_⟩
    refine x_icmp (k := 1) (tg := 159) (np := 126) (by decide +kernel) (by decide) (by first | decide | omega) l45 (fun q46 => ?_) (fun q47 => ?_)
    · have q46 : (2147483648 + u4) ≠ ((h 76 (160 + 4 * u42))) := q46
      refine x_const (np := 160) (x := 9223372039002259456) (a := 2147483648) (by decide +kernel) (by decide) (by decide) ?_
      refine x_retI (np := 161) (x := 0) (by decide +kernel) (by decide) (Or.inr ⟨by decide +kernel, by first | decide | omega, by first | decide | omega⟩) ⟨_, rfl, (by decide), ?_⟩
      exact ⟨rfl, (by first | decide | omega)⟩
    have q47 : ¬ ((2147483648 + u4) ≠ ((h 76 (160 + 4 * u42)))) := q47
    refine x_iload (np := 128) (x := 4) (by decide +kernel) rfl (by first | decide | omega) ?_
    refine x_aload (np := 129) (x := 0) (by decide +kernel) rfl (x_nc_le (by decide)) ?_
    refine x_iload (np := 131) (x := 7) (by decide +kernel) rfl l17 ?_
    refine x_const (np := 132) (x := 9223372051887161347) (a := 2147483651) (by decide +kernel) (by decide) (by decide) ?_
    refine x_nI (t := 6) (mj := 162) (n := 3) (rc := 12) (ml := 3) (nr := 1) (np := 135) (as := [x_r 75, iv_c (h 94 4), iv_c 2147483651]) (rest := [iv_c (2147483648 + u8)]) (lo1 := [x_r 75, iv_c (h 94 4), iv_c 2147483651]) (by decide +kernel) (by decide) (by decide +kernel) (x_rb_of (by decide +kernel)) rfl rfl (x_wr (by decide) (x_wi l17 (x_wi (by decide) x_wn))) (x_wi (by first | decide | omega) x_wn) (by decide) rfl ?_
    refine x_aload (np := 1) (x := 0) (by decide +kernel) rfl (x_nc_le (by decide)) ?_
    have q48 : h 75 1 = 76 := by have z := jB (e := 1) 0 hJ rg_75_1_0_1 (by decide) (by decide); omega
    refine x_getR (np := 4) (x := 705) (f := 1) (q := 76) (by decide +kernel) (by decide) (by decide +kernel) q48 ?_
    refine x_const (np := 7) (x := 9223372726197026976) (a := 2147483808) (by decide +kernel) (by decide) (by decide) ?_
    refine x_const (np := 8) (x := 9223372056182128644) (a := 2147483652) (by decide +kernel) (by decide) (by decide) ?_
    refine x_iload (np := 9) (x := 1) (by decide +kernel) rfl l17 ?_
    refine x_imul (np := 10) (x := 0) (i := 4) (j := u42) (v := (2147483648 + 4 * u42)) (by decide +kernel) (by first | decide | omega) (by first | decide | omega) (by first | decide | omega) (by first | decide | omega) (by decide) l17 ?_
    refine x_iadd (np := 11) (x := 0) (v := (2147483808 + 4 * u42)) (by decide +kernel) (by decide) (by first | decide | omega) (by first | decide | omega) (by first | decide | omega) ?_
    refine x_iload (np := 12) (x := 2) (by decide +kernel) rfl (by decide) ?_
    refine x_iadd (np := 13) (x := 0) (v := (2147483811 + 4 * u42)) (by decide +kernel) (by first | decide | omega) (by decide) (by first | decide | omega) (by first | decide | omega) ?_
    refine x_aldC (np := 14) (x := 0) (n := 1952) (i := (163 + 4 * u42)) (q := ((h 76 (163 + 4 * u42)))) (by decide +kernel) (by decide +kernel) (by first | decide | omega) (by first | decide | omega) (by decide) rfl (fun l50 => ?_)
    refine x_retI (np := 15) (x := 0) (by decide +kernel) l50 (Or.inl (by decide +kernel)) ⟨_, rfl, l50, ?_⟩
    refine x_icmp (k := 1) (tg := 159) (np := 138) (by decide +kernel) (by decide) (by first | decide | omega) l50 (fun q51 => ?_) (fun q52 => ?_)
    · have q51 : (2147483648 + u8) ≠ ((h 76 (163 + 4 * u42))) := q51
      refine x_const (np := 160) (x := 9223372039002259456) (a := 2147483648) (by decide +kernel) (by decide) (by decide) ?_
      refine x_retI (np := 161) (x := 0) (by decide +kernel) (by decide) (Or.inr ⟨by decide +kernel, by first | decide | omega, by first | decide | omega⟩) ⟨_, rfl, (by decide), ?_⟩
      exact ⟨rfl, (by first | decide | omega)⟩
    have q52 : ¬ ((2147483648 + u8) ≠ ((h 76 (163 + 4 * u42)))) := q52
    refine x_aload (np := 139) (x := 0) (by decide +kernel) rfl (x_nc_le (by decide)) ?_
    refine x_iload (np := 141) (x := 7) (by decide +kernel) rfl l17 ?_
    refine x_const (np := 142) (x := 9223372047592194050) (a := 2147483650) (by decide +kernel) (by decide) (by decide) ?_
    refine x_nI (t := 6) (mj := 162) (n := 3) (rc := 12) (ml := 3) (nr := 0) (np := 145) (as := [x_r 75, iv_c (h 94 4), iv_c 2147483650]) (rest := []) (lo1 := [x_r 75, iv_c (h 94 4), iv_c 2147483650]) (by decide +kernel) (by decide) (by decide +kernel) (x_rb_of (by decide +kernel)) rfl rfl (x_wr (by decide) (x_wi l17 (x_wi (by decide) x_wn))) x_wn (by decide) rfl ?_
    refine x_aload (np := 1) (x := 0) (by decide +kernel) rfl (x_nc_le (by decide)) ?_
    have q53 : h 75 1 = 76 := by have z := jB (e := 1) 0 hJ rg_75_1_0_1 (by decide) (by decide); omega
    refine x_getR (np := 4) (x := 705) (f := 1) (q := 76) (by decide +kernel) (by decide) (by decide +kernel) q53 ?_
    refine x_const (np := 7) (x := 9223372726197026976) (a := 2147483808) (by decide +kernel) (by decide) (by decide) ?_
    refine x_const (np := 8) (x := 9223372056182128644) (a := 2147483652) (by decide +kernel) (by decide) (by decide) ?_
    refine x_iload (np := 9) (x := 1) (by decide +kernel) rfl l17 ?_
    refine x_imul (np := 10) (x := 0) (i := 4) (j := u42) (v := (2147483648 + 4 * u42)) (by decide +kernel) (by first | decide | omega) (by first | decide | omega) (by first | decide | omega) (by first | decide | omega) (by decide) l17 ?_
    refine x_iadd (np := 11) (x := 0) (v := (2147483808 + 4 * u42)) (by decide +kernel) (by decide) (by first | decide | omega) (by first | decide | omega) (by first | decide | omega) ?_
    refine x_iload (np := 12) (x := 2) (by decide +kernel) rfl (by decide) ?_
    refine x_iadd (np := 13) (x := 0) (v := (2147483810 + 4 * u42)) (by decide +kernel) (by first | decide | omega) (by decide) (by first | decide | omega) (by first | decide | omega) ?_
    refine x_aldC (np := 14) (x := 0) (n := 1952) (i := (162 + 4 * u42)) (q := ((h 76 (162 + 4 * u42)))) (by decide +kernel) (by decide +kernel) (by first | decide | omega) (by first | decide | omega) (by decide) rfl (fun l55 => ?_)
    refine x_retI (np := 15) (x := 0) (by decide +kernel) l55 (Or.inl (by decide +kernel)) ⟨_, rfl, l55, ?_⟩
    refine x_iload (np := 147) (x := 5) (by decide +kernel) rfl (by first | decide | omega) ?_
    refine x_iload (np := 149) (x := 6) (by decide +kernel) rfl (by first | decide | omega) ?_
    refine x_nI (t := 0) (mj := 153) (n := 3) (rc := 0) (ml := 3) (nr := 0) (np := 152) (as := [iv_c ((h 76 (162 + 4 * u42))), iv_c (2147483648 + u12), iv_c (2147483648 + u14)]) (rest := []) (lo1 := [iv_c ((h 76 (162 + 4 * u42))), iv_c (2147483648 + u12), iv_c (2147483648 + u14)]) (by decide +kernel) (by decide) (by decide +kernel) (Or.inl rfl) rfl rfl (x_wi l55 (x_wi (by first | decide | omega) (x_wi (by first | decide | omega) x_wn))) x_wn (by decide) rfl ?_
    refine x_iload (np := 1) (x := 0) (by decide +kernel) rfl l55 ?_
    refine x_iload (np := 2) (x := 1) (by decide +kernel) rfl (by first | decide | omega) ?_
    refine x_icmp (k := 2) (tg := 14) (np := 5) (by decide +kernel) (by decide) l55 (by first | decide | omega) (fun q56 => ?_) (fun q57 => ?_)
    · have q56 : ((h 76 (162 + 4 * u42))) < (2147483648 + u12) := q56
      refine x_const (np := 15) (x := 9223372039002259456) (a := 2147483648) (by decide +kernel) (by decide) (by decide) ?_
      refine x_retI (np := 16) (x := 0) (by decide +kernel) (by decide) (Or.inr ⟨by decide +kernel, by first | decide | omega, by first | decide | omega⟩) ⟨_, rfl, (by decide), ?_⟩
      refine x_ifz (k := 0) (tg := 159) (np := 155) (by decide +kernel) (by decide) (by decide) (fun q58 => ?_) (fun q59 => ?_)
      · have q58 : 2147483648 = 2147483648 := q58
        refine x_const (np := 160) (x := 9223372039002259456) (a := 2147483648) (by decide +kernel) (by decide) (by decide) ?_
        refine x_retI (np := 161) (x := 0) (by decide +kernel) (by decide) (Or.inr ⟨by decide +kernel, by first | decide | omega, by first | decide | omega⟩) ⟨_, rfl, (by decide), ?_⟩
        exact ⟨rfl, (by first | decide | omega)⟩
      have q59 : ¬ (2147483648 = 2147483648) := q59
      exfalso; omega
    have q57 : ¬ (((h 76 (162 + 4 * u42))) < (2147483648 + u12)) := q57
    refine x_iload (np := 6) (x := 0) (by decide +kernel) rfl l55 ?_
    refine x_iload (np := 7) (x := 2) (by decide +kernel) rfl (by first | decide | omega) ?_
    refine x_icmp (k := 4) (tg := 14) (np := 10) (by decide +kernel) (by decide) l55 (by first | decide | omega) (fun q60 => ?_) (fun q61 => ?_)
    · have q60 : (2147483648 + u14) < ((h 76 (162 + 4 * u42))) := q60
      refine x_const (np := 15) (x := 9223372039002259456) (a := 2147483648) (by decide +kernel) (by decide) (by decide) ?_
      refine x_retI (np := 16) (x := 0) (by decide +kernel) (by decide) (Or.inr ⟨by decide +kernel, by first | decide | omega, by first | decide | omega⟩) ⟨_, rfl, (by decide), ?_⟩
      refine x_ifz (k := 0) (tg := 159) (np := 155) (by decide +kernel) (by decide) (by decide) (fun q62 => ?_) (fun q63 => ?_)
      · have q62 : 2147483648 = 2147483648 := q62
        refine x_const (np := 160) (x := 9223372039002259456) (a := 2147483648) (by decide +kernel) (by decide) (by decide) ?_
        refine x_retI (np := 161) (x := 0) (by decide +kernel) (by decide) (Or.inr ⟨by decide +kernel, by first | decide | omega, by first | decide | omega⟩) ⟨_, rfl, (by decide), ?_⟩
        exact ⟨rfl, (by first | decide | omega)⟩
      have q63 : ¬ (2147483648 = 2147483648) := q63
      exfalso; omega
    have q61 : ¬ ((2147483648 + u14) < ((h 76 (162 + 4 * u42)))) := q61
    refine x_const (np := 11) (x := 9223372043297226753) (a := 2147483649) (by decide +kernel) (by decide) (by decide) ?_
    refine x_goto (np := 14) (x := 15) (by decide +kernel) ?_
    refine x_retI (np := 16) (x := 0) (by decide +kernel) (by decide) (Or.inr ⟨by decide +kernel, by first | decide | omega, by first | decide | omega⟩) ⟨_, rfl, (by decide), ?_⟩
    refine x_ifz (k := 0) (tg := 159) (np := 155) (by decide +kernel) (by decide) (by decide) (fun q64 => ?_) (fun q65 => ?_)
    · have q64 : 2147483649 = 2147483648 := q64
      exfalso; omega
    have q65 : ¬ (2147483649 = 2147483648) := q65
    refine x_const (np := 156) (x := 9223372043297226753) (a := 2147483649) (by decide +kernel) (by decide) (by decide) ?_
    refine x_goto (np := 159) (x := 160) (by decide +kernel) ?_
    refine x_retI (np := 161) (x := 0) (by decide +kernel) (by decide) (Or.inr ⟨by decide +kernel, by first | decide | omega, by first | decide | omega⟩) ⟨_, rfl, (by decide), ?_⟩
    exact ⟨rfl, (by first | decide | omega)⟩
  have q21 : ¬ ((h 75 33) ≠ 2147483648) := q21
  refine x_iload (np := 39) (x := 3) (by decide +kernel) rfl (by first | decide | omega) ?_
  refine x_aload (np := 40) (x := 0) (by decide +kernel) rfl (x_nc_le (by decide)) ?_
  refine x_iload (np := 42) (x := 7) (by decide +kernel) rfl l17 ?_
  refine x_const (np := 43) (x := 9223372039002259456) (a := 2147483648) (by decide +kernel) (by decide) (by decide) ?_
  refine x_nI (t := 6) (mj := 164) (n := 3) (rc := 12) (ml := 3) (nr := 1) (np := 46) (as := [x_r 75, iv_c (h 94 4), iv_c 2147483648]) (rest := [iv_c (2147483648 + u4)]) (lo1 := [x_r 75, iv_c (h 94 4), iv_c 2147483648]) (by decide +kernel) (by decide) (by decide +kernel) (x_rb_of (by decide +kernel)) rfl rfl (x_wr (by decide) (x_wi l17 (x_wi (by decide) x_wn))) (x_wi (by first | decide | omega) x_wn) (by decide) rfl ?_
  refine x_aload (np := 1) (x := 0) (by decide +kernel) rfl (x_nc_le (by decide)) ?_
  have q66 : h 75 1 = 76 := by have z := jB (e := 1) 0 hJ rg_75_1_0_1 (by decide) (by decide); omega
  refine x_getR (np := 4) (x := 705) (f := 1) (q := 76) (by decide +kernel) (by decide) (by decide +kernel) q66 ?_
  refine x_const (np := 7) (x := 9223373112744083706) (a := 2147483898) (by decide +kernel) (by decide) (by decide) ?_
  refine x_const (np := 8) (x := 9223372056182128644) (a := 2147483652) (by decide +kernel) (by decide) (by decide) ?_
  refine x_iload (np := 9) (x := 1) (by decide +kernel) rfl l17 ?_
  obtain ⟨u67, q68⟩ : ∃ z, (h 94 4) = 2147483648 + z := ⟨(h 94 4) - 2147483648, by first | decide | omega⟩
  refine x_imul (np := 10) (x := 0) (i := 4) (j := u67) (v := (2147483648 + 4 * u67)) (by decide +kernel) (by first | decide | omega) (by first | decide | omega) (by first | decide | omega) (by first | decide | omega) (by decide) l17 ?_
  refine x_iadd (np := 11) (x := 0) (v := (2147483898 + 4 * u67)) (by decide +kernel) (by decide) (by first | decide | omega) (by first | decide | omega) (by first | decide | omega) ?_
  refine x_iload (np := 12) (x := 2) (by decide +kernel) rfl (by decide) ?_
  refine x_iadd (np := 13) (x := 0) (v := (2147483898 + 4 * u67)) (by decide +kernel) (by first | decide | omega) (by decide) (by first | decide | omega) (by first | decide | omega) ?_
  refine x_aldC (np := 14) (x := 0) (n := 1952) (i := (250 + 4 * u67)) (q := ((h 76 (250 + 4 * u67)))) (by decide +kernel) (by decide +kernel) (by first | decide | omega) (by first | decide | omega) (by decide) rfl (fun l70 => ?_)
  refine x_retI (np := 15) (x := 0) (by decide +kernel) l70 (Or.inl (by decide +kernel)) ⟨_, rfl, l70, ?_⟩
  refine x_icmp (k := 1) (tg := 106) (np := 49) (by decide +kernel) (by decide) (by first | decide | omega) l70 (fun q71 => ?_) (fun q72 => ?_)
  · have q71 : (2147483648 + u4) ≠ ((h 76 (250 + 4 * u67))) := q71
    refine x_const (np := 107) (x := 9223372039002259456) (a := 2147483648) (by decide +kernel) (by decide) (by decide) ?_
    refine x_retI (np := 108) (x := 0) (by decide +kernel) (by decide) (Or.inr ⟨by decide +kernel, by first | decide | omega, by first | decide | omega⟩) ⟨_, rfl, (by decide), ?_⟩
    exact ⟨rfl, (by first | decide | omega)⟩
  have q72 : ¬ ((2147483648 + u4) ≠ ((h 76 (250 + 4 * u67)))) := q72
  refine x_aload (np := 50) (x := 0) (by decide +kernel) rfl (x_nc_le (by decide)) ?_
  refine x_iload (np := 52) (x := 7) (by decide +kernel) rfl l17 ?_
  refine x_const (np := 53) (x := 9223372047592194050) (a := 2147483650) (by decide +kernel) (by decide) (by decide) ?_
  refine x_nI (t := 6) (mj := 164) (n := 3) (rc := 12) (ml := 3) (nr := 0) (np := 56) (as := [x_r 75, iv_c (h 94 4), iv_c 2147483650]) (rest := []) (lo1 := [x_r 75, iv_c (h 94 4), iv_c 2147483650]) (by decide +kernel) (by decide) (by decide +kernel) (x_rb_of (by decide +kernel)) rfl rfl (x_wr (by decide) (x_wi l17 (x_wi (by decide) x_wn))) x_wn (by decide) rfl ?_
  refine x_aload (np := 1) (x := 0) (by decide +kernel) rfl (x_nc_le (by decide)) ?_
  have q73 : h 75 1 = 76 := by have z := jB (e := 1) 0 hJ rg_75_1_0_1 (by decide) (by decide); omega
  refine x_getR (np := 4) (x := 705) (f := 1) (q := 76) (by decide +kernel) (by decide) (by decide +kernel) q73 ?_
  refine x_const (np := 7) (x := 9223373112744083706) (a := 2147483898) (by decide +kernel) (by decide) (by decide) ?_
  refine x_const (np := 8) (x := 9223372056182128644) (a := 2147483652) (by decide +kernel) (by decide) (by decide) ?_
  refine x_iload (np := 9) (x := 1) (by decide +kernel) rfl l17 ?_
  refine x_imul (np := 10) (x := 0) (i := 4) (j := u67) (v := (2147483648 + 4 * u67)) (by decide +kernel) (by first | decide | omega) (by first | decide | omega) (by first | decide | omega) (by first | decide | omega) (by decide) l17 ?_
  refine x_iadd (np := 11) (x := 0) (v := (2147483898 + 4 * u67)) (by decide +kernel) (by decide) (by first | decide | omega) (by first | decide | omega) (by first | decide | omega) ?_
  refine x_iload (np := 12) (x := 2) (by decide +kernel) rfl (by decide) ?_
  refine x_iadd (np := 13) (x := 0) (v := (2147483900 + 4 * u67)) (by decide +kernel) (by first | decide | omega) (by decide) (by first | decide | omega) (by first | decide | omega) ?_
  refine x_aldC (np := 14) (x := 0) (n := 1952) (i := (252 + 4 * u67)) (q := ((h 76 (252 + 4 * u67)))) (by decide +kernel) (by decide +kernel) (by first | decide | omega) (by first | decide | omega) (by decide) rfl (fun l75 => ?_)
  refine x_retI (np := 15) (x := 0) (by decide +kernel) l75 (Or.inl (by decide +kernel)) ⟨_, rfl, l75, ?_⟩
  refine x_iload (np := 58) (x := 4) (by decide +kernel) rfl (by first | decide | omega) ?_
  refine x_any (np := 59) (k9 := 4) (by decide +kernel) (by decide) l75 (by first | decide | omega) (fun v76 l77 => ?_)
  refine x_const (np := 60) (x := 9223372043297226753) (a := 2147483649) (by decide +kernel) (by decide) (by decide) ?_
  refine x_mask (np := 61) (m := 1) (k9 := 2) (by decide +kernel) l77 (by decide +kernel) (by decide) (by decide) (by decide) (fun u78 l79 => ?_)
  refine x_const (np := 62) (x := 9223372043297226753) (a := 2147483649) (by decide +kernel) (by decide) (by decide) ?_
  refine x_icmp (k := 1) (tg := 106) (np := 65) (by decide +kernel) (by decide) (by first | decide | omega) (by decide) (fun q80 => ?_) (fun q81 => ?_)
  · have q80 : (2147483648 + u78) ≠ 2147483649 := q80
    refine x_const (np := 107) (x := 9223372039002259456) (a := 2147483648) (by decide +kernel) (by decide) (by decide) ?_
    refine x_retI (np := 108) (x := 0) (by decide +kernel) (by decide) (Or.inr ⟨by decide +kernel, by first | decide | omega, by first | decide | omega⟩) ⟨_, rfl, (by decide), ?_⟩
    exact ⟨rfl, (by first | decide | omega)⟩
  have q81 : ¬ ((2147483648 + u78) ≠ 2147483649) := q81
  refine x_aload (np := 66) (x := 0) (by decide +kernel) rfl (x_nc_le (by decide)) ?_
  refine x_iload (np := 68) (x := 7) (by decide +kernel) rfl l17 ?_
  refine x_const (np := 69) (x := 9223372043297226753) (a := 2147483649) (by decide +kernel) (by decide) (by decide) ?_
  refine x_nI (t := 6) (mj := 164) (n := 3) (rc := 12) (ml := 3) (nr := 0) (np := 72) (as := [x_r 75, iv_c (h 94 4), iv_c 2147483649]) (rest := []) (lo1 := [x_r 75, iv_c (h 94 4), iv_c 2147483649]) (by decide +kernel) (by decide) (by decide +kernel) (x_rb_of (by decide +kernel)) rfl rfl (x_wr (by decide) (x_wi l17 (x_wi (by decide) x_wn))) x_wn (by decide) rfl ?_
  refine x_aload (np := 1) (x := 0) (by decide +kernel) rfl (x_nc_le (by decide)) ?_
  have q82 : h 75 1 = 76 := by have z := jB (e := 1) 0 hJ rg_75_1_0_1 (by decide) (by decide); omega
  refine x_getR (np := 4) (x := 705) (f := 1) (q := 76) (by decide +kernel) (by decide) (by decide +kernel) q82 ?_
  refine x_const (np := 7) (x := 9223373112744083706) (a := 2147483898) (by decide +kernel) (by decide) (by decide) ?_
  refine x_const (np := 8) (x := 9223372056182128644) (a := 2147483652) (by decide +kernel) (by decide) (by decide) ?_
  refine x_iload (np := 9) (x := 1) (by decide +kernel) rfl l17 ?_
  refine x_imul (np := 10) (x := 0) (i := 4) (j := u67) (v := (2147483648 + 4 * u67)) (by decide +kernel) (by first | decide | omega) (by first | decide | omega) (by first | decide | omega) (by first | decide | omega) (by decide) l17 ?_
  refine x_iadd (np := 11) (x := 0) (v := (2147483898 + 4 * u67)) (by decide +kernel) (by decide) (by first | decide | omega) (by first | decide | omega) (by first | decide | omega) ?_
  refine x_iload (np := 12) (x := 2) (by decide +kernel) rfl (by decide) ?_
  refine x_iadd (np := 13) (x := 0) (v := (2147483899 + 4 * u67)) (by decide +kernel) (by first | decide | omega) (by decide) (by first | decide | omega) (by first | decide | omega) ?_
  refine x_aldC (np := 14) (x := 0) (n := 1952) (i := (251 + 4 * u67)) (q := ((h 76 (251 + 4 * u67)))) (by decide +kernel) (by decide +kernel) (by first | decide | omega) (by first | decide | omega) (by decide) rfl (fun l84 => ?_)
  refine x_retI (np := 15) (x := 0) (by decide +kernel) l84 (Or.inl (by decide +kernel)) ⟨_, rfl, l84, ?_⟩
  refine x_iload (np := 74) (x := 5) (by decide +kernel) rfl (by first | decide | omega) ?_
  refine x_iload (np := 76) (x := 6) (by decide +kernel) rfl (by first | decide | omega) ?_
  refine x_nI (t := 0) (mj := 153) (n := 3) (rc := 0) (ml := 3) (nr := 0) (np := 79) (as := [iv_c ((h 76 (251 + 4 * u67))), iv_c (2147483648 + u12), iv_c (2147483648 + u14)]) (rest := []) (lo1 := [iv_c ((h 76 (251 + 4 * u67))), iv_c (2147483648 + u12), iv_c (2147483648 + u14)]) (by decide +kernel) (by decide) (by decide +kernel) (Or.inl rfl) rfl rfl (x_wi l84 (x_wi (by first | decide | omega) (x_wi (by first | decide | omega) x_wn))) x_wn (by decide) rfl ?_
  refine x_iload (np := 1) (x := 0) (by decide +kernel) rfl l84 ?_
  refine x_iload (np := 2) (x := 1) (by decide +kernel) rfl (by first | decide | omega) ?_
  refine x_icmp (k := 2) (tg := 14) (np := 5) (by decide +kernel) (by decide) l84 (by first | decide | omega) (fun q85 => ?_) (fun q86 => ?_)
  · have q85 : ((h 76 (251 + 4 * u67))) < (2147483648 + u12) := q85
    refine x_const (np := 15) (x := 9223372039002259456) (a := 2147483648) (by decide +kernel) (by decide) (by decide) ?_
    refine x_retI (np := 16) (x := 0) (by decide +kernel) (by decide) (Or.inr ⟨by decide +kernel, by first | decide | omega, by first | decide | omega⟩) ⟨_, rfl, (by decide), ?_⟩
    refine x_ifz (k := 0) (tg := 106) (np := 82) (by decide +kernel) (by decide) (by decide) (fun q87 => ?_) (fun q88 => ?_)
    · have q87 : 2147483648 = 2147483648 := q87
      refine x_const (np := 107) (x := 9223372039002259456) (a := 2147483648) (by decide +kernel) (by decide) (by decide) ?_
      refine x_retI (np := 108) (x := 0) (by decide +kernel) (by decide) (Or.inr ⟨by decide +kernel, by first | decide | omega, by first | decide | omega⟩) ⟨_, rfl, (by decide), ?_⟩
      exact ⟨rfl, (by first | decide | omega)⟩
    have q88 : ¬ (2147483648 = 2147483648) := q88
    exfalso; omega
  have q86 : ¬ (((h 76 (251 + 4 * u67))) < (2147483648 + u12)) := q86
  refine x_iload (np := 6) (x := 0) (by decide +kernel) rfl l84 ?_
  refine x_iload (np := 7) (x := 2) (by decide +kernel) rfl (by first | decide | omega) ?_
  refine x_icmp (k := 4) (tg := 14) (np := 10) (by decide +kernel) (by decide) l84 (by first | decide | omega) (fun q89 => ?_) (fun q90 => ?_)
  · have q89 : (2147483648 + u14) < ((h 76 (251 + 4 * u67))) := q89
    refine x_const (np := 15) (x := 9223372039002259456) (a := 2147483648) (by decide +kernel) (by decide) (by decide) ?_
    refine x_retI (np := 16) (x := 0) (by decide +kernel) (by decide) (Or.inr ⟨by decide +kernel, by first | decide | omega, by first | decide | omega⟩) ⟨_, rfl, (by decide), ?_⟩
    refine x_ifz (k := 0) (tg := 106) (np := 82) (by decide +kernel) (by decide) (by decide) (fun q91 => ?_) (fun q92 => ?_)
    · have q91 : 2147483648 = 2147483648 := q91
      refine x_const (np := 107) (x := 9223372039002259456) (a := 2147483648) (by decide +kernel) (by decide) (by decide) ?_
      refine x_retI (np := 108) (x := 0) (by decide +kernel) (by decide) (Or.inr ⟨by decide +kernel, by first | decide | omega, by first | decide | omega⟩) ⟨_, rfl, (by decide), ?_⟩
      exact ⟨rfl, (by first | decide | omega)⟩
    have q92 : ¬ (2147483648 = 2147483648) := q92
    exfalso; omega
  have q90 : ¬ ((2147483648 + u14) < ((h 76 (251 + 4 * u67)))) := q90
  refine x_const (np := 11) (x := 9223372043297226753) (a := 2147483649) (by decide +kernel) (by decide) (by decide) ?_
  refine x_goto (np := 14) (x := 15) (by decide +kernel) ?_
  refine x_retI (np := 16) (x := 0) (by decide +kernel) (by decide) (Or.inr ⟨by decide +kernel, by first | decide | omega, by first | decide | omega⟩) ⟨_, rfl, (by decide), ?_⟩
  refine x_ifz (k := 0) (tg := 106) (np := 82) (by decide +kernel) (by decide) (by decide) (fun q93 => ?_) (fun q94 => ?_)
  · have q93 : 2147483649 = 2147483648 := q93
    exfalso; omega
  have q94 : ¬ (2147483649 = 2147483648) := q94
  refine x_aload (np := 83) (x := 0) (by decide +kernel) rfl (x_nc_le (by decide)) ?_
  refine x_iload (np := 84) (x := 3) (by decide +kernel) rfl (by first | decide | omega) ?_
  refine x_iload (np := 86) (x := 5) (by decide +kernel) rfl (by first | decide | omega) ?_
  refine x_cP (t := 6) (mj := 255) (n := 3) (rc := 12) (ml := 5) (nr := 0) (np := 89) (as := [x_r 75, iv_c (2147483648 + u4), iv_c (2147483648 + u12)]) (rest := []) (lo1 := [x_r 75, iv_c (2147483648 + u4), iv_c (2147483648 + u12), 147573952589676412928, 147573952589676412928]) (by decide +kernel) (by decide) (by decide +kernel) (x_rb_of (by decide +kernel)) rfl rfl (x_wr (by decide) (x_wi (by first | decide | omega) (x_wi (by first | decide | omega) x_wn))) x_wn (by decide) rfl (c255_75 hJ  (by first | decide | omega) (by first | decide | omega)) (fun v95 l96 q97 => ?_)
  refine x_ifz (k := 0) (tg := 106) (np := 92) (by decide +kernel) (by decide) l96 (fun q98 => ?_) (fun q99 => ?_)
  · have q98 : v95 = 2147483648 := q98
    refine x_const (np := 107) (x := 9223372039002259456) (a := 2147483648) (by decide +kernel) (by decide) (by decide) ?_
    refine x_retI (np := 108) (x := 0) (by decide +kernel) (by decide) (Or.inr ⟨by decide +kernel, by first | decide | omega, by first | decide | omega⟩) ⟨_, rfl, (by decide), ?_⟩
    exact ⟨rfl, (by first | decide | omega)⟩
  have q99 : ¬ (v95 = 2147483648) := q99
  refine x_aload (np := 93) (x := 0) (by decide +kernel) rfl (x_nc_le (by decide)) ?_
  refine x_iload (np := 94) (x := 3) (by decide +kernel) rfl (by first | decide | omega) ?_
  refine x_iload (np := 96) (x := 6) (by decide +kernel) rfl (by first | decide | omega) ?_
  refine x_cP (t := 6) (mj := 255) (n := 3) (rc := 12) (ml := 5) (nr := 0) (np := 99) (as := [x_r 75, iv_c (2147483648 + u4), iv_c (2147483648 + u14)]) (rest := []) (lo1 := [x_r 75, iv_c (2147483648 + u4), iv_c (2147483648 + u14), 147573952589676412928, 147573952589676412928]) (by decide +kernel) (by decide) (by decide +kernel) (x_rb_of (by decide +kernel)) rfl rfl (x_wr (by decide) (x_wi (by first | decide | omega) (x_wi (by first | decide | omega) x_wn))) x_wn (by decide) rfl (c255_75 hJ  (by first | decide | omega) (by first | decide | omega)) (fun v100 l101 q102 => ?_)
  refine x_ifz (k := 0) (tg := 106) (np := 102) (by decide +kernel) (by decide) l101 (fun q103 => ?_) (fun q104 => ?_)
  · have q103 : v100 = 2147483648 := q103
    refine x_const (np := 107) (x := 9223372039002259456) (a := 2147483648) (by decide +kernel) (by decide) (by decide) ?_
    refine x_retI (np := 108) (x := 0) (by decide +kernel) (by decide) (Or.inr ⟨by decide +kernel, by first | decide | omega, by first | decide | omega⟩) ⟨_, rfl, (by decide), ?_⟩
    exact ⟨rfl, (by first | decide | omega)⟩
  have q104 : ¬ (v100 = 2147483648) := q104
  refine x_const (np := 103) (x := 9223372043297226753) (a := 2147483649) (by decide +kernel) (by decide) (by decide) ?_
  refine x_goto (np := 106) (x := 107) (by decide +kernel) ?_
  refine x_retI (np := 108) (x := 0) (by decide +kernel) (by decide) (Or.inr ⟨by decide +kernel, by first | decide | omega, by first | decide | omega⟩) ⟨_, rfl, (by decide), ?_⟩
  exact ⟨rfl, (by first | decide | omega)⟩
set_option maxHeartbeats 0 in
/-- LentNamesModel.nextOf(I)I -/
theorem c257_75_c4 {sc : Nat × Nat} {d  : Nat} {h : xh} (hJ : J h) (hr0 : 2147483648 ≤ (h 94 4)) : X sc 257 (d + 4) (xI fun r h' => h' = h ∧ (2147483647 ≤ r ∧ r ≤ 2147488831)) 0 0 0 [x_r 75, iv_c 2147483652, 147573952589676412928] [] h := by
  have b1 := jB (e := 4) 4 hJ rg_94_0_1_6 (by first | decide | omega) (by first | decide | omega)
  refine x_aload (np := 1) (x := 0) (by decide +kernel) rfl (x_nc_le (by decide)) ?_
  have q2 : h 75 27 = 93 := by have z := jB (e := 27) 0 hJ rg_75_27_0_1 (by decide) (by decide); omega
  refine x_getR (np := 4) (x := 731) (f := 27) (q := 93) (by decide +kernel) (by decide) (by decide +kernel) q2 ?_
  refine x_iload (np := 5) (x := 1) (by decide +kernel) rfl (by decide) ?_
  have b3 := jB (e := 4) 4 hJ rg_93_0_1_6 (by first | decide | omega) (by first | decide | omega)
  refine x_aldC (np := 6) (x := 0) (n := 6) (i := 4) (q := (h 93 4)) (by decide +kernel) (by decide +kernel) (by first | decide | omega) (by first | decide | omega) (by decide) rfl (fun l4 => ?_)
  refine x_const (np := 7) (x := 9223372043297226753) (a := 2147483649) (by decide +kernel) (by decide) (by decide) ?_
  refine x_iadd (np := 8) (x := 0) (v := (1 + (h 93 4))) (by decide +kernel) l4 (by decide) (by first | decide | omega) (by first | decide | omega) ?_
  refine x_istore (np := 9) (x := 2) (lo' := [x_r 75, iv_c 2147483652, iv_c (1 + (h 93 4))]) (by decide +kernel) (by first | decide | omega) (Nat.le_of_ble_eq_true rfl) rfl ?_
  have p21 : ∀ (n : Nat) (v19 : Nat), 4294967296 - v19 < n → (2147483648 ≤ v19 ∧ v19 ≤ 2147488832) → X sc 257 (d + 4) (xI fun r h' => h' = h ∧ (2147483647 ≤ r ∧ r ≤ 2147488831)) 0 0 9 [x_r 75, iv_c 2147483652, iv_c v19] [] h := by
    intro n
    induction n with
    | zero => intro v19 q22; exact absurd q22 (Nat.not_lt_zero _)
    | succ n i23 =>
      intro v19 q22 b20
      refine x_iload (np := 10) (x := 2) (by decide +kernel) rfl (by first | decide | omega) ?_
      refine x_const (np := 13) (x := 9223394304112727104) (a := 2147488832) (by decide +kernel) (by decide) (by decide) ?_
      refine x_icmp (k := 3) (tg := 39) (np := 16) (by decide +kernel) (by decide) (by first | decide | omega) (by decide) (fun q24 => ?_) (fun q25 => ?_)
      · have q24 : 2147488832 ≤ v19 := q24
        refine x_iload (np := 40) (x := 2) (by decide +kernel) rfl (by first | decide | omega) ?_
        refine x_const (np := 43) (x := 9223394304112727104) (a := 2147488832) (by decide +kernel) (by decide) (by decide) ?_
        refine x_icmp (k := 3) (tg := 50) (np := 46) (by decide +kernel) (by decide) (by first | decide | omega) (by decide) (fun q26 => ?_) (fun q27 => ?_)
        · have q26 : 2147488832 ≤ v19 := q26
          refine x_const (np := 51) (x := 9223372034707292159) (a := 2147483647) (by decide +kernel) (by decide) (by decide) ?_
          refine x_retI (np := 52) (x := 0) (by decide +kernel) (by decide) (Or.inl (by decide +kernel)) ⟨_, rfl, (by decide), ?_⟩
          exact ⟨rfl, (by first | decide | omega)⟩
        have q27 : ¬ (2147488832 ≤ v19) := q27
        exfalso; omega
      have q25 : ¬ (2147488832 ≤ v19) := q25
      refine x_aload (np := 17) (x := 0) (by decide +kernel) rfl (x_nc_le (by decide)) ?_
      refine x_iload (np := 18) (x := 1) (by decide +kernel) rfl (by decide) ?_
      refine x_iload (np := 19) (x := 2) (by decide +kernel) rfl (by first | decide | omega) ?_
      refine x_cP (t := 6) (mj := 256) (n := 3) (rc := 12) (ml := 8) (nr := 0) (np := 22) (as := [x_r 75, iv_c 2147483652, iv_c v19]) (rest := []) (lo1 := [x_r 75, iv_c 2147483652, iv_c v19, 147573952589676412928, 147573952589676412928, 147573952589676412928, 147573952589676412928, 147573952589676412928]) (by decide +kernel) (by decide) (by decide +kernel) (x_rb_of (by decide +kernel)) rfl rfl (x_wr (by decide) (x_wi (by decide) (x_wi (by first | decide | omega) x_wn))) x_wn (by decide) rfl (c256_75_c4 hJ   (by first | decide | omega) (by first | decide | omega)) (fun v28 l29 q30 => ?_)
      refine x_ifz (k := 0) (tg := 33) (np := 25) (by decide +kernel) (by decide) l29 (fun q31 => ?_) (fun q32 => ?_)
      · have q31 : v28 = 2147483648 := q31
        refine x_iinc (np := 36) (i := 2) (j := 2147483649) (v := (1 + v19)) (lo' := [x_r 75, iv_c 2147483652, iv_c (1 + v19)]) (by decide +kernel) (by decide) (by decide) rfl (by first | decide | omega) (by first | decide | omega) (by first | decide | omega) rfl ?_
        refine x_goto (np := 39) (x := 9) (by decide +kernel) ?_
        exact i23 (1 + v19) (by first | decide | omega) (by first | decide | omega)
      have q32 : ¬ (v28 = 2147483648) := q32
      refine x_aload (np := 26) (x := 0) (by decide +kernel) rfl (x_nc_le (by decide)) ?_
      refine x_iload (np := 27) (x := 2) (by decide +kernel) rfl (by first | decide | omega) ?_
      refine x_cP (t := 6) (mj := 247) (n := 2) (rc := 12) (ml := 6) (nr := 0) (np := 30) (as := [x_r 75, iv_c v19]) (rest := []) (lo1 := [x_r 75, iv_c v19, 147573952589676412928, 147573952589676412928, 147573952589676412928, 147573952589676412928]) (by decide +kernel) (by decide) (by decide +kernel) (x_rb_of (by decide +kernel)) rfl rfl (x_wr (by decide) (x_wi (by first | decide | omega) x_wn)) x_wn (by decide) rfl (c247_75 hJ  (by first | decide | omega)) (fun v33 l34 q35 => ?_)
      refine x_ifz (k := 1) (tg := 39) (np := 33) (by decide +kernel) (by decide) l34 (fun q36 => ?_) (fun q37 => ?_)
      · have q36 : v33 ≠ 2147483648 := q36
        refine x_iload (np := 40) (x := 2) (by decide +kernel) rfl (by first | decide | omega) ?_
        refine x_const (np := 43) (x := 9223394304112727104) (a := 2147488832) (by decide +kernel) (by decide) (by decide) ?_
        refine x_icmp (k := 3) (tg := 50) (np := 46) (by decide +kernel) (by decide) (by first | decide | omega) (by decide) (fun q38 => ?_) (fun q39 => ?_)
        · have q38 : 2147488832 ≤ v19 := q38
          exfalso; omega
        have q39 : ¬ (2147488832 ≤ v19) := q39
        refine x_iload (np := 47) (x := 2) (by decide +kernel) rfl (by first | decide | omega) ?_
        refine x_goto (np := 50) (x := 51) (by decide +kernel) ?_
        refine x_retI (np := 52) (x := 0) (by decide +kernel) (by first | decide | omega) (Or.inl (by decide +kernel)) ⟨_, rfl, (by first | decide | omega), ?_⟩
        exact ⟨rfl, (by first | decide | omega)⟩
      have q37 : ¬ (v33 ≠ 2147483648) := q37
      refine x_iinc (np := 36) (i := 2) (j := 2147483649) (v := (1 + v19)) (lo' := [x_r 75, iv_c 2147483652, iv_c (1 + v19)]) (by decide +kernel) (by decide) (by decide) rfl (by first | decide | omega) (by first | decide | omega) (by first | decide | omega) rfl ?_
      refine x_goto (np := 39) (x := 9) (by decide +kernel) ?_
      exact i23 (1 + v19) (by first | decide | omega) (by first | decide | omega)
  exact p21 _ (1 + (h 93 4)) (Nat.lt_succ_self _) (by first | decide | omega)
set_option maxHeartbeats 0 in
/-- LentNamesModel.goes(I)Z -/
theorem c259_75_c5 {sc : Nat × Nat} {d  : Nat} {h : xh} (hJ : J h) (hr0 : (h 75 30) ≤ 2147503648) : X sc 259 (d + 5) (xI fun r h' => J h' ∧ Fr 39376260300801 h h' ∧ (2147483648 ≤ r ∧ r ≤ 2147483649) ∧ (r = 2147483649 → h' 75 30 ≤ 2147503648)) 0 0 0 [x_r 75, iv_c 2147483653, 147573952589676412928, 147573952589676412928, 147573952589676412928, 147573952589676412928] [] h := by
  have hF := Fr.refl 39376260300801 h
  have b1 := jB (e := 30) 0 hJ rg_75_30_0_1 (by first | decide | omega) (by first | decide | omega)
  refine x_aload (np := 1) (x := 0) (by decide +kernel) rfl (x_nc_le (by decide)) ?_
  refine x_const (np := 2) (x := 9223372039002259456) (a := 2147483648) (by decide +kernel) (by decide) (by decide) ?_
  refine x_putI (np := 5) (x := 738) (f := 34) (by decide +kernel) (by decide +kernel) (by decide) (Or.inl (by decide)) ?_
  have j3 := jU (e := 34) (v := 2147483648) 0 hJ rg_75_34_0_1 (by first | decide | omega) (by first | decide | omega) (by first | decide | omega)
  have f5 := jF (e := 34) (v := 2147483648) 0 hF rg_75_34_0_1 (by first | decide | omega) (by first | decide | omega) (by decide)
  generalize e4 : x_up h 75 34 2147483648 = h2 at j3 f5 ⊢
  refine x_const (np := 6) (x := 9223372039002259456) (a := 2147483648) (by decide +kernel) (by decide) (by decide) ?_
  refine x_istore (np := 7) (x := 2) (lo' := [x_r 75, iv_c 2147483653, iv_c 2147483648, 147573952589676412928, 147573952589676412928, 147573952589676412928]) (by decide +kernel) (by decide) (Nat.le_of_ble_eq_true rfl) rfl ?_
  refine x_const (np := 8) (x := 9223372039002259456) (a := 2147483648) (by decide +kernel) (by decide) (by decide) ?_
  refine x_istore (np := 9) (x := 3) (lo' := [x_r 75, iv_c 2147483653, iv_c 2147483648, iv_c 2147483648, 147573952589676412928, 147573952589676412928]) (by decide +kernel) (by decide) (Nat.le_of_ble_eq_true rfl) rfl ?_
  refine x_const (np := 10) (x := 9223372043297226753) (a := 2147483649) (by decide +kernel) (by decide) (by decide) ?_
  refine x_istore (np := 12) (x := 4) (lo' := [x_r 75, iv_c 2147483653, iv_c 2147483648, iv_c 2147483648, iv_c 2147483649, 147573952589676412928]) (by decide +kernel) (by decide) (Nat.le_of_ble_eq_true rfl) rfl ?_
  have p3876 : ∀ (n : Nat), (∀ (w3878 : Nat) (w3879 : Nat) (h3880 : xh), 16 * (4294967296 - h3880 75 30) + 1 < n → J h3880 → Fr 39376260300801 h2 h3880 → (2147483648 ≤ h3880 75 30 ∧ h3880 75 30 ≤ 2147503648) → X sc 259 (d + 5) (xI fun r h' => J h' ∧ Fr 39376260300801 h h' ∧ (2147483648 ≤ r ∧ r ≤ 2147483649) ∧ (r = 2147483649 → h' 75 30 ≤ 2147503648)) 0 0 12 [x_r 75, iv_c 2147483653, iv_c 2147483648, w3878, iv_c 2147483649, w3879] [] h3880) ∧ (∀ (w3884 : Nat) (w3885 : Nat) (h3886 : xh), 16 * (4294967296 - h3886 75 30) + 2 < n → J h3886 → Fr 39376260300801 h2 h3886 → (2147483648 ≤ h3886 75 30 ∧ h3886 75 30 ≤ 2147503648) → X sc 259 (d + 5) (xI fun r h' => J h' ∧ Fr 39376260300801 h h' ∧ (2147483648 ≤ r ∧ r ≤ 2147483649) ∧ (r = 2147483649 → h' 75 30 ≤ 2147503648)) 0 0 12 [x_r 75, iv_c 2147483653, iv_c 2147483649, w3884, iv_c 2147483649, w3885] [] h3886) ∧ (∀ (w3890 : Nat) (w3891 : Nat) (h3892 : xh), 16 * (4294967296 - h3892 75 30) + 3 < n → J h3892 → Fr 39376260300801 h2 h3892 → (2147483648 ≤ h3892 75 30 ∧ h3892 75 30 ≤ 2147503648) → X sc 259 (d + 5) (xI fun r h' => J h' ∧ Fr 39376260300801 h h' ∧ (2147483648 ≤ r ∧ r ≤ 2147483649) ∧ (r = 2147483649 → h' 75 30 ≤ 2147503648)) 0 0 12 [x_r 75, iv_c 2147483653, iv_c 2147483650, w3890, iv_c 2147483649, w3891] [] h3892) ∧ (∀ (w3896 : Nat) (w3897 : Nat) (h3898 : xh), 16 * (4294967296 - h3898 75 30) + 4 < n → J h3898 → Fr 39376260300801 h2 h3898 → (2147483648 ≤ h3898 75 30 ∧ h3898 75 30 ≤ 2147503648) → X sc 259 (d + 5) (xI fun r h' => J h' ∧ Fr 39376260300801 h h' ∧ (2147483648 ≤ r ∧ r ≤ 2147483649) ∧ (r = 2147483649 → h' 75 30 ≤ 2147503648)) 0 0 12 [x_r 75, iv_c 2147483653, iv_c 2147483651, w3896, iv_c 2147483649, w3897] [] h3898) ∧ (∀ (w3902 : Nat) (w3903 : Nat) (h3904 : xh), 16 * (4294967296 - h3904 75 30) + 5 < n → J h3904 → Fr 39376260300801 h2 h3904 → (2147483648 ≤ h3904 75 30 ∧ h3904 75 30 ≤ 2147503648) → X sc 259 (d + 5) (xI fun r h' => J h' ∧ Fr 39376260300801 h h' ∧ (2147483648 ≤ r ∧ r ≤ 2147483649) ∧ (r = 2147483649 → h' 75 30 ≤ 2147503648)) 0 0 12 [x_r 75, iv_c 2147483653, iv_c 2147483652, w3902, iv_c 2147483649, w3903] [] h3904) ∧ (∀ (w3908 : Nat) (w3909 : Nat) (h3910 : xh), 16 * (4294967296 - h3910 75 30) + 6 < n → J h3910 → Fr 39376260300801 h2 h3910 → (2147483648 ≤ h3910 75 30 ∧ h3910 75 30 ≤ 2147503648) → X sc 259 (d + 5) (xI fun r h' => J h' ∧ Fr 39376260300801 h h' ∧ (2147483648 ≤ r ∧ r ≤ 2147483649) ∧ (r = 2147483649 → h' 75 30 ≤ 2147503648)) 0 0 12 [x_r 75, iv_c 2147483653, iv_c 2147483653, w3908, iv_c 2147483649, w3909] [] h3910) ∧ (∀ (w3914 : Nat) (w3915 : Nat) (h3916 : xh), 16 * (4294967296 - h3916 75 30) + 4 < n → J h3916 → Fr 39376260300801 h2 h3916 → (2147483648 ≤ h3916 75 30 ∧ h3916 75 30 ≤ 2147503648) → X sc 259 (d + 5) (xI fun r h' => J h' ∧ Fr 39376260300801 h h' ∧ (2147483648 ≤ r ∧ r ≤ 2147483649) ∧ (r = 2147483649 → h' 75 30 ≤ 2147503648)) 0 0 12 [x_r 75, iv_c 2147483653, iv_c 2147483647, w3914, iv_c 2147483648, w3915] [] h3916) ∧ (∀ (w3920 : Nat) (w3921 : Nat) (h3922 : xh), 16 * (4294967296 - h3922 75 30) + 5 < n → J h3922 → Fr 39376260300801 h2 h3922 → (2147483648 ≤ h3922 75 30 ∧ h3922 75 30 ≤ 2147503648) → X sc 259 (d + 5) (xI fun r h' => J h' ∧ Fr 39376260300801 h h' ∧ (2147483648 ≤ r ∧ r ≤ 2147483649) ∧ (r = 2147483649 → h' 75 30 ≤ 2147503648)) 0 0 12 [x_r 75, iv_c 2147483653, iv_c 2147483648, w3920, iv_c 2147483648, w3921] [] h3922) ∧ (∀ (w3926 : Nat) (w3927 : Nat) (h3928 : xh), 16 * (4294967296 - h3928 75 30) + 6 < n → J h3928 → Fr 39376260300801 h2 h3928 → (2147483648 ≤ h3928 75 30 ∧ h3928 75 30 ≤ 2147503648) → X sc 259 (d + 5) (xI fun r h' => J h' ∧ Fr 39376260300801 h h' ∧ (2147483648 ≤ r ∧ r ≤ 2147483649) ∧ (r = 2147483649 → h' 75 30 ≤ 2147503648)) 0 0 12 [x_r 75, iv_c 2147483653, iv_c 2147483649, w3926, iv_c 2147483648, w3927] [] h3928) ∧ (∀ (w3932 : Nat) (w3933 : Nat) (h3934 : xh), 16 * (4294967296 - h3934 75 30) + 7 < n → J h3934 → Fr 39376260300801 h2 h3934 → (2147483648 ≤ h3934 75 30 ∧ h3934 75 30 ≤ 2147503648) → X sc 259 (d + 5) (xI fun r h' => J h' ∧ Fr 39376260300801 h h' ∧ (2147483648 ≤ r ∧ r ≤ 2147483649) ∧ (r = 2147483649 → h' 75 30 ≤ 2147503648)) 0 0 12 [x_r 75, iv_c 2147483653, iv_c 2147483650, w3932, iv_c 2147483648, w3933] [] h3934) ∧ (∀ (w3938 : Nat) (w3939 : Nat) (h3940 : xh), 16 * (4294967296 - h3940 75 30) + 8 < n → J h3940 → Fr 39376260300801 h2 h3940 → (2147483648 ≤ h3940 75 30 ∧ h3940 75 30 ≤ 2147503648) → X sc 259 (d + 5) (xI fun r h' => J h' ∧ Fr 39376260300801 h h' ∧ (2147483648 ≤ r ∧ r ≤ 2147483649) ∧ (r = 2147483649 → h' 75 30 ≤ 2147503648)) 0 0 12 [x_r 75, iv_c 2147483653, iv_c 2147483651, w3938, iv_c 2147483648, w3939] [] h3940) ∧ (∀ (w3944 : Nat) (w3945 : Nat) (h3946 : xh), 16 * (4294967296 - h3946 75 30) + 9 < n → J h3946 → Fr 39376260300801 h2 h3946 → (2147483648 ≤ h3946 75 30 ∧ h3946 75 30 ≤ 2147503648) → X sc 259 (d + 5) (xI fun r h' => J h' ∧ Fr 39376260300801 h h' ∧ (2147483648 ≤ r ∧ r ≤ 2147483649) ∧ (r = 2147483649 → h' 75 30 ≤ 2147503648)) 0 0 12 [x_r 75, iv_c 2147483653, iv_c 2147483652, w3944, iv_c 2147483648, w3945] [] h3946) := by
    intro n
    induction n with
    | zero => exact ⟨fun _ _ _ z => absurd z (Nat.not_lt_zero _), fun _ _ _ z => absurd z (Nat.not_lt_zero _), fun _ _ _ z => absurd z (Nat.not_lt_zero _), fun _ _ _ z => absurd z (Nat.not_lt_zero _), fun _ _ _ z => absurd z (Nat.not_lt_zero _), fun _ _ _ z => absurd z (Nat.not_lt_zero _), fun _ _ _ z => absurd z (Nat.not_lt_zero _), fun _ _ _ z => absurd z (Nat.not_lt_zero _), fun _ _ _ z => absurd z (Nat.not_lt_zero _), fun _ _ _ z => absurd z (Nat.not_lt_zero _), fun _ _ _ z => absurd z (Nat.not_lt_zero _), fun _ _ _ z => absurd z (Nat.not_lt_zero _)⟩
    | succ n i3877 =>
      obtain ⟨i3950, i3951, i3952, i3953, i3954, i3955, i3956, i3957, i3958, i3959, i3960, i3961⟩ := i3877
      refine ⟨?_, ?_, ?_, ?_, ?_, ?_, ?_, ?_, ?_, ?_, ?_, ?_⟩
      · intro w3878 w3879 h3880 q3962 j3883 f3882 b3881
        have f3963 := Fr.trans f5 f3882 (by decide)
        refine x_iload (np := 13) (x := 2) (by decide +kernel) rfl (by decide) ?_
        refine x_ifz (k := 2) (tg := 186) (np := 16) (by decide +kernel) (by decide) (by decide) (fun q3964 => ?_) (fun q3965 => ?_)
        · have q3964 : 2147483648 < 2147483648 := q3964
          exfalso; omega
        have q3965 : ¬ (2147483648 < 2147483648) := q3965
        refine x_iload (np := 18) (x := 4) (by decide +kernel) rfl (by decide) ?_
        refine x_ifz (k := 0) (tg := 102) (np := 21) (by decide +kernel) (by decide) (by decide) (fun q3966 => ?_) (fun q3967 => ?_)
        · have q3966 : 2147483649 = 2147483648 := q3966
          exfalso; omega
        have q3967 : ¬ (2147483649 = 2147483648) := q3967
        refine x_aload (np := 22) (x := 0) (by decide +kernel) rfl (x_nc_le (by decide)) ?_
        refine x_dup (np := 23) (x := 0) (by decide +kernel) (by have z := x_nc_le (k := 75) (by decide); unfold x_r; omega) ?_
        refine x_getC (np := 26) (x := 734) (f := 30) (q := (h3880 75 30)) (by decide +kernel) (by decide) (by decide +kernel) rfl (fun l3968 => ?_)
        refine x_const (np := 27) (x := 9223372043297226753) (a := 2147483649) (by decide +kernel) (by decide) (by decide) ?_
        refine x_iadd (np := 28) (x := 0) (v := (1 + (h3880 75 30))) (by decide +kernel) l3968 (by decide) (by first | decide | omega) (by first | decide | omega) ?_
        refine x_putI (np := 31) (x := 734) (f := 30) (by decide +kernel) (by decide +kernel) (by first | decide | omega) (Or.inl (by decide)) ?_
        have j3970 := jU (e := 30) (v := (1 + (h3880 75 30))) 0 j3883 rg_75_30_0_1 (by first | decide | omega) (by first | decide | omega) (by first | decide | omega)
        have f3972 := jF (e := 30) (v := (1 + (h3880 75 30))) 0 f3963 rg_75_30_0_1 (by first | decide | omega) (by first | decide | omega) (by decide)
        have f3973 := jF (e := 30) (v := (1 + (h3880 75 30))) 0 f3882 rg_75_30_0_1 (by first | decide | omega) (by first | decide | omega) (by decide)
        generalize e3971 : x_up h3880 75 30 (1 + (h3880 75 30)) = h3969 at j3970 f3972 f3973 ⊢
        refine x_aload (np := 32) (x := 0) (by decide +kernel) rfl (x_nc_le (by decide)) ?_
        have q3974 : h3969 75 30 = (1 + (h3880 75 30)) := by rw [← e3971]; exact x_up_at
        refine x_getC (np := 35) (x := 734) (f := 30) (q := (1 + (h3880 75 30))) (by decide +kernel) (by decide) (by decide +kernel) q3974 (fun l3975 => ?_)
        refine x_const (np := 38) (x := 9223457938348199456) (a := 2147503648) (by decide +kernel) (by decide) (by decide) ?_
        refine x_icmp (k := 5) (tg := 43) (np := 41) (by decide +kernel) (by decide) (by first | decide | omega) (by decide) (fun q3976 => ?_) (fun q3977 => ?_)
        · have q3976 : (1 + (h3880 75 30)) ≤ 2147503648 := q3976
          refine x_aload (np := 44) (x := 0) (by decide +kernel) rfl (x_nc_le (by decide)) ?_
          refine x_iload (np := 45) (x := 2) (by decide +kernel) rfl (by decide) ?_
          refine x_cI (t := 6) (mj := 254) (n := 2) (rc := 12) (ml := 4) (nr := 0) (np := 48) (as := [x_r 75, iv_c 2147483648]) (rest := []) (lo1 := [x_r 75, iv_c 2147483648, 147573952589676412928, 147573952589676412928]) (by decide +kernel) (by decide) (by decide +kernel) (x_rb_of (by decide +kernel)) rfl rfl (x_wr (by decide) (x_wi (by decide) x_wn)) x_wn (by decide) rfl (c254_75 j3970  (by first | decide | omega)) (fun v3978 h3981 l3979 q3980 => ?_)
          obtain ⟨j3982, f3983, b3984⟩ := q3980
          have f3985 := Fr.trans f3972 f3983 (by decide)
          have f3986 := Fr.trans f3973 f3983 (by decide)
          refine x_istore (np := 49) (x := 3) (lo' := [x_r 75, iv_c 2147483653, iv_c 2147483648, iv_c v3978, iv_c 2147483649, w3879]) (by decide +kernel) l3979 (Nat.le_of_ble_eq_true rfl) rfl ?_
          refine x_iload (np := 50) (x := 3) (by decide +kernel) rfl l3979 ?_
          refine x_const (np := 51) (x := 9223372043297226753) (a := 2147483649) (by decide +kernel) (by decide) (by decide) ?_
          refine x_icmp (k := 1) (tg := 85) (np := 54) (by decide +kernel) (by decide) l3979 (by decide) (fun q3987 => ?_) (fun q3988 => ?_)
          · have q3987 : v3978 ≠ 2147483649 := q3987
            refine x_iload (np := 86) (x := 3) (by decide +kernel) rfl l3979 ?_
            refine x_const (np := 87) (x := 9223372043297226753) (a := 2147483649) (by decide +kernel) (by decide) (by decide) ?_
            refine x_icmp (k := 0) (tg := 95) (np := 90) (by decide +kernel) (by decide) l3979 (by decide) (fun q3989 => ?_) (fun q3990 => ?_)
            · have q3989 : v3978 = 2147483649 := q3989
              exfalso; omega
            have q3990 : ¬ (v3978 = 2147483649) := q3990
            refine x_iload (np := 91) (x := 2) (by decide +kernel) rfl (by decide) ?_
            refine x_iload (np := 92) (x := 1) (by decide +kernel) rfl (by decide) ?_
            refine x_icmp (k := 1) (tg := 102) (np := 95) (by decide +kernel) (by decide) (by decide) (by decide) (fun q3991 => ?_) (fun q3992 => ?_)
            · have q3991 : 2147483648 ≠ 2147483653 := q3991
              refine x_aload (np := 103) (x := 0) (by decide +kernel) rfl (x_nc_le (by decide)) ?_
              have q3993 : h3981 75 27 = 93 := by have z := jB (e := 27) 0 j3982 rg_75_27_0_1 (by decide) (by decide); omega
              refine x_getR (np := 106) (x := 731) (f := 27) (q := 93) (by decide +kernel) (by decide) (by decide +kernel) q3993 ?_
              refine x_iload (np := 107) (x := 2) (by decide +kernel) rfl (by decide) ?_
              have b3994 := jB (e := 0) 0 j3982 rg_93_0_1_6 (by first | decide | omega) (by first | decide | omega)
              refine x_aldC (np := 108) (x := 0) (n := 6) (i := 0) (q := (h3981 93 0)) (by decide +kernel) (by decide +kernel) (by first | decide | omega) (by first | decide | omega) (by decide) rfl (fun l3995 => ?_)
              refine x_ifz (k := 2) (tg := 122) (np := 111) (by decide +kernel) (by decide) l3995 (fun q3996 => ?_) (fun q3997 => ?_)
              · have q3996 : (h3981 93 0) < 2147483648 := q3996
                refine x_aload (np := 123) (x := 0) (by decide +kernel) rfl (x_nc_le (by decide)) ?_
                have q3998 : h3981 75 28 = 94 := by have z := jB (e := 28) 0 j3982 rg_75_28_0_1 (by decide) (by decide); omega
                refine x_getR (np := 126) (x := 732) (f := 28) (q := 94) (by decide +kernel) (by decide) (by decide +kernel) q3998 ?_
                refine x_iload (np := 127) (x := 2) (by decide +kernel) rfl (by decide) ?_
                have b3999 := jB (e := 0) 0 j3982 rg_94_0_1_6 (by first | decide | omega) (by first | decide | omega)
                refine x_aldC (np := 128) (x := 0) (n := 6) (i := 0) (q := (h3981 94 0)) (by decide +kernel) (by decide +kernel) (by first | decide | omega) (by first | decide | omega) (by decide) rfl (fun l4000 => ?_)
                refine x_ifz (k := 3) (tg := 135) (np := 131) (by decide +kernel) (by decide) l4000 (fun q4001 => ?_) (fun q4002 => ?_)
                · have q4001 : 2147483648 ≤ (h3981 94 0) := q4001
                  refine x_aload (np := 136) (x := 0) (by decide +kernel) rfl (x_nc_le (by decide)) ?_
                  refine x_iload (np := 137) (x := 2) (by decide +kernel) rfl (by decide) ?_
                  refine x_cP (t := 6) (mj := 257) (n := 2) (rc := 12) (ml := 3) (nr := 0) (np := 140) (as := [x_r 75, iv_c 2147483648]) (rest := []) (lo1 := [x_r 75, iv_c 2147483648, 147573952589676412928]) (by decide +kernel) (by decide) (by decide +kernel) (x_rb_of (by decide +kernel)) rfl rfl (x_wr (by decide) (x_wi (by decide) x_wn)) x_wn (by decide) rfl (c257_75_c0 j3982   (by first | decide | omega)) (fun v4003 l4004 q4005 => ?_)
                  refine x_istore (np := 142) (x := 5) (lo' := [x_r 75, iv_c 2147483653, iv_c 2147483648, iv_c v3978, iv_c 2147483649, iv_c v4003]) (by decide +kernel) l4004 (Nat.le_of_ble_eq_true rfl) rfl ?_
                  refine x_iload (np := 144) (x := 5) (by decide +kernel) rfl l4004 ?_
                  refine x_ifz (k := 2) (tg := 151) (np := 147) (by decide +kernel) (by decide) l4004 (fun q4006 => ?_) (fun q4007 => ?_)
                  · have q4006 : v4003 < 2147483648 := q4006
                    refine x_const (np := 152) (x := 9223372039002259456) (a := 2147483648) (by decide +kernel) (by decide) (by decide) ?_
                    refine x_istore (np := 154) (x := 4) (lo' := [x_r 75, iv_c 2147483653, iv_c 2147483648, iv_c v3978, iv_c 2147483648, iv_c v4003]) (by decide +kernel) (by decide) (Nat.le_of_ble_eq_true rfl) rfl ?_
                    refine x_iload (np := 156) (x := 4) (by decide +kernel) rfl (by decide) ?_
                    refine x_ifz (k := 0) (tg := 180) (np := 159) (by decide +kernel) (by decide) (by decide) (fun q4008 => ?_) (fun q4009 => ?_)
                    · have q4008 : 2147483648 = 2147483648 := q4008
                      refine x_iinc (np := 183) (i := 2) (j := 2147483647) (v := 2147483647) (lo' := [x_r 75, iv_c 2147483653, iv_c 2147483647, iv_c v3978, iv_c 2147483648, iv_c v4003]) (by decide +kernel) (by decide) (by decide) rfl (by decide) (by first | decide | omega) (by first | decide | omega) rfl ?_
                      refine x_goto (np := 186) (x := 12) (by decide +kernel) ?_
                      have q4010 : h3981 75 30 = h3969 75 30 := jK 0 f3983 rg_75_30_0_1 (by first | decide | omega) (by first | decide | omega) (by decide)
                      have q4011 : h3969 75 30 = (1 + (h3880 75 30)) := by rw [← e3971]; exact x_up_at
                      exact i3956 (iv_c v3978) (iv_c v4003) h3981 (by first | decide | omega) j3982 f3986 (by first | decide | omega)
                    have q4009 : ¬ (2147483648 = 2147483648) := q4009
                    exfalso; omega
                  have q4007 : ¬ (v4003 < 2147483648) := q4007
                  refine x_const (np := 148) (x := 9223372043297226753) (a := 2147483649) (by decide +kernel) (by decide) (by decide) ?_
                  refine x_goto (np := 151) (x := 152) (by decide +kernel) ?_
                  refine x_istore (np := 154) (x := 4) (lo' := [x_r 75, iv_c 2147483653, iv_c 2147483648, iv_c v3978, iv_c 2147483649, iv_c v4003]) (by decide +kernel) (by decide) (Nat.le_of_ble_eq_true rfl) rfl ?_
                  refine x_iload (np := 156) (x := 4) (by decide +kernel) rfl (by decide) ?_
                  refine x_ifz (k := 0) (tg := 180) (np := 159) (by decide +kernel) (by decide) (by decide) (fun q4012 => ?_) (fun q4013 => ?_)
                  · have q4012 : 2147483649 = 2147483648 := q4012
                    exfalso; omega
                  have q4013 : ¬ (2147483649 = 2147483648) := q4013
                  refine x_aload (np := 160) (x := 0) (by decide +kernel) rfl (x_nc_le (by decide)) ?_
                  have q4014 : h3981 75 27 = 93 := by have z := jB (e := 27) 0 j3982 rg_75_27_0_1 (by decide) (by decide); omega
                  refine x_getR (np := 163) (x := 731) (f := 27) (q := 93) (by decide +kernel) (by decide) (by decide +kernel) q4014 ?_
                  refine x_iload (np := 164) (x := 2) (by decide +kernel) rfl (by decide) ?_
                  refine x_iload (np := 166) (x := 5) (by decide +kernel) rfl l4004 ?_
                  refine x_ast (np := 167) (x := 0) (kd := 1) (n := 6) (i := 0) (by decide +kernel) (Or.inl rfl) (by decide +kernel) (by first | decide | omega) (by first | decide | omega) (by decide) l4004 (fun z => absurd z (by decide)) ?_
                  have j4016 := jU (e := 0) (v := v4003) 0 j3982 rg_93_0_1_6 (by first | decide | omega) (by first | decide | omega) (by first | decide | omega)
                  have f4018 := jF (e := 0) (v := v4003) 0 f3985 rg_93_0_1_6 (by first | decide | omega) (by first | decide | omega) (by decide)
                  have f4019 := jF (e := 0) (v := v4003) 0 f3986 rg_93_0_1_6 (by first | decide | omega) (by first | decide | omega) (by decide)
                  generalize e4017 : x_up h3981 93 0 v4003 = h4015 at j4016 f4018 f4019 ⊢
                  refine x_aload (np := 168) (x := 0) (by decide +kernel) rfl (x_nc_le (by decide)) ?_
                  refine x_iload (np := 170) (x := 5) (by decide +kernel) rfl l4004 ?_
                  refine x_const (np := 171) (x := 9223372043297226753) (a := 2147483649) (by decide +kernel) (by decide) (by decide) ?_
                  refine x_cV (t := 6) (mj := 248) (n := 3) (rc := 12) (ml := 4) (nr := 0) (np := 174) (as := [x_r 75, iv_c v4003, iv_c 2147483649]) (rest := []) (lo1 := [x_r 75, iv_c v4003, iv_c 2147483649, 147573952589676412928]) (by decide +kernel) (by decide) (by decide +kernel) (x_rb_of (by decide +kernel)) rfl rfl (x_wr (by decide) (x_wi l4004 (x_wi (by decide) x_wn))) x_wn (by decide) rfl (c248_75 j4016  (by first | decide | omega) (by first | decide | omega)) (fun h4023 q4022 => ?_)
                  obtain ⟨j4024, f4025⟩ := q4022
                  have f4028 := Fr.trans f4018 f4025 (by decide)
                  have f4029 := Fr.trans f4019 f4025 (by decide)
                  refine x_iinc (np := 177) (i := 2) (j := 2147483649) (v := 2147483649) (lo' := [x_r 75, iv_c 2147483653, iv_c 2147483649, iv_c v3978, iv_c 2147483649, iv_c v4003]) (by decide +kernel) (by decide) (by decide) rfl (by decide) (by first | decide | omega) (by first | decide | omega) rfl ?_
                  refine x_goto (np := 180) (x := 183) (by decide +kernel) ?_
                  refine x_goto (np := 186) (x := 12) (by decide +kernel) ?_
                  have q4030 : h4023 75 30 = h4015 75 30 := jK 0 f4025 rg_75_30_0_1 (by first | decide | omega) (by first | decide | omega) (by decide)
                  have q4031 : h4015 75 30 = h3981 75 30 := by rw [← e4017]; exact x_up_k (by decide)
                  have q4032 : h3981 75 30 = h3969 75 30 := jK 0 f3983 rg_75_30_0_1 (by first | decide | omega) (by first | decide | omega) (by decide)
                  have q4033 : h3969 75 30 = (1 + (h3880 75 30)) := by rw [← e3971]; exact x_up_at
                  exact i3951 (iv_c v3978) (iv_c v4003) h4023 (by first | decide | omega) j4024 f4029 (by first | decide | omega)
                have q4002 : ¬ (2147483648 ≤ (h3981 94 0)) := q4002
                refine x_const (np := 132) (x := 9223372034707292159) (a := 2147483647) (by decide +kernel) (by decide) (by decide) ?_
                refine x_goto (np := 135) (x := 140) (by decide +kernel) ?_
                refine x_istore (np := 142) (x := 5) (lo' := [x_r 75, iv_c 2147483653, iv_c 2147483648, iv_c v3978, iv_c 2147483649, iv_c 2147483647]) (by decide +kernel) (by decide) (Nat.le_of_ble_eq_true rfl) rfl ?_
                refine x_iload (np := 144) (x := 5) (by decide +kernel) rfl (by decide) ?_
                refine x_ifz (k := 2) (tg := 151) (np := 147) (by decide +kernel) (by decide) (by decide) (fun q4034 => ?_) (fun q4035 => ?_)
                · have q4034 : 2147483647 < 2147483648 := q4034
                  refine x_const (np := 152) (x := 9223372039002259456) (a := 2147483648) (by decide +kernel) (by decide) (by decide) ?_
                  refine x_istore (np := 154) (x := 4) (lo' := [x_r 75, iv_c 2147483653, iv_c 2147483648, iv_c v3978, iv_c 2147483648, iv_c 2147483647]) (by decide +kernel) (by decide) (Nat.le_of_ble_eq_true rfl) rfl ?_
                  refine x_iload (np := 156) (x := 4) (by decide +kernel) rfl (by decide) ?_
                  refine x_ifz (k := 0) (tg := 180) (np := 159) (by decide +kernel) (by decide) (by decide) (fun q4036 => ?_) (fun q4037 => ?_)
                  · have q4036 : 2147483648 = 2147483648 := q4036
                    refine x_iinc (np := 183) (i := 2) (j := 2147483647) (v := 2147483647) (lo' := [x_r 75, iv_c 2147483653, iv_c 2147483647, iv_c v3978, iv_c 2147483648, iv_c 2147483647]) (by decide +kernel) (by decide) (by decide) rfl (by decide) (by first | decide | omega) (by first | decide | omega) rfl ?_
                    refine x_goto (np := 186) (x := 12) (by decide +kernel) ?_
                    have q4038 : h3981 75 30 = h3969 75 30 := jK 0 f3983 rg_75_30_0_1 (by first | decide | omega) (by first | decide | omega) (by decide)
                    have q4039 : h3969 75 30 = (1 + (h3880 75 30)) := by rw [← e3971]; exact x_up_at
                    exact i3956 (iv_c v3978) (iv_c 2147483647) h3981 (by first | decide | omega) j3982 f3986 (by first | decide | omega)
                  have q4037 : ¬ (2147483648 = 2147483648) := q4037
                  exfalso; omega
                have q4035 : ¬ (2147483647 < 2147483648) := q4035
                exfalso; omega
              have q3997 : ¬ ((h3981 93 0) < 2147483648) := q3997
              refine x_aload (np := 112) (x := 0) (by decide +kernel) rfl (x_nc_le (by decide)) ?_
              refine x_aload (np := 113) (x := 0) (by decide +kernel) rfl (x_nc_le (by decide)) ?_
              have q4040 : h3981 75 27 = 93 := by have z := jB (e := 27) 0 j3982 rg_75_27_0_1 (by decide) (by decide); omega
              refine x_getR (np := 116) (x := 731) (f := 27) (q := 93) (by decide +kernel) (by decide) (by decide +kernel) q4040 ?_
              refine x_iload (np := 117) (x := 2) (by decide +kernel) rfl (by decide) ?_
              refine x_aldC (np := 118) (x := 0) (n := 6) (i := 0) (q := (h3981 93 0)) (by decide +kernel) (by decide +kernel) (by first | decide | omega) (by first | decide | omega) (by decide) rfl (fun l4041 => ?_)
              refine x_const (np := 119) (x := 9223372039002259456) (a := 2147483648) (by decide +kernel) (by decide) (by decide) ?_
              refine x_cV (t := 6) (mj := 248) (n := 3) (rc := 12) (ml := 4) (nr := 0) (np := 122) (as := [x_r 75, iv_c (h3981 93 0), iv_c 2147483648]) (rest := []) (lo1 := [x_r 75, iv_c (h3981 93 0), iv_c 2147483648, 147573952589676412928]) (by decide +kernel) (by decide) (by decide +kernel) (x_rb_of (by decide +kernel)) rfl rfl (x_wr (by decide) (x_wi l3995 (x_wi (by decide) x_wn))) x_wn (by decide) rfl (c248_75 j3982  (by first | decide | omega) (by first | decide | omega)) (fun h4045 q4044 => ?_)
              obtain ⟨j4046, f4047⟩ := q4044
              have f4050 := Fr.trans f3985 f4047 (by decide)
              have f4051 := Fr.trans f3986 f4047 (by decide)
              refine x_aload (np := 123) (x := 0) (by decide +kernel) rfl (x_nc_le (by decide)) ?_
              have q4052 : h4045 75 28 = 94 := by have z := jB (e := 28) 0 j4046 rg_75_28_0_1 (by decide) (by decide); omega
              refine x_getR (np := 126) (x := 732) (f := 28) (q := 94) (by decide +kernel) (by decide) (by decide +kernel) q4052 ?_
              refine x_iload (np := 127) (x := 2) (by decide +kernel) rfl (by decide) ?_
              have q4053 : h4045 94 0 = h3981 94 0 := jK 0 f4047 rg_94_0_1_6 (by first | decide | omega) (by first | decide | omega) (by decide)
              have b4054 := jB (e := 0) 0 j3982 rg_94_0_1_6 (by first | decide | omega) (by first | decide | omega)
              refine x_aldC (np := 128) (x := 0) (n := 6) (i := 0) (q := (h3981 94 0)) (by decide +kernel) (by decide +kernel) (by first | decide | omega) (by first | decide | omega) (by decide) q4053 (fun l4055 => ?_)
              refine x_ifz (k := 3) (tg := 135) (np := 131) (by decide +kernel) (by decide) l4055 (fun q4056 => ?_) (fun q4057 => ?_)
              · have q4056 : 2147483648 ≤ (h3981 94 0) := q4056
                refine x_aload (np := 136) (x := 0) (by decide +kernel) rfl (x_nc_le (by decide)) ?_
                refine x_iload (np := 137) (x := 2) (by decide +kernel) rfl (by decide) ?_
                have q4058 : h4045 94 0 = h3981 94 0 := jK 0 f4047 rg_94_0_1_6 (by first | decide | omega) (by first | decide | omega) (by decide)
                refine x_cP (t := 6) (mj := 257) (n := 2) (rc := 12) (ml := 3) (nr := 0) (np := 140) (as := [x_r 75, iv_c 2147483648]) (rest := []) (lo1 := [x_r 75, iv_c 2147483648, 147573952589676412928]) (by decide +kernel) (by decide) (by decide +kernel) (x_rb_of (by decide +kernel)) rfl rfl (x_wr (by decide) (x_wi (by decide) x_wn)) x_wn (by decide) rfl (c257_75_c0 j4046   (by first | decide | omega)) (fun v4059 l4060 q4061 => ?_)
                refine x_istore (np := 142) (x := 5) (lo' := [x_r 75, iv_c 2147483653, iv_c 2147483648, iv_c v3978, iv_c 2147483649, iv_c v4059]) (by decide +kernel) l4060 (Nat.le_of_ble_eq_true rfl) rfl ?_
                refine x_iload (np := 144) (x := 5) (by decide +kernel) rfl l4060 ?_
                refine x_ifz (k := 2) (tg := 151) (np := 147) (by decide +kernel) (by decide) l4060 (fun q4062 => ?_) (fun q4063 => ?_)
                · have q4062 : v4059 < 2147483648 := q4062
                  refine x_const (np := 152) (x := 9223372039002259456) (a := 2147483648) (by decide +kernel) (by decide) (by decide) ?_
                  refine x_istore (np := 154) (x := 4) (lo' := [x_r 75, iv_c 2147483653, iv_c 2147483648, iv_c v3978, iv_c 2147483648, iv_c v4059]) (by decide +kernel) (by decide) (Nat.le_of_ble_eq_true rfl) rfl ?_
                  refine x_iload (np := 156) (x := 4) (by decide +kernel) rfl (by decide) ?_
                  refine x_ifz (k := 0) (tg := 180) (np := 159) (by decide +kernel) (by decide) (by decide) (fun q4064 => ?_) (fun q4065 => ?_)
                  · have q4064 : 2147483648 = 2147483648 := q4064
                    refine x_iinc (np := 183) (i := 2) (j := 2147483647) (v := 2147483647) (lo' := [x_r 75, iv_c 2147483653, iv_c 2147483647, iv_c v3978, iv_c 2147483648, iv_c v4059]) (by decide +kernel) (by decide) (by decide) rfl (by decide) (by first | decide | omega) (by first | decide | omega) rfl ?_
                    refine x_goto (np := 186) (x := 12) (by decide +kernel) ?_
                    have q4066 : h4045 75 30 = h3981 75 30 := jK 0 f4047 rg_75_30_0_1 (by first | decide | omega) (by first | decide | omega) (by decide)
                    have q4067 : h3981 75 30 = h3969 75 30 := jK 0 f3983 rg_75_30_0_1 (by first | decide | omega) (by first | decide | omega) (by decide)
                    have q4068 : h3969 75 30 = (1 + (h3880 75 30)) := by rw [← e3971]; exact x_up_at
                    exact i3956 (iv_c v3978) (iv_c v4059) h4045 (by first | decide | omega) j4046 f4051 (by first | decide | omega)
                  have q4065 : ¬ (2147483648 = 2147483648) := q4065
                  exfalso; omega
                have q4063 : ¬ (v4059 < 2147483648) := q4063
                refine x_const (np := 148) (x := 9223372043297226753) (a := 2147483649) (by decide +kernel) (by decide) (by decide) ?_
                refine x_goto (np := 151) (x := 152) (by decide +kernel) ?_
                refine x_istore (np := 154) (x := 4) (lo' := [x_r 75, iv_c 2147483653, iv_c 2147483648, iv_c v3978, iv_c 2147483649, iv_c v4059]) (by decide +kernel) (by decide) (Nat.le_of_ble_eq_true rfl) rfl ?_
                refine x_iload (np := 156) (x := 4) (by decide +kernel) rfl (by decide) ?_
                refine x_ifz (k := 0) (tg := 180) (np := 159) (by decide +kernel) (by decide) (by decide) (fun q4069 => ?_) (fun q4070 => ?_)
                · have q4069 : 2147483649 = 2147483648 := q4069
                  exfalso; omega
                have q4070 : ¬ (2147483649 = 2147483648) := q4070
                refine x_aload (np := 160) (x := 0) (by decide +kernel) rfl (x_nc_le (by decide)) ?_
                have q4071 : h4045 75 27 = 93 := by have z := jB (e := 27) 0 j4046 rg_75_27_0_1 (by decide) (by decide); omega
                refine x_getR (np := 163) (x := 731) (f := 27) (q := 93) (by decide +kernel) (by decide) (by decide +kernel) q4071 ?_
                refine x_iload (np := 164) (x := 2) (by decide +kernel) rfl (by decide) ?_
                refine x_iload (np := 166) (x := 5) (by decide +kernel) rfl l4060 ?_
                refine x_ast (np := 167) (x := 0) (kd := 1) (n := 6) (i := 0) (by decide +kernel) (Or.inl rfl) (by decide +kernel) (by first | decide | omega) (by first | decide | omega) (by decide) l4060 (fun z => absurd z (by decide)) ?_
                have j4073 := jU (e := 0) (v := v4059) 0 j4046 rg_93_0_1_6 (by first | decide | omega) (by first | decide | omega) (by first | decide | omega)
                have f4075 := jF (e := 0) (v := v4059) 0 f4050 rg_93_0_1_6 (by first | decide | omega) (by first | decide | omega) (by decide)
                have f4076 := jF (e := 0) (v := v4059) 0 f4051 rg_93_0_1_6 (by first | decide | omega) (by first | decide | omega) (by decide)
                generalize e4074 : x_up h4045 93 0 v4059 = h4072 at j4073 f4075 f4076 ⊢
                refine x_aload (np := 168) (x := 0) (by decide +kernel) rfl (x_nc_le (by decide)) ?_
                refine x_iload (np := 170) (x := 5) (by decide +kernel) rfl l4060 ?_
                refine x_const (np := 171) (x := 9223372043297226753) (a := 2147483649) (by decide +kernel) (by decide) (by decide) ?_
                refine x_cV (t := 6) (mj := 248) (n := 3) (rc := 12) (ml := 4) (nr := 0) (np := 174) (as := [x_r 75, iv_c v4059, iv_c 2147483649]) (rest := []) (lo1 := [x_r 75, iv_c v4059, iv_c 2147483649, 147573952589676412928]) (by decide +kernel) (by decide) (by decide +kernel) (x_rb_of (by decide +kernel)) rfl rfl (x_wr (by decide) (x_wi l4060 (x_wi (by decide) x_wn))) x_wn (by decide) rfl (c248_75 j4073  (by first | decide | omega) (by first | decide | omega)) (fun h4080 q4079 => ?_)
                obtain ⟨j4081, f4082⟩ := q4079
                have f4085 := Fr.trans f4075 f4082 (by decide)
                have f4086 := Fr.trans f4076 f4082 (by decide)
                refine x_iinc (np := 177) (i := 2) (j := 2147483649) (v := 2147483649) (lo' := [x_r 75, iv_c 2147483653, iv_c 2147483649, iv_c v3978, iv_c 2147483649, iv_c v4059]) (by decide +kernel) (by decide) (by decide) rfl (by decide) (by first | decide | omega) (by first | decide | omega) rfl ?_
                refine x_goto (np := 180) (x := 183) (by decide +kernel) ?_
                refine x_goto (np := 186) (x := 12) (by decide +kernel) ?_
                have q4087 : h4080 75 30 = h4072 75 30 := jK 0 f4082 rg_75_30_0_1 (by first | decide | omega) (by first | decide | omega) (by decide)
                have q4088 : h4072 75 30 = h4045 75 30 := by rw [← e4074]; exact x_up_k (by decide)
                have q4089 : h4045 75 30 = h3981 75 30 := jK 0 f4047 rg_75_30_0_1 (by first | decide | omega) (by first | decide | omega) (by decide)
                have q4090 : h3981 75 30 = h3969 75 30 := jK 0 f3983 rg_75_30_0_1 (by first | decide | omega) (by first | decide | omega) (by decide)
                have q4091 : h3969 75 30 = (1 + (h3880 75 30)) := by rw [← e3971]; exact x_up_at
                exact i3951 (iv_c v3978) (iv_c v4059) h4080 (by first | decide | omega) j4081 f4086 (by first | decide | omega)
              have q4057 : ¬ (2147483648 ≤ (h3981 94 0)) := q4057
              refine x_const (np := 132) (x := 9223372034707292159) (a := 2147483647) (by decide +kernel) (by decide) (by decide) ?_
              refine x_goto (np := 135) (x := 140) (by decide +kernel) ?_
              refine x_istore (np := 142) (x := 5) (lo' := [x_r 75, iv_c 2147483653, iv_c 2147483648, iv_c v3978, iv_c 2147483649, iv_c 2147483647]) (by decide +kernel) (by decide) (Nat.le_of_ble_eq_true rfl) rfl ?_
              refine x_iload (np := 144) (x := 5) (by decide +kernel) rfl (by decide) ?_
              refine x_ifz (k := 2) (tg := 151) (np := 147) (by decide +kernel) (by decide) (by decide) (fun q4092 => ?_) (fun q4093 => ?_)
              · have q4092 : 2147483647 < 2147483648 := q4092
                refine x_const (np := 152) (x := 9223372039002259456) (a := 2147483648) (by decide +kernel) (by decide) (by decide) ?_
                refine x_istore (np := 154) (x := 4) (lo' := [x_r 75, iv_c 2147483653, iv_c 2147483648, iv_c v3978, iv_c 2147483648, iv_c 2147483647]) (by decide +kernel) (by decide) (Nat.le_of_ble_eq_true rfl) rfl ?_
                refine x_iload (np := 156) (x := 4) (by decide +kernel) rfl (by decide) ?_
                refine x_ifz (k := 0) (tg := 180) (np := 159) (by decide +kernel) (by decide) (by decide) (fun q4094 => ?_) (fun q4095 => ?_)
                · have q4094 : 2147483648 = 2147483648 := q4094
                  refine x_iinc (np := 183) (i := 2) (j := 2147483647) (v := 2147483647) (lo' := [x_r 75, iv_c 2147483653, iv_c 2147483647, iv_c v3978, iv_c 2147483648, iv_c 2147483647]) (by decide +kernel) (by decide) (by decide) rfl (by decide) (by first | decide | omega) (by first | decide | omega) rfl ?_
                  refine x_goto (np := 186) (x := 12) (by decide +kernel) ?_
                  have q4096 : h4045 75 30 = h3981 75 30 := jK 0 f4047 rg_75_30_0_1 (by first | decide | omega) (by first | decide | omega) (by decide)
                  have q4097 : h3981 75 30 = h3969 75 30 := jK 0 f3983 rg_75_30_0_1 (by first | decide | omega) (by first | decide | omega) (by decide)
                  have q4098 : h3969 75 30 = (1 + (h3880 75 30)) := by rw [← e3971]; exact x_up_at
                  exact i3956 (iv_c v3978) (iv_c 2147483647) h4045 (by first | decide | omega) j4046 f4051 (by first | decide | omega)
                have q4095 : ¬ (2147483648 = 2147483648) := q4095
                exfalso; omega
              have q4093 : ¬ (2147483647 < 2147483648) := q4093
              exfalso; omega
            have q3992 : ¬ (2147483648 ≠ 2147483653) := q3992
            exfalso; omega
          have q3988 : ¬ (v3978 ≠ 2147483649) := q3988
          refine x_aload (np := 55) (x := 0) (by decide +kernel) rfl (x_nc_le (by decide)) ?_
          have q4099 : h3981 75 34 = h3969 75 34 := jK 0 f3983 rg_75_34_0_1 (by first | decide | omega) (by first | decide | omega) (by decide)
          have q4100 : h3969 75 34 = h3880 75 34 := by rw [← e3971]; exact x_up_i (by first | decide | omega)
          refine x_getC (np := 58) (x := 738) (f := 34) (q := (h3880 75 34)) (by decide +kernel) (by decide) (by decide +kernel) (q4099.trans q4100) (fun l4101 => ?_)
          refine x_ifz (k := 1) (tg := 66) (np := 61) (by decide +kernel) (by decide) l4101 (fun q4102 => ?_) (fun q4103 => ?_)
          · have q4102 : (h3880 75 34) ≠ 2147483648 := q4102
            refine x_aload (np := 67) (x := 0) (by decide +kernel) rfl (x_nc_le (by decide)) ?_
            refine x_dup (np := 68) (x := 0) (by decide +kernel) (by have z := x_nc_le (k := 75) (by decide); unfold x_r; omega) ?_
            have q4104 : h3981 75 34 = h3969 75 34 := jK 0 f3983 rg_75_34_0_1 (by first | decide | omega) (by first | decide | omega) (by decide)
            have q4105 : h3969 75 34 = h3880 75 34 := by rw [← e3971]; exact x_up_i (by first | decide | omega)
            refine x_getC (np := 71) (x := 738) (f := 34) (q := (h3880 75 34)) (by decide +kernel) (by decide) (by decide +kernel) (q4104.trans q4105) (fun l4106 => ?_)
            refine x_const (np := 72) (x := 9223372043297226753) (a := 2147483649) (by decide +kernel) (by decide) (by decide) ?_
            refine x_addA (by rw [tb_b259]; decide +kernel) l4101 (by decide) (fun v4107 l4108 => ?_)
            refine x_putI (np := 76) (x := 738) (f := 34) (by decide +kernel) (by decide +kernel) l4108 (Or.inl (by decide)) ?_
            have j4110 := jU (e := 34) (v := v4107) 0 j3982 rg_75_34_0_1 (by first | decide | omega) (by first | decide | omega) (by first | decide | omega)
            have f4112 := jF (e := 34) (v := v4107) 0 f3985 rg_75_34_0_1 (by first | decide | omega) (by first | decide | omega) (by decide)
            have f4113 := jF (e := 34) (v := v4107) 0 f3986 rg_75_34_0_1 (by first | decide | omega) (by first | decide | omega) (by decide)
            generalize e4111 : x_up h3981 75 34 v4107 = h4109 at j4110 f4112 f4113 ⊢
            refine x_aload (np := 77) (x := 0) (by decide +kernel) rfl (x_nc_le (by decide)) ?_
            have q4114 : h4109 75 33 = h3981 75 33 := by rw [← e4111]; exact x_up_i (by first | decide | omega)
            have q4115 : h3981 75 33 = h3969 75 33 := jK 0 f3983 rg_75_33_0_1 (by first | decide | omega) (by first | decide | omega) (by decide)
            have q4116 : h3969 75 33 = h3880 75 33 := by rw [← e3971]; exact x_up_i (by first | decide | omega)
            have q4117 : h3880 75 33 = h2 75 33 := jK 0 f3882 rg_75_33_0_1 (by first | decide | omega) (by first | decide | omega) (by decide)
            have q4118 : h2 75 33 = h 75 33 := by rw [← e4]; exact x_up_i (by first | decide | omega)
            have b4119 := jB (e := 33) 0 hJ rg_75_33_0_1 (by first | decide | omega) (by first | decide | omega)
            refine x_getC (np := 80) (x := 737) (f := 33) (q := (h 75 33)) (by decide +kernel) (by decide) (by decide +kernel) ((((q4114.trans q4115).trans q4116).trans q4117).trans q4118) (fun l4120 => ?_)
            refine x_ifz (k := 0) (tg := 85) (np := 83) (by decide +kernel) (by decide) l4120 (fun q4121 => ?_) (fun q4122 => ?_)
            · have q4121 : (h 75 33) = 2147483648 := q4121
              refine x_iload (np := 86) (x := 3) (by decide +kernel) rfl l3979 ?_
              refine x_const (np := 87) (x := 9223372043297226753) (a := 2147483649) (by decide +kernel) (by decide) (by decide) ?_
              refine x_icmp (k := 0) (tg := 95) (np := 90) (by decide +kernel) (by decide) l3979 (by decide) (fun q4123 => ?_) (fun q4124 => ?_)
              · have q4123 : v3978 = 2147483649 := q4123
                refine x_aload (np := 96) (x := 0) (by decide +kernel) rfl (x_nc_le (by decide)) ?_
                have q4125 : h4109 75 28 = 94 := by have z := jB (e := 28) 0 j4110 rg_75_28_0_1 (by decide) (by decide); omega
                refine x_getR (np := 99) (x := 732) (f := 28) (q := 94) (by decide +kernel) (by decide) (by decide +kernel) q4125 ?_
                refine x_iload (np := 100) (x := 2) (by decide +kernel) rfl (by decide) ?_
                refine x_const (np := 101) (x := 9223372034707292159) (a := 2147483647) (by decide +kernel) (by decide) (by decide) ?_
                refine x_ast (np := 102) (x := 0) (kd := 1) (n := 6) (i := 0) (by decide +kernel) (Or.inl rfl) (by decide +kernel) (by first | decide | omega) (by first | decide | omega) (by decide) (by decide) (fun z => absurd z (by decide)) ?_
                have j4127 := jU (e := 0) (v := 2147483647) 0 j4110 rg_94_0_1_6 (by first | decide | omega) (by first | decide | omega) (by first | decide | omega)
                have f4129 := jF (e := 0) (v := 2147483647) 0 f4112 rg_94_0_1_6 (by first | decide | omega) (by first | decide | omega) (by decide)
                have f4130 := jF (e := 0) (v := 2147483647) 0 f4113 rg_94_0_1_6 (by first | decide | omega) (by first | decide | omega) (by decide)
                generalize e4128 : x_up h4109 94 0 2147483647 = h4126 at j4127 f4129 f4130 ⊢
                refine x_aload (np := 103) (x := 0) (by decide +kernel) rfl (x_nc_le (by decide)) ?_
                have q4131 : h4126 75 27 = 93 := by have z := jB (e := 27) 0 j4127 rg_75_27_0_1 (by decide) (by decide); omega
                refine x_getR (np := 106) (x := 731) (f := 27) (q := 93) (by decide +kernel) (by decide) (by decide +kernel) q4131 ?_
                refine x_iload (np := 107) (x := 2) (by decide +kernel) rfl (by decide) ?_
                have q4132 : h4126 93 0 = h4109 93 0 := by rw [← e4128]; exact x_up_k (by decide)
                have q4133 : h4109 93 0 = h3981 93 0 := by rw [← e4111]; exact x_up_k (by decide)
                have b4134 := jB (e := 0) 0 j3982 rg_93_0_1_6 (by first | decide | omega) (by first | decide | omega)
                refine x_aldC (np := 108) (x := 0) (n := 6) (i := 0) (q := (h3981 93 0)) (by decide +kernel) (by decide +kernel) (by first | decide | omega) (by first | decide | omega) (by decide) (q4132.trans q4133) (fun l4135 => ?_)
                refine x_ifz (k := 2) (tg := 122) (np := 111) (by decide +kernel) (by decide) l4135 (fun q4136 => ?_) (fun q4137 => ?_)
                · have q4136 : (h3981 93 0) < 2147483648 := q4136
                  refine x_aload (np := 123) (x := 0) (by decide +kernel) rfl (x_nc_le (by decide)) ?_
                  have q4138 : h4126 75 28 = 94 := by have z := jB (e := 28) 0 j4127 rg_75_28_0_1 (by decide) (by decide); omega
                  refine x_getR (np := 126) (x := 732) (f := 28) (q := 94) (by decide +kernel) (by decide) (by decide +kernel) q4138 ?_
                  refine x_iload (np := 127) (x := 2) (by decide +kernel) rfl (by decide) ?_
                  have q4139 : h4126 94 0 = 2147483647 := by rw [← e4128]; exact x_up_at
                  refine x_aldC (np := 128) (x := 0) (n := 6) (i := 0) (q := 2147483647) (by decide +kernel) (by decide +kernel) (by first | decide | omega) (by first | decide | omega) (by decide) q4139 (fun l4140 => ?_)
                  refine x_ifz (k := 3) (tg := 135) (np := 131) (by decide +kernel) (by decide) (by decide) (fun q4141 => ?_) (fun q4142 => ?_)
                  · have q4141 : 2147483648 ≤ 2147483647 := q4141
                    exfalso; omega
                  have q4142 : ¬ (2147483648 ≤ 2147483647) := q4142
                  refine x_const (np := 132) (x := 9223372034707292159) (a := 2147483647) (by decide +kernel) (by decide) (by decide) ?_
                  refine x_goto (np := 135) (x := 140) (by decide +kernel) ?_
                  refine x_istore (np := 142) (x := 5) (lo' := [x_r 75, iv_c 2147483653, iv_c 2147483648, iv_c v3978, iv_c 2147483649, iv_c 2147483647]) (by decide +kernel) (by decide) (Nat.le_of_ble_eq_true rfl) rfl ?_
                  refine x_iload (np := 144) (x := 5) (by decide +kernel) rfl (by decide) ?_
                  refine x_ifz (k := 2) (tg := 151) (np := 147) (by decide +kernel) (by decide) (by decide) (fun q4143 => ?_) (fun q4144 => ?_)
                  · have q4143 : 2147483647 < 2147483648 := q4143
                    refine x_const (np := 152) (x := 9223372039002259456) (a := 2147483648) (by decide +kernel) (by decide) (by decide) ?_
                    refine x_istore (np := 154) (x := 4) (lo' := [x_r 75, iv_c 2147483653, iv_c 2147483648, iv_c v3978, iv_c 2147483648, iv_c 2147483647]) (by decide +kernel) (by decide) (Nat.le_of_ble_eq_true rfl) rfl ?_
                    refine x_iload (np := 156) (x := 4) (by decide +kernel) rfl (by decide) ?_
                    refine x_ifz (k := 0) (tg := 180) (np := 159) (by decide +kernel) (by decide) (by decide) (fun q4145 => ?_) (fun q4146 => ?_)
                    · have q4145 : 2147483648 = 2147483648 := q4145
                      refine x_iinc (np := 183) (i := 2) (j := 2147483647) (v := 2147483647) (lo' := [x_r 75, iv_c 2147483653, iv_c 2147483647, iv_c v3978, iv_c 2147483648, iv_c 2147483647]) (by decide +kernel) (by decide) (by decide) rfl (by decide) (by first | decide | omega) (by first | decide | omega) rfl ?_
                      refine x_goto (np := 186) (x := 12) (by decide +kernel) ?_
                      have q4147 : h4126 75 30 = h4109 75 30 := by rw [← e4128]; exact x_up_k (by decide)
                      have q4148 : h4109 75 30 = h3981 75 30 := by rw [← e4111]; exact x_up_i (by first | decide | omega)
                      have q4149 : h3981 75 30 = h3969 75 30 := jK 0 f3983 rg_75_30_0_1 (by first | decide | omega) (by first | decide | omega) (by decide)
                      have q4150 : h3969 75 30 = (1 + (h3880 75 30)) := by rw [← e3971]; exact x_up_at
                      exact i3956 (iv_c v3978) (iv_c 2147483647) h4126 (by first | decide | omega) j4127 f4130 (by first | decide | omega)
                    have q4146 : ¬ (2147483648 = 2147483648) := q4146
                    exfalso; omega
                  have q4144 : ¬ (2147483647 < 2147483648) := q4144
                  exfalso; omega
                have q4137 : ¬ ((h3981 93 0) < 2147483648) := q4137
                refine x_aload (np := 112) (x := 0) (by decide +kernel) rfl (x_nc_le (by decide)) ?_
                refine x_aload (np := 113) (x := 0) (by decide +kernel) rfl (x_nc_le (by decide)) ?_
                have q4151 : h4126 75 27 = 93 := by have z := jB (e := 27) 0 j4127 rg_75_27_0_1 (by decide) (by decide); omega
                refine x_getR (np := 116) (x := 731) (f := 27) (q := 93) (by decide +kernel) (by decide) (by decide +kernel) q4151 ?_
                refine x_iload (np := 117) (x := 2) (by decide +kernel) rfl (by decide) ?_
                have q4152 : h4126 93 0 = h4109 93 0 := by rw [← e4128]; exact x_up_k (by decide)
                have q4153 : h4109 93 0 = h3981 93 0 := by rw [← e4111]; exact x_up_k (by decide)
                refine x_aldC (np := 118) (x := 0) (n := 6) (i := 0) (q := (h3981 93 0)) (by decide +kernel) (by decide +kernel) (by first | decide | omega) (by first | decide | omega) (by decide) (q4152.trans q4153) (fun l4154 => ?_)
                refine x_const (np := 119) (x := 9223372039002259456) (a := 2147483648) (by decide +kernel) (by decide) (by decide) ?_
                refine x_cV (t := 6) (mj := 248) (n := 3) (rc := 12) (ml := 4) (nr := 0) (np := 122) (as := [x_r 75, iv_c (h3981 93 0), iv_c 2147483648]) (rest := []) (lo1 := [x_r 75, iv_c (h3981 93 0), iv_c 2147483648, 147573952589676412928]) (by decide +kernel) (by decide) (by decide +kernel) (x_rb_of (by decide +kernel)) rfl rfl (x_wr (by decide) (x_wi l4135 (x_wi (by decide) x_wn))) x_wn (by decide) rfl (c248_75 j4127  (by first | decide | omega) (by first | decide | omega)) (fun h4158 q4157 => ?_)
                obtain ⟨j4159, f4160⟩ := q4157
                have f4163 := Fr.trans f4129 f4160 (by decide)
                have f4164 := Fr.trans f4130 f4160 (by decide)
                refine x_aload (np := 123) (x := 0) (by decide +kernel) rfl (x_nc_le (by decide)) ?_
                have q4165 : h4158 75 28 = 94 := by have z := jB (e := 28) 0 j4159 rg_75_28_0_1 (by decide) (by decide); omega
                refine x_getR (np := 126) (x := 732) (f := 28) (q := 94) (by decide +kernel) (by decide) (by decide +kernel) q4165 ?_
                refine x_iload (np := 127) (x := 2) (by decide +kernel) rfl (by decide) ?_
                have q4166 : h4158 94 0 = h4126 94 0 := jK 0 f4160 rg_94_0_1_6 (by first | decide | omega) (by first | decide | omega) (by decide)
                have q4167 : h4126 94 0 = 2147483647 := by rw [← e4128]; exact x_up_at
                refine x_aldC (np := 128) (x := 0) (n := 6) (i := 0) (q := 2147483647) (by decide +kernel) (by decide +kernel) (by first | decide | omega) (by first | decide | omega) (by decide) (q4166.trans q4167) (fun l4168 => ?_)
                refine x_ifz (k := 3) (tg := 135) (np := 131) (by decide +kernel) (by decide) (by decide) (fun q4169 => ?_) (fun q4170 => ?_)
                · have q4169 : 2147483648 ≤ 2147483647 := q4169
                  exfalso; omega
                have q4170 : ¬ (2147483648 ≤ 2147483647) := q4170
                refine x_const (np := 132) (x := 9223372034707292159) (a := 2147483647) (by decide +kernel) (by decide) (by decide) ?_
                refine x_goto (np := 135) (x := 140) (by decide +kernel) ?_
                refine x_istore (np := 142) (x := 5) (lo' := [x_r 75, iv_c 2147483653, iv_c 2147483648, iv_c v3978, iv_c 2147483649, iv_c 2147483647]) (by decide +kernel) (by decide) (Nat.le_of_ble_eq_true rfl) rfl ?_
                refine x_iload (np := 144) (x := 5) (by decide +kernel) rfl (by decide) ?_
                refine x_ifz (k := 2) (tg := 151) (np := 147) (by decide +kernel) (by decide) (by decide) (fun q4171 => ?_) (fun q4172 => ?_)
                · have q4171 : 2147483647 < 2147483648 := q4171
                  refine x_const (np := 152) (x := 9223372039002259456) (a := 2147483648) (by decide +kernel) (by decide) (by decide) ?_
                  refine x_istore (np := 154) (x := 4) (lo' := [x_r 75, iv_c 2147483653, iv_c 2147483648, iv_c v3978, iv_c 2147483648, iv_c 2147483647]) (by decide +kernel) (by decide) (Nat.le_of_ble_eq_true rfl) rfl ?_
                  refine x_iload (np := 156) (x := 4) (by decide +kernel) rfl (by decide) ?_
                  refine x_ifz (k := 0) (tg := 180) (np := 159) (by decide +kernel) (by decide) (by decide) (fun q4173 => ?_) (fun q4174 => ?_)
                  · have q4173 : 2147483648 = 2147483648 := q4173
                    refine x_iinc (np := 183) (i := 2) (j := 2147483647) (v := 2147483647) (lo' := [x_r 75, iv_c 2147483653, iv_c 2147483647, iv_c v3978, iv_c 2147483648, iv_c 2147483647]) (by decide +kernel) (by decide) (by decide) rfl (by decide) (by first | decide | omega) (by first | decide | omega) rfl ?_
                    refine x_goto (np := 186) (x := 12) (by decide +kernel) ?_
                    have q4175 : h4158 75 30 = h4126 75 30 := jK 0 f4160 rg_75_30_0_1 (by first | decide | omega) (by first | decide | omega) (by decide)
                    have q4176 : h4126 75 30 = h4109 75 30 := by rw [← e4128]; exact x_up_k (by decide)
                    have q4177 : h4109 75 30 = h3981 75 30 := by rw [← e4111]; exact x_up_i (by first | decide | omega)
                    have q4178 : h3981 75 30 = h3969 75 30 := jK 0 f3983 rg_75_30_0_1 (by first | decide | omega) (by first | decide | omega) (by decide)
                    have q4179 : h3969 75 30 = (1 + (h3880 75 30)) := by rw [← e3971]; exact x_up_at
                    exact i3956 (iv_c v3978) (iv_c 2147483647) h4158 (by first | decide | omega) j4159 f4164 (by first | decide | omega)
                  have q4174 : ¬ (2147483648 = 2147483648) := q4174
                  exfalso; omega
                have q4172 : ¬ (2147483647 < 2147483648) := q4172
                exfalso; omega
              have q4124 : ¬ (v3978 = 2147483649) := q4124
              exfalso; omega
            have q4122 : ¬ ((h 75 33) = 2147483648) := q4122
            refine x_const (np := 84) (x := 9223372043297226753) (a := 2147483649) (by decide +kernel) (by decide) (by decide) ?_
            have q4180 : h4109 75 30 = h3981 75 30 := by rw [← e4111]; exact x_up_i (by first | decide | omega)
            have q4181 : h3981 75 30 = h3969 75 30 := jK 0 f3983 rg_75_30_0_1 (by first | decide | omega) (by first | decide | omega) (by decide)
            have q4182 : h3969 75 30 = (1 + (h3880 75 30)) := by rw [← e3971]; exact x_up_at
            refine x_retI (np := 85) (x := 0) (by decide +kernel) (by decide) (Or.inr ⟨by decide +kernel, by first | decide | omega, by first | decide | omega⟩) ⟨_, rfl, (by decide), ?_⟩
            exact ⟨j4110, f4112, (by first | decide | omega), (fun z => by first | decide | omega)⟩
          have q4103 : ¬ ((h3880 75 34) ≠ 2147483648) := q4103
          refine x_aload (np := 62) (x := 0) (by decide +kernel) rfl (x_nc_le (by decide)) ?_
          refine x_iload (np := 63) (x := 2) (by decide +kernel) rfl (by decide) ?_
          refine x_cV (t := 6) (mj := 258) (n := 2) (rc := 12) (ml := 4) (nr := 0) (np := 66) (as := [x_r 75, iv_c 2147483648]) (rest := []) (lo1 := [x_r 75, iv_c 2147483648, 147573952589676412928, 147573952589676412928]) (by decide +kernel) (by decide) (by decide +kernel) (x_rb_of (by decide +kernel)) rfl rfl (x_wr (by decide) (x_wi (by decide) x_wn)) x_wn (by decide) rfl (c258_75 j3982  (by first | decide | omega)) (fun h4186 q4185 => ?_)
          obtain ⟨j4187, f4188⟩ := q4185
          have f4191 := Fr.trans f3985 f4188 (by decide)
          have f4192 := Fr.trans f3986 f4188 (by decide)
          refine x_aload (np := 67) (x := 0) (by decide +kernel) rfl (x_nc_le (by decide)) ?_
          refine x_dup (np := 68) (x := 0) (by decide +kernel) (by have z := x_nc_le (k := 75) (by decide); unfold x_r; omega) ?_
          have q4193 : h4186 75 34 = h3981 75 34 := jK 0 f4188 rg_75_34_0_1 (by first | decide | omega) (by first | decide | omega) (by decide)
          have q4194 : h3981 75 34 = h3969 75 34 := jK 0 f3983 rg_75_34_0_1 (by first | decide | omega) (by first | decide | omega) (by decide)
          have q4195 : h3969 75 34 = h3880 75 34 := by rw [← e3971]; exact x_up_i (by first | decide | omega)
          refine x_getC (np := 71) (x := 738) (f := 34) (q := (h3880 75 34)) (by decide +kernel) (by decide) (by decide +kernel) ((q4193.trans q4194).trans q4195) (fun l4196 => ?_)
          refine x_const (np := 72) (x := 9223372043297226753) (a := 2147483649) (by decide +kernel) (by decide) (by decide) ?_
          refine x_iadd (np := 73) (x := 0) (v := (1 + (h3880 75 34))) (by decide +kernel) l4101 (by decide) (by first | decide | omega) (by first | decide | omega) ?_
          refine x_putI (np := 76) (x := 738) (f := 34) (by decide +kernel) (by decide +kernel) (by first | decide | omega) (Or.inl (by decide)) ?_
          have j4198 := jU (e := 34) (v := (1 + (h3880 75 34))) 0 j4187 rg_75_34_0_1 (by first | decide | omega) (by first | decide | omega) (by first | decide | omega)
          have f4200 := jF (e := 34) (v := (1 + (h3880 75 34))) 0 f4191 rg_75_34_0_1 (by first | decide | omega) (by first | decide | omega) (by decide)
          have f4201 := jF (e := 34) (v := (1 + (h3880 75 34))) 0 f4192 rg_75_34_0_1 (by first | decide | omega) (by first | decide | omega) (by decide)
          generalize e4199 : x_up h4186 75 34 (1 + (h3880 75 34)) = h4197 at j4198 f4200 f4201 ⊢
          refine x_aload (np := 77) (x := 0) (by decide +kernel) rfl (x_nc_le (by decide)) ?_
          have q4202 : h4197 75 33 = h4186 75 33 := by rw [← e4199]; exact x_up_i (by first | decide | omega)
          have q4203 : h4186 75 33 = h3981 75 33 := jK 0 f4188 rg_75_33_0_1 (by first | decide | omega) (by first | decide | omega) (by decide)
          have q4204 : h3981 75 33 = h3969 75 33 := jK 0 f3983 rg_75_33_0_1 (by first | decide | omega) (by first | decide | omega) (by decide)
          have q4205 : h3969 75 33 = h3880 75 33 := by rw [← e3971]; exact x_up_i (by first | decide | omega)
          have q4206 : h3880 75 33 = h2 75 33 := jK 0 f3882 rg_75_33_0_1 (by first | decide | omega) (by first | decide | omega) (by decide)
          have q4207 : h2 75 33 = h 75 33 := by rw [← e4]; exact x_up_i (by first | decide | omega)
          have b4208 := jB (e := 33) 0 hJ rg_75_33_0_1 (by first | decide | omega) (by first | decide | omega)
          refine x_getC (np := 80) (x := 737) (f := 33) (q := (h 75 33)) (by decide +kernel) (by decide) (by decide +kernel) (((((q4202.trans q4203).trans q4204).trans q4205).trans q4206).trans q4207) (fun l4209 => ?_)
          refine x_ifz (k := 0) (tg := 85) (np := 83) (by decide +kernel) (by decide) l4209 (fun q4210 => ?_) (fun q4211 => ?_)
          · have q4210 : (h 75 33) = 2147483648 := q4210
            refine x_iload (np := 86) (x := 3) (by decide +kernel) rfl l3979 ?_
            refine x_const (np := 87) (x := 9223372043297226753) (a := 2147483649) (by decide +kernel) (by decide) (by decide) ?_
            refine x_icmp (k := 0) (tg := 95) (np := 90) (by decide +kernel) (by decide) l3979 (by decide) (fun q4212 => ?_) (fun q4213 => ?_)
            · have q4212 : v3978 = 2147483649 := q4212
              refine x_aload (np := 96) (x := 0) (by decide +kernel) rfl (x_nc_le (by decide)) ?_
              have q4214 : h4197 75 28 = 94 := by have z := jB (e := 28) 0 j4198 rg_75_28_0_1 (by decide) (by decide); omega
              refine x_getR (np := 99) (x := 732) (f := 28) (q := 94) (by decide +kernel) (by decide) (by decide +kernel) q4214 ?_
              refine x_iload (np := 100) (x := 2) (by decide +kernel) rfl (by decide) ?_
              refine x_const (np := 101) (x := 9223372034707292159) (a := 2147483647) (by decide +kernel) (by decide) (by decide) ?_
              refine x_ast (np := 102) (x := 0) (kd := 1) (n := 6) (i := 0) (by decide +kernel) (Or.inl rfl) (by decide +kernel) (by first | decide | omega) (by first | decide | omega) (by decide) (by decide) (fun z => absurd z (by decide)) ?_
              have j4216 := jU (e := 0) (v := 2147483647) 0 j4198 rg_94_0_1_6 (by first | decide | omega) (by first | decide | omega) (by first | decide | omega)
              have f4218 := jF (e := 0) (v := 2147483647) 0 f4200 rg_94_0_1_6 (by first | decide | omega) (by first | decide | omega) (by decide)
              have f4219 := jF (e := 0) (v := 2147483647) 0 f4201 rg_94_0_1_6 (by first | decide | omega) (by first | decide | omega) (by decide)
              generalize e4217 : x_up h4197 94 0 2147483647 = h4215 at j4216 f4218 f4219 ⊢
              refine x_aload (np := 103) (x := 0) (by decide +kernel) rfl (x_nc_le (by decide)) ?_
              have q4220 : h4215 75 27 = 93 := by have z := jB (e := 27) 0 j4216 rg_75_27_0_1 (by decide) (by decide); omega
              refine x_getR (np := 106) (x := 731) (f := 27) (q := 93) (by decide +kernel) (by decide) (by decide +kernel) q4220 ?_
              refine x_iload (np := 107) (x := 2) (by decide +kernel) rfl (by decide) ?_
              have q4221 : h4215 93 0 = h4197 93 0 := by rw [← e4217]; exact x_up_k (by decide)
              have q4222 : h4197 93 0 = h4186 93 0 := by rw [← e4199]; exact x_up_k (by decide)
              have q4223 : h4186 93 0 = h3981 93 0 := jK 0 f4188 rg_93_0_1_6 (by first | decide | omega) (by first | decide | omega) (by decide)
              have b4224 := jB (e := 0) 0 j3982 rg_93_0_1_6 (by first | decide | omega) (by first | decide | omega)
              refine x_aldC (np := 108) (x := 0) (n := 6) (i := 0) (q := (h3981 93 0)) (by decide +kernel) (by decide +kernel) (by first | decide | omega) (by first | decide | omega) (by decide) ((q4221.trans q4222).trans q4223) (fun l4225 => ?_)
              refine x_ifz (k := 2) (tg := 122) (np := 111) (by decide +kernel) (by decide) l4225 (fun q4226 => ?_) (fun q4227 => ?_)
              · have q4226 : (h3981 93 0) < 2147483648 := q4226
                refine x_aload (np := 123) (x := 0) (by decide +kernel) rfl (x_nc_le (by decide)) ?_
                have q4228 : h4215 75 28 = 94 := by have z := jB (e := 28) 0 j4216 rg_75_28_0_1 (by decide) (by decide); omega
                refine x_getR (np := 126) (x := 732) (f := 28) (q := 94) (by decide +kernel) (by decide) (by decide +kernel) q4228 ?_
                refine x_iload (np := 127) (x := 2) (by decide +kernel) rfl (by decide) ?_
                have q4229 : h4215 94 0 = 2147483647 := by rw [← e4217]; exact x_up_at
                refine x_aldC (np := 128) (x := 0) (n := 6) (i := 0) (q := 2147483647) (by decide +kernel) (by decide +kernel) (by first | decide | omega) (by first | decide | omega) (by decide) q4229 (fun l4230 => ?_)
                refine x_ifz (k := 3) (tg := 135) (np := 131) (by decide +kernel) (by decide) (by decide) (fun q4231 => ?_) (fun q4232 => ?_)
                · have q4231 : 2147483648 ≤ 2147483647 := q4231
                  exfalso; omega
                have q4232 : ¬ (2147483648 ≤ 2147483647) := q4232
                refine x_const (np := 132) (x := 9223372034707292159) (a := 2147483647) (by decide +kernel) (by decide) (by decide) ?_
                refine x_goto (np := 135) (x := 140) (by decide +kernel) ?_
                refine x_istore (np := 142) (x := 5) (lo' := [x_r 75, iv_c 2147483653, iv_c 2147483648, iv_c v3978, iv_c 2147483649, iv_c 2147483647]) (by decide +kernel) (by decide) (Nat.le_of_ble_eq_true rfl) rfl ?_
                refine x_iload (np := 144) (x := 5) (by decide +kernel) rfl (by decide) ?_
                refine x_ifz (k := 2) (tg := 151) (np := 147) (by decide +kernel) (by decide) (by decide) (fun q4233 => ?_) (fun q4234 => ?_)
                · have q4233 : 2147483647 < 2147483648 := q4233
                  refine x_const (np := 152) (x := 9223372039002259456) (a := 2147483648) (by decide +kernel) (by decide) (by decide) ?_
                  refine x_istore (np := 154) (x := 4) (lo' := [x_r 75, iv_c 2147483653, iv_c 2147483648, iv_c v3978, iv_c 2147483648, iv_c 2147483647]) (by decide +kernel) (by decide) (Nat.le_of_ble_eq_true rfl) rfl ?_
                  refine x_iload (np := 156) (x := 4) (by decide +kernel) rfl (by decide) ?_
                  refine x_ifz (k := 0) (tg := 180) (np := 159) (by decide +kernel) (by decide) (by decide) (fun q4235 => ?_) (fun q4236 => ?_)
                  · have q4235 : 2147483648 = 2147483648 := q4235
                    refine x_iinc (np := 183) (i := 2) (j := 2147483647) (v := 2147483647) (lo' := [x_r 75, iv_c 2147483653, iv_c 2147483647, iv_c v3978, iv_c 2147483648, iv_c 2147483647]) (by decide +kernel) (by decide) (by decide) rfl (by decide) (by first | decide | omega) (by first | decide | omega) rfl ?_
                    refine x_goto (np := 186) (x := 12) (by decide +kernel) ?_
                    have q4237 : h4215 75 30 = h4197 75 30 := by rw [← e4217]; exact x_up_k (by decide)
                    have q4238 : h4197 75 30 = h4186 75 30 := by rw [← e4199]; exact x_up_i (by first | decide | omega)
                    have q4239 : h4186 75 30 = h3981 75 30 := jK 0 f4188 rg_75_30_0_1 (by first | decide | omega) (by first | decide | omega) (by decide)
                    have q4240 : h3981 75 30 = h3969 75 30 := jK 0 f3983 rg_75_30_0_1 (by first | decide | omega) (by first | decide | omega) (by decide)
                    have q4241 : h3969 75 30 = (1 + (h3880 75 30)) := by rw [← e3971]; exact x_up_at
                    exact i3956 (iv_c v3978) (iv_c 2147483647) h4215 (by first | decide | omega) j4216 f4219 (by first | decide | omega)
                  have q4236 : ¬ (2147483648 = 2147483648) := q4236
                  exfalso; omega
                have q4234 : ¬ (2147483647 < 2147483648) := q4234
                exfalso; omega
              have q4227 : ¬ ((h3981 93 0) < 2147483648) := q4227
              refine x_aload (np := 112) (x := 0) (by decide +kernel) rfl (x_nc_le (by decide)) ?_
              refine x_aload (np := 113) (x := 0) (by decide +kernel) rfl (x_nc_le (by decide)) ?_
              have q4242 : h4215 75 27 = 93 := by have z := jB (e := 27) 0 j4216 rg_75_27_0_1 (by decide) (by decide); omega
              refine x_getR (np := 116) (x := 731) (f := 27) (q := 93) (by decide +kernel) (by decide) (by decide +kernel) q4242 ?_
              refine x_iload (np := 117) (x := 2) (by decide +kernel) rfl (by decide) ?_
              have q4243 : h4215 93 0 = h4197 93 0 := by rw [← e4217]; exact x_up_k (by decide)
              have q4244 : h4197 93 0 = h4186 93 0 := by rw [← e4199]; exact x_up_k (by decide)
              have q4245 : h4186 93 0 = h3981 93 0 := jK 0 f4188 rg_93_0_1_6 (by first | decide | omega) (by first | decide | omega) (by decide)
              refine x_aldC (np := 118) (x := 0) (n := 6) (i := 0) (q := (h3981 93 0)) (by decide +kernel) (by decide +kernel) (by first | decide | omega) (by first | decide | omega) (by decide) ((q4243.trans q4244).trans q4245) (fun l4246 => ?_)
              refine x_const (np := 119) (x := 9223372039002259456) (a := 2147483648) (by decide +kernel) (by decide) (by decide) ?_
              refine x_cV (t := 6) (mj := 248) (n := 3) (rc := 12) (ml := 4) (nr := 0) (np := 122) (as := [x_r 75, iv_c (h3981 93 0), iv_c 2147483648]) (rest := []) (lo1 := [x_r 75, iv_c (h3981 93 0), iv_c 2147483648, 147573952589676412928]) (by decide +kernel) (by decide) (by decide +kernel) (x_rb_of (by decide +kernel)) rfl rfl (x_wr (by decide) (x_wi l4225 (x_wi (by decide) x_wn))) x_wn (by decide) rfl (c248_75 j4216  (by first | decide | omega) (by first | decide | omega)) (fun h4250 q4249 => ?_)
              obtain ⟨j4251, f4252⟩ := q4249
              have f4255 := Fr.trans f4218 f4252 (by decide)
              have f4256 := Fr.trans f4219 f4252 (by decide)
              refine x_aload (np := 123) (x := 0) (by decide +kernel) rfl (x_nc_le (by decide)) ?_
              have q4257 : h4250 75 28 = 94 := by have z := jB (e := 28) 0 j4251 rg_75_28_0_1 (by decide) (by decide); omega
              refine x_getR (np := 126) (x := 732) (f := 28) (q := 94) (by decide +kernel) (by decide) (by decide +kernel) q4257 ?_
              refine x_iload (np := 127) (x := 2) (by decide +kernel) rfl (by decide) ?_
              have q4258 : h4250 94 0 = h4215 94 0 := jK 0 f4252 rg_94_0_1_6 (by first | decide | omega) (by first | decide | omega) (by decide)
              have q4259 : h4215 94 0 = 2147483647 := by rw [← e4217]; exact x_up_at
              refine x_aldC (np := 128) (x := 0) (n := 6) (i := 0) (q := 2147483647) (by decide +kernel) (by decide +kernel) (by first | decide | omega) (by first | decide | omega) (by decide) (q4258.trans q4259) (fun l4260 => ?_)
              refine x_ifz (k := 3) (tg := 135) (np := 131) (by decide +kernel) (by decide) (by decide) (fun q4261 => ?_) (fun q4262 => ?_)
              · have q4261 : 2147483648 ≤ 2147483647 := q4261
                exfalso; omega
              have q4262 : ¬ (2147483648 ≤ 2147483647) := q4262
              refine x_const (np := 132) (x := 9223372034707292159) (a := 2147483647) (by decide +kernel) (by decide) (by decide) ?_
              refine x_goto (np := 135) (x := 140) (by decide +kernel) ?_
              refine x_istore (np := 142) (x := 5) (lo' := [x_r 75, iv_c 2147483653, iv_c 2147483648, iv_c v3978, iv_c 2147483649, iv_c 2147483647]) (by decide +kernel) (by decide) (Nat.le_of_ble_eq_true rfl) rfl ?_
              refine x_iload (np := 144) (x := 5) (by decide +kernel) rfl (by decide) ?_
              refine x_ifz (k := 2) (tg := 151) (np := 147) (by decide +kernel) (by decide) (by decide) (fun q4263 => ?_) (fun q4264 => ?_)
              · have q4263 : 2147483647 < 2147483648 := q4263
                refine x_const (np := 152) (x := 9223372039002259456) (a := 2147483648) (by decide +kernel) (by decide) (by decide) ?_
                refine x_istore (np := 154) (x := 4) (lo' := [x_r 75, iv_c 2147483653, iv_c 2147483648, iv_c v3978, iv_c 2147483648, iv_c 2147483647]) (by decide +kernel) (by decide) (Nat.le_of_ble_eq_true rfl) rfl ?_
                refine x_iload (np := 156) (x := 4) (by decide +kernel) rfl (by decide) ?_
                refine x_ifz (k := 0) (tg := 180) (np := 159) (by decide +kernel) (by decide) (by decide) (fun q4265 => ?_) (fun q4266 => ?_)
                · have q4265 : 2147483648 = 2147483648 := q4265
                  refine x_iinc (np := 183) (i := 2) (j := 2147483647) (v := 2147483647) (lo' := [x_r 75, iv_c 2147483653, iv_c 2147483647, iv_c v3978, iv_c 2147483648, iv_c 2147483647]) (by decide +kernel) (by decide) (by decide) rfl (by decide) (by first | decide | omega) (by first | decide | omega) rfl ?_
                  refine x_goto (np := 186) (x := 12) (by decide +kernel) ?_
                  have q4267 : h4250 75 30 = h4215 75 30 := jK 0 f4252 rg_75_30_0_1 (by first | decide | omega) (by first | decide | omega) (by decide)
                  have q4268 : h4215 75 30 = h4197 75 30 := by rw [← e4217]; exact x_up_k (by decide)
                  have q4269 : h4197 75 30 = h4186 75 30 := by rw [← e4199]; exact x_up_i (by first | decide | omega)
                  have q4270 : h4186 75 30 = h3981 75 30 := jK 0 f4188 rg_75_30_0_1 (by first | decide | omega) (by first | decide | omega) (by decide)
                  have q4271 : h3981 75 30 = h3969 75 30 := jK 0 f3983 rg_75_30_0_1 (by first | decide | omega) (by first | decide | omega) (by decide)
                  have q4272 : h3969 75 30 = (1 + (h3880 75 30)) := by rw [← e3971]; exact x_up_at
                  exact i3956 (iv_c v3978) (iv_c 2147483647) h4250 (by first | decide | omega) j4251 f4256 (by first | decide | omega)
                have q4266 : ¬ (2147483648 = 2147483648) := q4266
                exfalso; omega
              have q4264 : ¬ (2147483647 < 2147483648) := q4264
              exfalso; omega
            have q4213 : ¬ (v3978 = 2147483649) := q4213
            exfalso; omega
          have q4211 : ¬ ((h 75 33) = 2147483648) := q4211
          refine x_const (np := 84) (x := 9223372043297226753) (a := 2147483649) (by decide +kernel) (by decide) (by decide) ?_
          have q4273 : h4197 75 30 = h4186 75 30 := by rw [← e4199]; exact x_up_i (by first | decide | omega)
          have q4274 : h4186 75 30 = h3981 75 30 := jK 0 f4188 rg_75_30_0_1 (by first | decide | omega) (by first | decide | omega) (by decide)
          have q4275 : h3981 75 30 = h3969 75 30 := jK 0 f3983 rg_75_30_0_1 (by first | decide | omega) (by first | decide | omega) (by decide)
          have q4276 : h3969 75 30 = (1 + (h3880 75 30)) := by rw [← e3971]; exact x_up_at
          refine x_retI (np := 85) (x := 0) (by decide +kernel) (by decide) (Or.inr ⟨by decide +kernel, by first | decide | omega, by first | decide | omega⟩) ⟨_, rfl, (by decide), ?_⟩
          exact ⟨j4198, f4200, (by first | decide | omega), (fun z => by first | decide | omega)⟩
        have q3977 : ¬ ((1 + (h3880 75 30)) ≤ 2147503648) := q3977
        refine x_const (np := 42) (x := 9223372039002259456) (a := 2147483648) (by decide +kernel) (by decide) (by decide) ?_
        have q4277 : h3969 75 30 = (1 + (h3880 75 30)) := by rw [← e3971]; exact x_up_at
        refine x_retI (np := 43) (x := 0) (by decide +kernel) (by decide) (Or.inr ⟨by decide +kernel, by first | decide | omega, by first | decide | omega⟩) ⟨_, rfl, (by decide), ?_⟩
        exact ⟨j3970, f3972, (by first | decide | omega), (fun z => by first | decide | omega)⟩
      · intro w3884 w3885 h3886 q4278 j3889 f3888 b3887
        have f4279 := Fr.trans f5 f3888 (by decide)
        refine x_iload (np := 13) (x := 2) (by decide +kernel) rfl (by decide) ?_
        refine x_ifz (k := 2) (tg := 186) (np := 16) (by decide +kernel) (by decide) (by decide) (fun q4280 => ?_) (fun q4281 => ?_)
        · have q4280 : 2147483649 < 2147483648 := q4280
          exfalso; omega
        have q4281 : ¬ (2147483649 < 2147483648) := q4281
        refine x_iload (np := 18) (x := 4) (by decide +kernel) rfl (by decide) ?_
        refine x_ifz (k := 0) (tg := 102) (np := 21) (by decide +kernel) (by decide) (by decide) (fun q4282 => ?_) (fun q4283 => ?_)
        · have q4282 : 2147483649 = 2147483648 := q4282
          exfalso; omega
        have q4283 : ¬ (2147483649 = 2147483648) := q4283
        refine x_aload (np := 22) (x := 0) (by decide +kernel) rfl (x_nc_le (by decide)) ?_
        refine x_dup (np := 23) (x := 0) (by decide +kernel) (by have z := x_nc_le (k := 75) (by decide); unfold x_r; omega) ?_
        refine x_getC (np := 26) (x := 734) (f := 30) (q := (h3886 75 30)) (by decide +kernel) (by decide) (by decide +kernel) rfl (fun l4284 => ?_)
        refine x_const (np := 27) (x := 9223372043297226753) (a := 2147483649) (by decide +kernel) (by decide) (by decide) ?_
        refine x_iadd (np := 28) (x := 0) (v := (1 + (h3886 75 30))) (by decide +kernel) l4284 (by decide) (by first | decide | omega) (by first | decide | omega) ?_
        refine x_putI (np := 31) (x := 734) (f := 30) (by decide +kernel) (by decide +kernel) (by first | decide | omega) (Or.inl (by decide)) ?_
        have j4286 := jU (e := 30) (v := (1 + (h3886 75 30))) 0 j3889 rg_75_30_0_1 (by first | decide | omega) (by first | decide | omega) (by first | decide | omega)
        have f4288 := jF (e := 30) (v := (1 + (h3886 75 30))) 0 f4279 rg_75_30_0_1 (by first | decide | omega) (by first | decide | omega) (by decide)
        have f4289 := jF (e := 30) (v := (1 + (h3886 75 30))) 0 f3888 rg_75_30_0_1 (by first | decide | omega) (by first | decide | omega) (by decide)
        generalize e4287 : x_up h3886 75 30 (1 + (h3886 75 30)) = h4285 at j4286 f4288 f4289 ⊢
        refine x_aload (np := 32) (x := 0) (by decide +kernel) rfl (x_nc_le (by decide)) ?_
        have q4290 : h4285 75 30 = (1 + (h3886 75 30)) := by rw [← e4287]; exact x_up_at
        refine x_getC (np := 35) (x := 734) (f := 30) (q := (1 + (h3886 75 30))) (by decide +kernel) (by decide) (by decide +kernel) q4290 (fun l4291 => ?_)
        refine x_const (np := 38) (x := 9223457938348199456) (a := 2147503648) (by decide +kernel) (by decide) (by decide) ?_
        refine x_icmp (k := 5) (tg := 43) (np := 41) (by decide +kernel) (by decide) (by first | decide | omega) (by decide) (fun q4292 => ?_) (fun q4293 => ?_)
        · have q4292 : (1 + (h3886 75 30)) ≤ 2147503648 := q4292
          refine x_aload (np := 44) (x := 0) (by decide +kernel) rfl (x_nc_le (by decide)) ?_
          refine x_iload (np := 45) (x := 2) (by decide +kernel) rfl (by decide) ?_
          refine x_cI (t := 6) (mj := 254) (n := 2) (rc := 12) (ml := 4) (nr := 0) (np := 48) (as := [x_r 75, iv_c 2147483649]) (rest := []) (lo1 := [x_r 75, iv_c 2147483649, 147573952589676412928, 147573952589676412928]) (by decide +kernel) (by decide) (by decide +kernel) (x_rb_of (by decide +kernel)) rfl rfl (x_wr (by decide) (x_wi (by decide) x_wn)) x_wn (by decide) rfl (c254_75 j4286  (by first | decide | omega)) (fun v4294 h4297 l4295 q4296 => ?_)
          obtain ⟨j4298, f4299, b4300⟩ := q4296
          have f4301 := Fr.trans f4288 f4299 (by decide)
          have f4302 := Fr.trans f4289 f4299 (by decide)
          refine x_istore (np := 49) (x := 3) (lo' := [x_r 75, iv_c 2147483653, iv_c 2147483649, iv_c v4294, iv_c 2147483649, w3885]) (by decide +kernel) l4295 (Nat.le_of_ble_eq_true rfl) rfl ?_
          refine x_iload (np := 50) (x := 3) (by decide +kernel) rfl l4295 ?_
          refine x_const (np := 51) (x := 9223372043297226753) (a := 2147483649) (by decide +kernel) (by decide) (by decide) ?_
          refine x_icmp (k := 1) (tg := 85) (np := 54) (by decide +kernel) (by decide) l4295 (by decide) (fun q4303 => ?_) (fun q4304 => ?_)
          · have q4303 : v4294 ≠ 2147483649 := q4303
            refine x_iload (np := 86) (x := 3) (by decide +kernel) rfl l4295 ?_
            refine x_const (np := 87) (x := 9223372043297226753) (a := 2147483649) (by decide +kernel) (by decide) (by decide) ?_
            refine x_icmp (k := 0) (tg := 95) (np := 90) (by decide +kernel) (by decide) l4295 (by decide) (fun q4305 => ?_) (fun q4306 => ?_)
            · have q4305 : v4294 = 2147483649 := q4305
              exfalso; omega
            have q4306 : ¬ (v4294 = 2147483649) := q4306
            refine x_iload (np := 91) (x := 2) (by decide +kernel) rfl (by decide) ?_
            refine x_iload (np := 92) (x := 1) (by decide +kernel) rfl (by decide) ?_
            refine x_icmp (k := 1) (tg := 102) (np := 95) (by decide +kernel) (by decide) (by decide) (by decide) (fun q4307 => ?_) (fun q4308 => ?_)
            · have q4307 : 2147483649 ≠ 2147483653 := q4307
              refine x_aload (np := 103) (x := 0) (by decide +kernel) rfl (x_nc_le (by decide)) ?_
              have q4309 : h4297 75 27 = 93 := by have z := jB (e := 27) 0 j4298 rg_75_27_0_1 (by decide) (by decide); omega
              refine x_getR (np := 106) (x := 731) (f := 27) (q := 93) (by decide +kernel) (by decide) (by decide +kernel) q4309 ?_
              refine x_iload (np := 107) (x := 2) (by decide +kernel) rfl (by decide) ?_
              have b4310 := jB (e := 1) 1 j4298 rg_93_0_1_6 (by first | decide | omega) (by first | decide | omega)
              refine x_aldC (np := 108) (x := 0) (n := 6) (i := 1) (q := (h4297 93 1)) (by decide +kernel) (by decide +kernel) (by first | decide | omega) (by first | decide | omega) (by decide) rfl (fun l4311 => ?_)
              refine x_ifz (k := 2) (tg := 122) (np := 111) (by decide +kernel) (by decide) l4311 (fun q4312 => ?_) (fun q4313 => ?_)
              · have q4312 : (h4297 93 1) < 2147483648 := q4312
                refine x_aload (np := 123) (x := 0) (by decide +kernel) rfl (x_nc_le (by decide)) ?_
                have q4314 : h4297 75 28 = 94 := by have z := jB (e := 28) 0 j4298 rg_75_28_0_1 (by decide) (by decide); omega
                refine x_getR (np := 126) (x := 732) (f := 28) (q := 94) (by decide +kernel) (by decide) (by decide +kernel) q4314 ?_
                refine x_iload (np := 127) (x := 2) (by decide +kernel) rfl (by decide) ?_
                have b4315 := jB (e := 1) 1 j4298 rg_94_0_1_6 (by first | decide | omega) (by first | decide | omega)
                refine x_aldC (np := 128) (x := 0) (n := 6) (i := 1) (q := (h4297 94 1)) (by decide +kernel) (by decide +kernel) (by first | decide | omega) (by first | decide | omega) (by decide) rfl (fun l4316 => ?_)
                refine x_ifz (k := 3) (tg := 135) (np := 131) (by decide +kernel) (by decide) l4316 (fun q4317 => ?_) (fun q4318 => ?_)
                · have q4317 : 2147483648 ≤ (h4297 94 1) := q4317
                  refine x_aload (np := 136) (x := 0) (by decide +kernel) rfl (x_nc_le (by decide)) ?_
                  refine x_iload (np := 137) (x := 2) (by decide +kernel) rfl (by decide) ?_
                  refine x_cP (t := 6) (mj := 257) (n := 2) (rc := 12) (ml := 3) (nr := 0) (np := 140) (as := [x_r 75, iv_c 2147483649]) (rest := []) (lo1 := [x_r 75, iv_c 2147483649, 147573952589676412928]) (by decide +kernel) (by decide) (by decide +kernel) (x_rb_of (by decide +kernel)) rfl rfl (x_wr (by decide) (x_wi (by decide) x_wn)) x_wn (by decide) rfl (c257_75_c1 j4298   (by first | decide | omega)) (fun v4319 l4320 q4321 => ?_)
                  refine x_istore (np := 142) (x := 5) (lo' := [x_r 75, iv_c 2147483653, iv_c 2147483649, iv_c v4294, iv_c 2147483649, iv_c v4319]) (by decide +kernel) l4320 (Nat.le_of_ble_eq_true rfl) rfl ?_
                  refine x_iload (np := 144) (x := 5) (by decide +kernel) rfl l4320 ?_
                  refine x_ifz (k := 2) (tg := 151) (np := 147) (by decide +kernel) (by decide) l4320 (fun q4322 => ?_) (fun q4323 => ?_)
                  · have q4322 : v4319 < 2147483648 := q4322
                    refine x_const (np := 152) (x := 9223372039002259456) (a := 2147483648) (by decide +kernel) (by decide) (by decide) ?_
                    refine x_istore (np := 154) (x := 4) (lo' := [x_r 75, iv_c 2147483653, iv_c 2147483649, iv_c v4294, iv_c 2147483648, iv_c v4319]) (by decide +kernel) (by decide) (Nat.le_of_ble_eq_true rfl) rfl ?_
                    refine x_iload (np := 156) (x := 4) (by decide +kernel) rfl (by decide) ?_
                    refine x_ifz (k := 0) (tg := 180) (np := 159) (by decide +kernel) (by decide) (by decide) (fun q4324 => ?_) (fun q4325 => ?_)
                    · have q4324 : 2147483648 = 2147483648 := q4324
                      refine x_iinc (np := 183) (i := 2) (j := 2147483647) (v := 2147483648) (lo' := [x_r 75, iv_c 2147483653, iv_c 2147483648, iv_c v4294, iv_c 2147483648, iv_c v4319]) (by decide +kernel) (by decide) (by decide) rfl (by decide) (by first | decide | omega) (by first | decide | omega) rfl ?_
                      refine x_goto (np := 186) (x := 12) (by decide +kernel) ?_
                      have q4326 : h4297 75 30 = h4285 75 30 := jK 0 f4299 rg_75_30_0_1 (by first | decide | omega) (by first | decide | omega) (by decide)
                      have q4327 : h4285 75 30 = (1 + (h3886 75 30)) := by rw [← e4287]; exact x_up_at
                      exact i3957 (iv_c v4294) (iv_c v4319) h4297 (by first | decide | omega) j4298 f4302 (by first | decide | omega)
                    have q4325 : ¬ (2147483648 = 2147483648) := q4325
                    exfalso; omega
                  have q4323 : ¬ (v4319 < 2147483648) := q4323
                  refine x_const (np := 148) (x := 9223372043297226753) (a := 2147483649) (by decide +kernel) (by decide) (by decide) ?_
                  refine x_goto (np := 151) (x := 152) (by decide +kernel) ?_
                  refine x_istore (np := 154) (x := 4) (lo' := [x_r 75, iv_c 2147483653, iv_c 2147483649, iv_c v4294, iv_c 2147483649, iv_c v4319]) (by decide +kernel) (by decide) (Nat.le_of_ble_eq_true rfl) rfl ?_
                  refine x_iload (np := 156) (x := 4) (by decide +kernel) rfl (by decide) ?_
                  refine x_ifz (k := 0) (tg := 180) (np := 159) (by decide +kernel) (by decide) (by decide) (fun q4328 => ?_) (fun q4329 => ?_)
                  · have q4328 : 2147483649 = 2147483648 := q4328
                    exfalso; omega
                  have q4329 : ¬ (2147483649 = 2147483648) := q4329
                  refine x_aload (np := 160) (x := 0) (by decide +kernel) rfl (x_nc_le (by decide)) ?_
                  have q4330 : h4297 75 27 = 93 := by have z := jB (e := 27) 0 j4298 rg_75_27_0_1 (by decide) (by decide); omega
                  refine x_getR (np := 163) (x := 731) (f := 27) (q := 93) (by decide +kernel) (by decide) (by decide +kernel) q4330 ?_
                  refine x_iload (np := 164) (x := 2) (by decide +kernel) rfl (by decide) ?_
                  refine x_iload (np := 166) (x := 5) (by decide +kernel) rfl l4320 ?_
                  refine x_ast (np := 167) (x := 0) (kd := 1) (n := 6) (i := 1) (by decide +kernel) (Or.inl rfl) (by decide +kernel) (by first | decide | omega) (by first | decide | omega) (by decide) l4320 (fun z => absurd z (by decide)) ?_
                  have j4332 := jU (e := 1) (v := v4319) 1 j4298 rg_93_0_1_6 (by first | decide | omega) (by first | decide | omega) (by first | decide | omega)
                  have f4334 := jF (e := 1) (v := v4319) 1 f4301 rg_93_0_1_6 (by first | decide | omega) (by first | decide | omega) (by decide)
                  have f4335 := jF (e := 1) (v := v4319) 1 f4302 rg_93_0_1_6 (by first | decide | omega) (by first | decide | omega) (by decide)
                  generalize e4333 : x_up h4297 93 1 v4319 = h4331 at j4332 f4334 f4335 ⊢
                  refine x_aload (np := 168) (x := 0) (by decide +kernel) rfl (x_nc_le (by decide)) ?_
                  refine x_iload (np := 170) (x := 5) (by decide +kernel) rfl l4320 ?_
                  refine x_const (np := 171) (x := 9223372043297226753) (a := 2147483649) (by decide +kernel) (by decide) (by decide) ?_
                  refine x_cV (t := 6) (mj := 248) (n := 3) (rc := 12) (ml := 4) (nr := 0) (np := 174) (as := [x_r 75, iv_c v4319, iv_c 2147483649]) (rest := []) (lo1 := [x_r 75, iv_c v4319, iv_c 2147483649, 147573952589676412928]) (by decide +kernel) (by decide) (by decide +kernel) (x_rb_of (by decide +kernel)) rfl rfl (x_wr (by decide) (x_wi l4320 (x_wi (by decide) x_wn))) x_wn (by decide) rfl (c248_75 j4332  (by first | decide | omega) (by first | decide | omega)) (fun h4339 q4338 => ?_)
                  obtain ⟨j4340, f4341⟩ := q4338
                  have f4344 := Fr.trans f4334 f4341 (by decide)
                  have f4345 := Fr.trans f4335 f4341 (by decide)
                  refine x_iinc (np := 177) (i := 2) (j := 2147483649) (v := 2147483650) (lo' := [x_r 75, iv_c 2147483653, iv_c 2147483650, iv_c v4294, iv_c 2147483649, iv_c v4319]) (by decide +kernel) (by decide) (by decide) rfl (by decide) (by first | decide | omega) (by first | decide | omega) rfl ?_
                  refine x_goto (np := 180) (x := 183) (by decide +kernel) ?_
                  refine x_goto (np := 186) (x := 12) (by decide +kernel) ?_
                  have q4346 : h4339 75 30 = h4331 75 30 := jK 0 f4341 rg_75_30_0_1 (by first | decide | omega) (by first | decide | omega) (by decide)
                  have q4347 : h4331 75 30 = h4297 75 30 := by rw [← e4333]; exact x_up_k (by decide)
                  have q4348 : h4297 75 30 = h4285 75 30 := jK 0 f4299 rg_75_30_0_1 (by first | decide | omega) (by first | decide | omega) (by decide)
                  have q4349 : h4285 75 30 = (1 + (h3886 75 30)) := by rw [← e4287]; exact x_up_at
                  exact i3952 (iv_c v4294) (iv_c v4319) h4339 (by first | decide | omega) j4340 f4345 (by first | decide | omega)
                have q4318 : ¬ (2147483648 ≤ (h4297 94 1)) := q4318
                refine x_const (np := 132) (x := 9223372034707292159) (a := 2147483647) (by decide +kernel) (by decide) (by decide) ?_
                refine x_goto (np := 135) (x := 140) (by decide +kernel) ?_
                refine x_istore (np := 142) (x := 5) (lo' := [x_r 75, iv_c 2147483653, iv_c 2147483649, iv_c v4294, iv_c 2147483649, iv_c 2147483647]) (by decide +kernel) (by decide) (Nat.le_of_ble_eq_true rfl) rfl ?_
                refine x_iload (np := 144) (x := 5) (by decide +kernel) rfl (by decide) ?_
                refine x_ifz (k := 2) (tg := 151) (np := 147) (by decide +kernel) (by decide) (by decide) (fun q4350 => ?_) (fun q4351 => ?_)
                · have q4350 : 2147483647 < 2147483648 := q4350
                  refine x_const (np := 152) (x := 9223372039002259456) (a := 2147483648) (by decide +kernel) (by decide) (by decide) ?_
                  refine x_istore (np := 154) (x := 4) (lo' := [x_r 75, iv_c 2147483653, iv_c 2147483649, iv_c v4294, iv_c 2147483648, iv_c 2147483647]) (by decide +kernel) (by decide) (Nat.le_of_ble_eq_true rfl) rfl ?_
                  refine x_iload (np := 156) (x := 4) (by decide +kernel) rfl (by decide) ?_
                  refine x_ifz (k := 0) (tg := 180) (np := 159) (by decide +kernel) (by decide) (by decide) (fun q4352 => ?_) (fun q4353 => ?_)
                  · have q4352 : 2147483648 = 2147483648 := q4352
                    refine x_iinc (np := 183) (i := 2) (j := 2147483647) (v := 2147483648) (lo' := [x_r 75, iv_c 2147483653, iv_c 2147483648, iv_c v4294, iv_c 2147483648, iv_c 2147483647]) (by decide +kernel) (by decide) (by decide) rfl (by decide) (by first | decide | omega) (by first | decide | omega) rfl ?_
                    refine x_goto (np := 186) (x := 12) (by decide +kernel) ?_
                    have q4354 : h4297 75 30 = h4285 75 30 := jK 0 f4299 rg_75_30_0_1 (by first | decide | omega) (by first | decide | omega) (by decide)
                    have q4355 : h4285 75 30 = (1 + (h3886 75 30)) := by rw [← e4287]; exact x_up_at
                    exact i3957 (iv_c v4294) (iv_c 2147483647) h4297 (by first | decide | omega) j4298 f4302 (by first | decide | omega)
                  have q4353 : ¬ (2147483648 = 2147483648) := q4353
                  exfalso; omega
                have q4351 : ¬ (2147483647 < 2147483648) := q4351
                exfalso; omega
              have q4313 : ¬ ((h4297 93 1) < 2147483648) := q4313
              refine x_aload (np := 112) (x := 0) (by decide +kernel) rfl (x_nc_le (by decide)) ?_
              refine x_aload (np := 113) (x := 0) (by decide +kernel) rfl (x_nc_le (by decide)) ?_
              have q4356 : h4297 75 27 = 93 := by have z := jB (e := 27) 0 j4298 rg_75_27_0_1 (by decide) (by decide); omega
              refine x_getR (np := 116) (x := 731) (f := 27) (q := 93) (by decide +kernel) (by decide) (by decide +kernel) q4356 ?_
              refine x_iload (np := 117) (x := 2) (by decide +kernel) rfl (by decide) ?_
              refine x_aldC (np := 118) (x := 0) (n := 6) (i := 1) (q := (h4297 93 1)) (by decide +kernel) (by decide +kernel) (by first | decide | omega) (by first | decide | omega) (by decide) rfl (fun l4357 => ?_)
              refine x_const (np := 119) (x := 9223372039002259456) (a := 2147483648) (by decide +kernel) (by decide) (by decide) ?_
              refine x_cV (t := 6) (mj := 248) (n := 3) (rc := 12) (ml := 4) (nr := 0) (np := 122) (as := [x_r 75, iv_c (h4297 93 1), iv_c 2147483648]) (rest := []) (lo1 := [x_r 75, iv_c (h4297 93 1), iv_c 2147483648, 147573952589676412928]) (by decide +kernel) (by decide) (by decide +kernel) (x_rb_of (by decide +kernel)) rfl rfl (x_wr (by decide) (x_wi l4311 (x_wi (by decide) x_wn))) x_wn (by decide) rfl (c248_75 j4298  (by first | decide | omega) (by first | decide | omega)) (fun h4361 q4360 => ?_)
              obtain ⟨j4362, f4363⟩ := q4360
              have f4366 := Fr.trans f4301 f4363 (by decide)
              have f4367 := Fr.trans f4302 f4363 (by decide)
              refine x_aload (np := 123) (x := 0) (by decide +kernel) rfl (x_nc_le (by decide)) ?_
              have q4368 : h4361 75 28 = 94 := by have z := jB (e := 28) 0 j4362 rg_75_28_0_1 (by decide) (by decide); omega
              refine x_getR (np := 126) (x := 732) (f := 28) (q := 94) (by decide +kernel) (by decide) (by decide +kernel) q4368 ?_
              refine x_iload (np := 127) (x := 2) (by decide +kernel) rfl (by decide) ?_
              have q4369 : h4361 94 1 = h4297 94 1 := jK 1 f4363 rg_94_0_1_6 (by first | decide | omega) (by first | decide | omega) (by decide)
              have b4370 := jB (e := 1) 1 j4298 rg_94_0_1_6 (by first | decide | omega) (by first | decide | omega)
              refine x_aldC (np := 128) (x := 0) (n := 6) (i := 1) (q := (h4297 94 1)) (by decide +kernel) (by decide +kernel) (by first | decide | omega) (by first | decide | omega) (by decide) q4369 (fun l4371 => ?_)
              refine x_ifz (k := 3) (tg := 135) (np := 131) (by decide +kernel) (by decide) l4371 (fun q4372 => ?_) (fun q4373 => ?_)
              · have q4372 : 2147483648 ≤ (h4297 94 1) := q4372
                refine x_aload (np := 136) (x := 0) (by decide +kernel) rfl (x_nc_le (by decide)) ?_
                refine x_iload (np := 137) (x := 2) (by decide +kernel) rfl (by decide) ?_
                have q4374 : h4361 94 1 = h4297 94 1 := jK 1 f4363 rg_94_0_1_6 (by first | decide | omega) (by first | decide | omega) (by decide)
                refine x_cP (t := 6) (mj := 257) (n := 2) (rc := 12) (ml := 3) (nr := 0) (np := 140) (as := [x_r 75, iv_c 2147483649]) (rest := []) (lo1 := [x_r 75, iv_c 2147483649, 147573952589676412928]) (by decide +kernel) (by decide) (by decide +kernel) (x_rb_of (by decide +kernel)) rfl rfl (x_wr (by decide) (x_wi (by decide) x_wn)) x_wn (by decide) rfl (c257_75_c1 j4362   (by first | decide | omega)) (fun v4375 l4376 q4377 => ?_)
                refine x_istore (np := 142) (x := 5) (lo' := [x_r 75, iv_c 2147483653, iv_c 2147483649, iv_c v4294, iv_c 2147483649, iv_c v4375]) (by decide +kernel) l4376 (Nat.le_of_ble_eq_true rfl) rfl ?_
                refine x_iload (np := 144) (x := 5) (by decide +kernel) rfl l4376 ?_
                refine x_ifz (k := 2) (tg := 151) (np := 147) (by decide +kernel) (by decide) l4376 (fun q4378 => ?_) (fun q4379 => ?_)
                · have q4378 : v4375 < 2147483648 := q4378
                  refine x_const (np := 152) (x := 9223372039002259456) (a := 2147483648) (by decide +kernel) (by decide) (by decide) ?_
                  refine x_istore (np := 154) (x := 4) (lo' := [x_r 75, iv_c 2147483653, iv_c 2147483649, iv_c v4294, iv_c 2147483648, iv_c v4375]) (by decide +kernel) (by decide) (Nat.le_of_ble_eq_true rfl) rfl ?_
                  refine x_iload (np := 156) (x := 4) (by decide +kernel) rfl (by decide) ?_
                  refine x_ifz (k := 0) (tg := 180) (np := 159) (by decide +kernel) (by decide) (by decide) (fun q4380 => ?_) (fun q4381 => ?_)
                  · have q4380 : 2147483648 = 2147483648 := q4380
                    refine x_iinc (np := 183) (i := 2) (j := 2147483647) (v := 2147483648) (lo' := [x_r 75, iv_c 2147483653, iv_c 2147483648, iv_c v4294, iv_c 2147483648, iv_c v4375]) (by decide +kernel) (by decide) (by decide) rfl (by decide) (by first | decide | omega) (by first | decide | omega) rfl ?_
                    refine x_goto (np := 186) (x := 12) (by decide +kernel) ?_
                    have q4382 : h4361 75 30 = h4297 75 30 := jK 0 f4363 rg_75_30_0_1 (by first | decide | omega) (by first | decide | omega) (by decide)
                    have q4383 : h4297 75 30 = h4285 75 30 := jK 0 f4299 rg_75_30_0_1 (by first | decide | omega) (by first | decide | omega) (by decide)
                    have q4384 : h4285 75 30 = (1 + (h3886 75 30)) := by rw [← e4287]; exact x_up_at
                    exact i3957 (iv_c v4294) (iv_c v4375) h4361 (by first | decide | omega) j4362 f4367 (by first | decide | omega)
                  have q4381 : ¬ (2147483648 = 2147483648) := q4381
                  exfalso; omega
                have q4379 : ¬ (v4375 < 2147483648) := q4379
                refine x_const (np := 148) (x := 9223372043297226753) (a := 2147483649) (by decide +kernel) (by decide) (by decide) ?_
                refine x_goto (np := 151) (x := 152) (by decide +kernel) ?_
                refine x_istore (np := 154) (x := 4) (lo' := [x_r 75, iv_c 2147483653, iv_c 2147483649, iv_c v4294, iv_c 2147483649, iv_c v4375]) (by decide +kernel) (by decide) (Nat.le_of_ble_eq_true rfl) rfl ?_
                refine x_iload (np := 156) (x := 4) (by decide +kernel) rfl (by decide) ?_
                refine x_ifz (k := 0) (tg := 180) (np := 159) (by decide +kernel) (by decide) (by decide) (fun q4385 => ?_) (fun q4386 => ?_)
                · have q4385 : 2147483649 = 2147483648 := q4385
                  exfalso; omega
                have q4386 : ¬ (2147483649 = 2147483648) := q4386
                refine x_aload (np := 160) (x := 0) (by decide +kernel) rfl (x_nc_le (by decide)) ?_
                have q4387 : h4361 75 27 = 93 := by have z := jB (e := 27) 0 j4362 rg_75_27_0_1 (by decide) (by decide); omega
                refine x_getR (np := 163) (x := 731) (f := 27) (q := 93) (by decide +kernel) (by decide) (by decide +kernel) q4387 ?_
                refine x_iload (np := 164) (x := 2) (by decide +kernel) rfl (by decide) ?_
                refine x_iload (np := 166) (x := 5) (by decide +kernel) rfl l4376 ?_
                refine x_ast (np := 167) (x := 0) (kd := 1) (n := 6) (i := 1) (by decide +kernel) (Or.inl rfl) (by decide +kernel) (by first | decide | omega) (by first | decide | omega) (by decide) l4376 (fun z => absurd z (by decide)) ?_
                have j4389 := jU (e := 1) (v := v4375) 1 j4362 rg_93_0_1_6 (by first | decide | omega) (by first | decide | omega) (by first | decide | omega)
                have f4391 := jF (e := 1) (v := v4375) 1 f4366 rg_93_0_1_6 (by first | decide | omega) (by first | decide | omega) (by decide)
                have f4392 := jF (e := 1) (v := v4375) 1 f4367 rg_93_0_1_6 (by first | decide | omega) (by first | decide | omega) (by decide)
                generalize e4390 : x_up h4361 93 1 v4375 = h4388 at j4389 f4391 f4392 ⊢
                refine x_aload (np := 168) (x := 0) (by decide +kernel) rfl (x_nc_le (by decide)) ?_
                refine x_iload (np := 170) (x := 5) (by decide +kernel) rfl l4376 ?_
                refine x_const (np := 171) (x := 9223372043297226753) (a := 2147483649) (by decide +kernel) (by decide) (by decide) ?_
                refine x_cV (t := 6) (mj := 248) (n := 3) (rc := 12) (ml := 4) (nr := 0) (np := 174) (as := [x_r 75, iv_c v4375, iv_c 2147483649]) (rest := []) (lo1 := [x_r 75, iv_c v4375, iv_c 2147483649, 147573952589676412928]) (by decide +kernel) (by decide) (by decide +kernel) (x_rb_of (by decide +kernel)) rfl rfl (x_wr (by decide) (x_wi l4376 (x_wi (by decide) x_wn))) x_wn (by decide) rfl (c248_75 j4389  (by first | decide | omega) (by first | decide | omega)) (fun h4396 q4395 => ?_)
                obtain ⟨j4397, f4398⟩ := q4395
                have f4401 := Fr.trans f4391 f4398 (by decide)
                have f4402 := Fr.trans f4392 f4398 (by decide)
                refine x_iinc (np := 177) (i := 2) (j := 2147483649) (v := 2147483650) (lo' := [x_r 75, iv_c 2147483653, iv_c 2147483650, iv_c v4294, iv_c 2147483649, iv_c v4375]) (by decide +kernel) (by decide) (by decide) rfl (by decide) (by first | decide | omega) (by first | decide | omega) rfl ?_
                refine x_goto (np := 180) (x := 183) (by decide +kernel) ?_
                refine x_goto (np := 186) (x := 12) (by decide +kernel) ?_
                have q4403 : h4396 75 30 = h4388 75 30 := jK 0 f4398 rg_75_30_0_1 (by first | decide | omega) (by first | decide | omega) (by decide)
                have q4404 : h4388 75 30 = h4361 75 30 := by rw [← e4390]; exact x_up_k (by decide)
                have q4405 : h4361 75 30 = h4297 75 30 := jK 0 f4363 rg_75_30_0_1 (by first | decide | omega) (by first | decide | omega) (by decide)
                have q4406 : h4297 75 30 = h4285 75 30 := jK 0 f4299 rg_75_30_0_1 (by first | decide | omega) (by first | decide | omega) (by decide)
                have q4407 : h4285 75 30 = (1 + (h3886 75 30)) := by rw [← e4287]; exact x_up_at
                exact i3952 (iv_c v4294) (iv_c v4375) h4396 (by first | decide | omega) j4397 f4402 (by first | decide | omega)
              have q4373 : ¬ (2147483648 ≤ (h4297 94 1)) := q4373
              refine x_const (np := 132) (x := 9223372034707292159) (a := 2147483647) (by decide +kernel) (by decide) (by decide) ?_
              refine x_goto (np := 135) (x := 140) (by decide +kernel) ?_
              refine x_istore (np := 142) (x := 5) (lo' := [x_r 75, iv_c 2147483653, iv_c 2147483649, iv_c v4294, iv_c 2147483649, iv_c 2147483647]) (by decide +kernel) (by decide) (Nat.le_of_ble_eq_true rfl) rfl ?_
              refine x_iload (np := 144) (x := 5) (by decide +kernel) rfl (by decide) ?_
              refine x_ifz (k := 2) (tg := 151) (np := 147) (by decide +kernel) (by decide) (by decide) (fun q4408 => ?_) (fun q4409 => ?_)
              · have q4408 : 2147483647 < 2147483648 := q4408
                refine x_const (np := 152) (x := 9223372039002259456) (a := 2147483648) (by decide +kernel) (by decide) (by decide) ?_
                refine x_istore (np := 154) (x := 4) (lo' := [x_r 75, iv_c 2147483653, iv_c 2147483649, iv_c v4294, iv_c 2147483648, iv_c 2147483647]) (by decide +kernel) (by decide) (Nat.le_of_ble_eq_true rfl) rfl ?_
                refine x_iload (np := 156) (x := 4) (by decide +kernel) rfl (by decide) ?_
                refine x_ifz (k := 0) (tg := 180) (np := 159) (by decide +kernel) (by decide) (by decide) (fun q4410 => ?_) (fun q4411 => ?_)
                · have q4410 : 2147483648 = 2147483648 := q4410
                  refine x_iinc (np := 183) (i := 2) (j := 2147483647) (v := 2147483648) (lo' := [x_r 75, iv_c 2147483653, iv_c 2147483648, iv_c v4294, iv_c 2147483648, iv_c 2147483647]) (by decide +kernel) (by decide) (by decide) rfl (by decide) (by first | decide | omega) (by first | decide | omega) rfl ?_
                  refine x_goto (np := 186) (x := 12) (by decide +kernel) ?_
                  have q4412 : h4361 75 30 = h4297 75 30 := jK 0 f4363 rg_75_30_0_1 (by first | decide | omega) (by first | decide | omega) (by decide)
                  have q4413 : h4297 75 30 = h4285 75 30 := jK 0 f4299 rg_75_30_0_1 (by first | decide | omega) (by first | decide | omega) (by decide)
                  have q4414 : h4285 75 30 = (1 + (h3886 75 30)) := by rw [← e4287]; exact x_up_at
                  exact i3957 (iv_c v4294) (iv_c 2147483647) h4361 (by first | decide | omega) j4362 f4367 (by first | decide | omega)
                have q4411 : ¬ (2147483648 = 2147483648) := q4411
                exfalso; omega
              have q4409 : ¬ (2147483647 < 2147483648) := q4409
              exfalso; omega
            have q4308 : ¬ (2147483649 ≠ 2147483653) := q4308
            exfalso; omega
          have q4304 : ¬ (v4294 ≠ 2147483649) := q4304
          refine x_aload (np := 55) (x := 0) (by decide +kernel) rfl (x_nc_le (by decide)) ?_
          have q4415 : h4297 75 34 = h4285 75 34 := jK 0 f4299 rg_75_34_0_1 (by first | decide | omega) (by first | decide | omega) (by decide)
          have q4416 : h4285 75 34 = h3886 75 34 := by rw [← e4287]; exact x_up_i (by first | decide | omega)
          refine x_getC (np := 58) (x := 738) (f := 34) (q := (h3886 75 34)) (by decide +kernel) (by decide) (by decide +kernel) (q4415.trans q4416) (fun l4417 => ?_)
          refine x_ifz (k := 1) (tg := 66) (np := 61) (by decide +kernel) (by decide) l4417 (fun q4418 => ?_) (fun q4419 => ?_)
          · have q4418 : (h3886 75 34) ≠ 2147483648 := q4418
            refine x_aload (np := 67) (x := 0) (by decide +kernel) rfl (x_nc_le (by decide)) ?_
            refine x_dup (np := 68) (x := 0) (by decide +kernel) (by have z := x_nc_le (k := 75) (by decide); unfold x_r; omega) ?_
            have q4420 : h4297 75 34 = h4285 75 34 := jK 0 f4299 rg_75_34_0_1 (by first | decide | omega) (by first | decide | omega) (by decide)
            have q4421 : h4285 75 34 = h3886 75 34 := by rw [← e4287]; exact x_up_i (by first | decide | omega)
            refine x_getC (np := 71) (x := 738) (f := 34) (q := (h3886 75 34)) (by decide +kernel) (by decide) (by decide +kernel) (q4420.trans q4421) (fun l4422 => ?_)
            refine x_const (np := 72) (x := 9223372043297226753) (a := 2147483649) (by decide +kernel) (by decide) (by decide) ?_
            refine x_addA (by rw [tb_b259]; decide +kernel) l4417 (by decide) (fun v4423 l4424 => ?_)
            refine x_putI (np := 76) (x := 738) (f := 34) (by decide +kernel) (by decide +kernel) l4424 (Or.inl (by decide)) ?_
            have j4426 := jU (e := 34) (v := v4423) 0 j4298 rg_75_34_0_1 (by first | decide | omega) (by first | decide | omega) (by first | decide | omega)
            have f4428 := jF (e := 34) (v := v4423) 0 f4301 rg_75_34_0_1 (by first | decide | omega) (by first | decide | omega) (by decide)
            have f4429 := jF (e := 34) (v := v4423) 0 f4302 rg_75_34_0_1 (by first | decide | omega) (by first | decide | omega) (by decide)
            generalize e4427 : x_up h4297 75 34 v4423 = h4425 at j4426 f4428 f4429 ⊢
            refine x_aload (np := 77) (x := 0) (by decide +kernel) rfl (x_nc_le (by decide)) ?_
            have q4430 : h4425 75 33 = h4297 75 33 := by rw [← e4427]; exact x_up_i (by first | decide | omega)
            have q4431 : h4297 75 33 = h4285 75 33 := jK 0 f4299 rg_75_33_0_1 (by first | decide | omega) (by first | decide | omega) (by decide)
            have q4432 : h4285 75 33 = h3886 75 33 := by rw [← e4287]; exact x_up_i (by first | decide | omega)
            have q4433 : h3886 75 33 = h2 75 33 := jK 0 f3888 rg_75_33_0_1 (by first | decide | omega) (by first | decide | omega) (by decide)
            have q4434 : h2 75 33 = h 75 33 := by rw [← e4]; exact x_up_i (by first | decide | omega)
            have b4435 := jB (e := 33) 0 hJ rg_75_33_0_1 (by first | decide | omega) (by first | decide | omega)
            refine x_getC (np := 80) (x := 737) (f := 33) (q := (h 75 33)) (by decide +kernel) (by decide) (by decide +kernel) ((((q4430.trans q4431).trans q4432).trans q4433).trans q4434) (fun l4436 => ?_)
            refine x_ifz (k := 0) (tg := 85) (np := 83) (by decide +kernel) (by decide) l4436 (fun q4437 => ?_) (fun q4438 => ?_)
            · have q4437 : (h 75 33) = 2147483648 := q4437
              refine x_iload (np := 86) (x := 3) (by decide +kernel) rfl l4295 ?_
              refine x_const (np := 87) (x := 9223372043297226753) (a := 2147483649) (by decide +kernel) (by decide) (by decide) ?_
              refine x_icmp (k := 0) (tg := 95) (np := 90) (by decide +kernel) (by decide) l4295 (by decide) (fun q4439 => ?_) (fun q4440 => ?_)
              · have q4439 : v4294 = 2147483649 := q4439
                refine x_aload (np := 96) (x := 0) (by decide +kernel) rfl (x_nc_le (by decide)) ?_
                have q4441 : h4425 75 28 = 94 := by have z := jB (e := 28) 0 j4426 rg_75_28_0_1 (by decide) (by decide); omega
                refine x_getR (np := 99) (x := 732) (f := 28) (q := 94) (by decide +kernel) (by decide) (by decide +kernel) q4441 ?_
                refine x_iload (np := 100) (x := 2) (by decide +kernel) rfl (by decide) ?_
                refine x_const (np := 101) (x := 9223372034707292159) (a := 2147483647) (by decide +kernel) (by decide) (by decide) ?_
                refine x_ast (np := 102) (x := 0) (kd := 1) (n := 6) (i := 1) (by decide +kernel) (Or.inl rfl) (by decide +kernel) (by first | decide | omega) (by first | decide | omega) (by decide) (by decide) (fun z => absurd z (by decide)) ?_
                have j4443 := jU (e := 1) (v := 2147483647) 1 j4426 rg_94_0_1_6 (by first | decide | omega) (by first | decide | omega) (by first | decide | omega)
                have f4445 := jF (e := 1) (v := 2147483647) 1 f4428 rg_94_0_1_6 (by first | decide | omega) (by first | decide | omega) (by decide)
                have f4446 := jF (e := 1) (v := 2147483647) 1 f4429 rg_94_0_1_6 (by first | decide | omega) (by first | decide | omega) (by decide)
                generalize e4444 : x_up h4425 94 1 2147483647 = h4442 at j4443 f4445 f4446 ⊢
                refine x_aload (np := 103) (x := 0) (by decide +kernel) rfl (x_nc_le (by decide)) ?_
                have q4447 : h4442 75 27 = 93 := by have z := jB (e := 27) 0 j4443 rg_75_27_0_1 (by decide) (by decide); omega
                refine x_getR (np := 106) (x := 731) (f := 27) (q := 93) (by decide +kernel) (by decide) (by decide +kernel) q4447 ?_
                refine x_iload (np := 107) (x := 2) (by decide +kernel) rfl (by decide) ?_
                have q4448 : h4442 93 1 = h4425 93 1 := by rw [← e4444]; exact x_up_k (by decide)
                have q4449 : h4425 93 1 = h4297 93 1 := by rw [← e4427]; exact x_up_k (by decide)
                have b4450 := jB (e := 1) 1 j4298 rg_93_0_1_6 (by first | decide | omega) (by first | decide | omega)
                refine x_aldC (np := 108) (x := 0) (n := 6) (i := 1) (q := (h4297 93 1)) (by decide +kernel) (by decide +kernel) (by first | decide | omega) (by first | decide | omega) (by decide) (q4448.trans q4449) (fun l4451 => ?_)
                refine x_ifz (k := 2) (tg := 122) (np := 111) (by decide +kernel) (by decide) l4451 (fun q4452 => ?_) (fun q4453 => ?_)
                · have q4452 : (h4297 93 1) < 2147483648 := q4452
                  refine x_aload (np := 123) (x := 0) (by decide +kernel) rfl (x_nc_le (by decide)) ?_
                  have q4454 : h4442 75 28 = 94 := by have z := jB (e := 28) 0 j4443 rg_75_28_0_1 (by decide) (by decide); omega
                  refine x_getR (np := 126) (x := 732) (f := 28) (q := 94) (by decide +kernel) (by decide) (by decide +kernel) q4454 ?_
                  refine x_iload (np := 127) (x := 2) (by decide +kernel) rfl (by decide) ?_
                  have q4455 : h4442 94 1 = 2147483647 := by rw [← e4444]; exact x_up_at
                  refine x_aldC (np := 128) (x := 0) (n := 6) (i := 1) (q := 2147483647) (by decide +kernel) (by decide +kernel) (by first | decide | omega) (by first | decide | omega) (by decide) q4455 (fun l4456 => ?_)
                  refine x_ifz (k := 3) (tg := 135) (np := 131) (by decide +kernel) (by decide) (by decide) (fun q4457 => ?_) (fun q4458 => ?_)
                  · have q4457 : 2147483648 ≤ 2147483647 := q4457
                    exfalso; omega
                  have q4458 : ¬ (2147483648 ≤ 2147483647) := q4458
                  refine x_const (np := 132) (x := 9223372034707292159) (a := 2147483647) (by decide +kernel) (by decide) (by decide) ?_
                  refine x_goto (np := 135) (x := 140) (by decide +kernel) ?_
                  refine x_istore (np := 142) (x := 5) (lo' := [x_r 75, iv_c 2147483653, iv_c 2147483649, iv_c v4294, iv_c 2147483649, iv_c 2147483647]) (by decide +kernel) (by decide) (Nat.le_of_ble_eq_true rfl) rfl ?_
                  refine x_iload (np := 144) (x := 5) (by decide +kernel) rfl (by decide) ?_
                  refine x_ifz (k := 2) (tg := 151) (np := 147) (by decide +kernel) (by decide) (by decide) (fun q4459 => ?_) (fun q4460 => ?_)
                  · have q4459 : 2147483647 < 2147483648 := q4459
                    refine x_const (np := 152) (x := 9223372039002259456) (a := 2147483648) (by decide +kernel) (by decide) (by decide) ?_
                    refine x_istore (np := 154) (x := 4) (lo' := [x_r 75, iv_c 2147483653, iv_c 2147483649, iv_c v4294, iv_c 2147483648, iv_c 2147483647]) (by decide +kernel) (by decide) (Nat.le_of_ble_eq_true rfl) rfl ?_
                    refine x_iload (np := 156) (x := 4) (by decide +kernel) rfl (by decide) ?_
                    refine x_ifz (k := 0) (tg := 180) (np := 159) (by decide +kernel) (by decide) (by decide) (fun q4461 => ?_) (fun q4462 => ?_)
                    · have q4461 : 2147483648 = 2147483648 := q4461
                      refine x_iinc (np := 183) (i := 2) (j := 2147483647) (v := 2147483648) (lo' := [x_r 75, iv_c 2147483653, iv_c 2147483648, iv_c v4294, iv_c 2147483648, iv_c 2147483647]) (by decide +kernel) (by decide) (by decide) rfl (by decide) (by first | decide | omega) (by first | decide | omega) rfl ?_
                      refine x_goto (np := 186) (x := 12) (by decide +kernel) ?_
                      have q4463 : h4442 75 30 = h4425 75 30 := by rw [← e4444]; exact x_up_k (by decide)
                      have q4464 : h4425 75 30 = h4297 75 30 := by rw [← e4427]; exact x_up_i (by first | decide | omega)
                      have q4465 : h4297 75 30 = h4285 75 30 := jK 0 f4299 rg_75_30_0_1 (by first | decide | omega) (by first | decide | omega) (by decide)
                      have q4466 : h4285 75 30 = (1 + (h3886 75 30)) := by rw [← e4287]; exact x_up_at
                      exact i3957 (iv_c v4294) (iv_c 2147483647) h4442 (by first | decide | omega) j4443 f4446 (by first | decide | omega)
                    have q4462 : ¬ (2147483648 = 2147483648) := q4462
                    exfalso; omega
                  have q4460 : ¬ (2147483647 < 2147483648) := q4460
                  exfalso; omega
                have q4453 : ¬ ((h4297 93 1) < 2147483648) := q4453
                refine x_aload (np := 112) (x := 0) (by decide +kernel) rfl (x_nc_le (by decide)) ?_
                refine x_aload (np := 113) (x := 0) (by decide +kernel) rfl (x_nc_le (by decide)) ?_
                have q4467 : h4442 75 27 = 93 := by have z := jB (e := 27) 0 j4443 rg_75_27_0_1 (by decide) (by decide); omega
                refine x_getR (np := 116) (x := 731) (f := 27) (q := 93) (by decide +kernel) (by decide) (by decide +kernel) q4467 ?_
                refine x_iload (np := 117) (x := 2) (by decide +kernel) rfl (by decide) ?_
                have q4468 : h4442 93 1 = h4425 93 1 := by rw [← e4444]; exact x_up_k (by decide)
                have q4469 : h4425 93 1 = h4297 93 1 := by rw [← e4427]; exact x_up_k (by decide)
                refine x_aldC (np := 118) (x := 0) (n := 6) (i := 1) (q := (h4297 93 1)) (by decide +kernel) (by decide +kernel) (by first | decide | omega) (by first | decide | omega) (by decide) (q4468.trans q4469) (fun l4470 => ?_)
                refine x_const (np := 119) (x := 9223372039002259456) (a := 2147483648) (by decide +kernel) (by decide) (by decide) ?_
                refine x_cV (t := 6) (mj := 248) (n := 3) (rc := 12) (ml := 4) (nr := 0) (np := 122) (as := [x_r 75, iv_c (h4297 93 1), iv_c 2147483648]) (rest := []) (lo1 := [x_r 75, iv_c (h4297 93 1), iv_c 2147483648, 147573952589676412928]) (by decide +kernel) (by decide) (by decide +kernel) (x_rb_of (by decide +kernel)) rfl rfl (x_wr (by decide) (x_wi l4451 (x_wi (by decide) x_wn))) x_wn (by decide) rfl (c248_75 j4443  (by first | decide | omega) (by first | decide | omega)) (fun h4474 q4473 => ?_)
                obtain ⟨j4475, f4476⟩ := q4473
                have f4479 := Fr.trans f4445 f4476 (by decide)
                have f4480 := Fr.trans f4446 f4476 (by decide)
                refine x_aload (np := 123) (x := 0) (by decide +kernel) rfl (x_nc_le (by decide)) ?_
                have q4481 : h4474 75 28 = 94 := by have z := jB (e := 28) 0 j4475 rg_75_28_0_1 (by decide) (by decide); omega
                refine x_getR (np := 126) (x := 732) (f := 28) (q := 94) (by decide +kernel) (by decide) (by decide +kernel) q4481 ?_
                refine x_iload (np := 127) (x := 2) (by decide +kernel) rfl (by decide) ?_
                have q4482 : h4474 94 1 = h4442 94 1 := jK 1 f4476 rg_94_0_1_6 (by first | decide | omega) (by first | decide | omega) (by decide)
                have q4483 : h4442 94 1 = 2147483647 := by rw [← e4444]; exact x_up_at
                refine x_aldC (np := 128) (x := 0) (n := 6) (i := 1) (q := 2147483647) (by decide +kernel) (by decide +kernel) (by first | decide | omega) (by first | decide | omega) (by decide) (q4482.trans q4483) (fun l4484 => ?_)
                refine x_ifz (k := 3) (tg := 135) (np := 131) (by decide +kernel) (by decide) (by decide) (fun q4485 => ?_) (fun q4486 => ?_)
                · have q4485 : 2147483648 ≤ 2147483647 := q4485
                  exfalso; omega
                have q4486 : ¬ (2147483648 ≤ 2147483647) := q4486
                refine x_const (np := 132) (x := 9223372034707292159) (a := 2147483647) (by decide +kernel) (by decide) (by decide) ?_
                refine x_goto (np := 135) (x := 140) (by decide +kernel) ?_
                refine x_istore (np := 142) (x := 5) (lo' := [x_r 75, iv_c 2147483653, iv_c 2147483649, iv_c v4294, iv_c 2147483649, iv_c 2147483647]) (by decide +kernel) (by decide) (Nat.le_of_ble_eq_true rfl) rfl ?_
                refine x_iload (np := 144) (x := 5) (by decide +kernel) rfl (by decide) ?_
                refine x_ifz (k := 2) (tg := 151) (np := 147) (by decide +kernel) (by decide) (by decide) (fun q4487 => ?_) (fun q4488 => ?_)
                · have q4487 : 2147483647 < 2147483648 := q4487
                  refine x_const (np := 152) (x := 9223372039002259456) (a := 2147483648) (by decide +kernel) (by decide) (by decide) ?_
                  refine x_istore (np := 154) (x := 4) (lo' := [x_r 75, iv_c 2147483653, iv_c 2147483649, iv_c v4294, iv_c 2147483648, iv_c 2147483647]) (by decide +kernel) (by decide) (Nat.le_of_ble_eq_true rfl) rfl ?_
                  refine x_iload (np := 156) (x := 4) (by decide +kernel) rfl (by decide) ?_
                  refine x_ifz (k := 0) (tg := 180) (np := 159) (by decide +kernel) (by decide) (by decide) (fun q4489 => ?_) (fun q4490 => ?_)
                  · have q4489 : 2147483648 = 2147483648 := q4489
                    refine x_iinc (np := 183) (i := 2) (j := 2147483647) (v := 2147483648) (lo' := [x_r 75, iv_c 2147483653, iv_c 2147483648, iv_c v4294, iv_c 2147483648, iv_c 2147483647]) (by decide +kernel) (by decide) (by decide) rfl (by decide) (by first | decide | omega) (by first | decide | omega) rfl ?_
                    refine x_goto (np := 186) (x := 12) (by decide +kernel) ?_
                    have q4491 : h4474 75 30 = h4442 75 30 := jK 0 f4476 rg_75_30_0_1 (by first | decide | omega) (by first | decide | omega) (by decide)
                    have q4492 : h4442 75 30 = h4425 75 30 := by rw [← e4444]; exact x_up_k (by decide)
                    have q4493 : h4425 75 30 = h4297 75 30 := by rw [← e4427]; exact x_up_i (by first | decide | omega)
                    have q4494 : h4297 75 30 = h4285 75 30 := jK 0 f4299 rg_75_30_0_1 (by first | decide | omega) (by first | decide | omega) (by decide)
                    have q4495 : h4285 75 30 = (1 + (h3886 75 30)) := by rw [← e4287]; exact x_up_at
                    exact i3957 (iv_c v4294) (iv_c 2147483647) h4474 (by first | decide | omega) j4475 f4480 (by first | decide | omega)
                  have q4490 : ¬ (2147483648 = 2147483648) := q4490
                  exfalso; omega
                have q4488 : ¬ (2147483647 < 2147483648) := q4488
                exfalso; omega
              have q4440 : ¬ (v4294 = 2147483649) := q4440
              exfalso; omega
            have q4438 : ¬ ((h 75 33) = 2147483648) := q4438
            refine x_const (np := 84) (x := 9223372043297226753) (a := 2147483649) (by decide +kernel) (by decide) (by decide) ?_
            have q4496 : h4425 75 30 = h4297 75 30 := by rw [← e4427]; exact x_up_i (by first | decide | omega)
            have q4497 : h4297 75 30 = h4285 75 30 := jK 0 f4299 rg_75_30_0_1 (by first | decide | omega) (by first | decide | omega) (by decide)
            have q4498 : h4285 75 30 = (1 + (h3886 75 30)) := by rw [← e4287]; exact x_up_at
            refine x_retI (np := 85) (x := 0) (by decide +kernel) (by decide) (Or.inr ⟨by decide +kernel, by first | decide | omega, by first | decide | omega⟩) ⟨_, rfl, (by decide), ?_⟩
            exact ⟨j4426, f4428, (by first | decide | omega), (fun z => by first | decide | omega)⟩
          have q4419 : ¬ ((h3886 75 34) ≠ 2147483648) := q4419
          refine x_aload (np := 62) (x := 0) (by decide +kernel) rfl (x_nc_le (by decide)) ?_
          refine x_iload (np := 63) (x := 2) (by decide +kernel) rfl (by decide) ?_
          refine x_cV (t := 6) (mj := 258) (n := 2) (rc := 12) (ml := 4) (nr := 0) (np := 66) (as := [x_r 75, iv_c 2147483649]) (rest := []) (lo1 := [x_r 75, iv_c 2147483649, 147573952589676412928, 147573952589676412928]) (by decide +kernel) (by decide) (by decide +kernel) (x_rb_of (by decide +kernel)) rfl rfl (x_wr (by decide) (x_wi (by decide) x_wn)) x_wn (by decide) rfl (c258_75 j4298  (by first | decide | omega)) (fun h4502 q4501 => ?_)
          obtain ⟨j4503, f4504⟩ := q4501
          have f4507 := Fr.trans f4301 f4504 (by decide)
          have f4508 := Fr.trans f4302 f4504 (by decide)
          refine x_aload (np := 67) (x := 0) (by decide +kernel) rfl (x_nc_le (by decide)) ?_
          refine x_dup (np := 68) (x := 0) (by decide +kernel) (by have z := x_nc_le (k := 75) (by decide); unfold x_r; omega) ?_
          have q4509 : h4502 75 34 = h4297 75 34 := jK 0 f4504 rg_75_34_0_1 (by first | decide | omega) (by first | decide | omega) (by decide)
          have q4510 : h4297 75 34 = h4285 75 34 := jK 0 f4299 rg_75_34_0_1 (by first | decide | omega) (by first | decide | omega) (by decide)
          have q4511 : h4285 75 34 = h3886 75 34 := by rw [← e4287]; exact x_up_i (by first | decide | omega)
          refine x_getC (np := 71) (x := 738) (f := 34) (q := (h3886 75 34)) (by decide +kernel) (by decide) (by decide +kernel) ((q4509.trans q4510).trans q4511) (fun l4512 => ?_)
          refine x_const (np := 72) (x := 9223372043297226753) (a := 2147483649) (by decide +kernel) (by decide) (by decide) ?_
          refine x_iadd (np := 73) (x := 0) (v := (1 + (h3886 75 34))) (by decide +kernel) l4417 (by decide) (by first | decide | omega) (by first | decide | omega) ?_
          refine x_putI (np := 76) (x := 738) (f := 34) (by decide +kernel) (by decide +kernel) (by first | decide | omega) (Or.inl (by decide)) ?_
          have j4514 := jU (e := 34) (v := (1 + (h3886 75 34))) 0 j4503 rg_75_34_0_1 (by first | decide | omega) (by first | decide | omega) (by first | decide | omega)
          have f4516 := jF (e := 34) (v := (1 + (h3886 75 34))) 0 f4507 rg_75_34_0_1 (by first | decide | omega) (by first | decide | omega) (by decide)
          have f4517 := jF (e := 34) (v := (1 + (h3886 75 34))) 0 f4508 rg_75_34_0_1 (by first | decide | omega) (by first | decide | omega) (by decide)
          generalize e4515 : x_up h4502 75 34 (1 + (h3886 75 34)) = h4513 at j4514 f4516 f4517 ⊢
          refine x_aload (np := 77) (x := 0) (by decide +kernel) rfl (x_nc_le (by decide)) ?_
          have q4518 : h4513 75 33 = h4502 75 33 := by rw [← e4515]; exact x_up_i (by first | decide | omega)
          have q4519 : h4502 75 33 = h4297 75 33 := jK 0 f4504 rg_75_33_0_1 (by first | decide | omega) (by first | decide | omega) (by decide)
          have q4520 : h4297 75 33 = h4285 75 33 := jK 0 f4299 rg_75_33_0_1 (by first | decide | omega) (by first | decide | omega) (by decide)
          have q4521 : h4285 75 33 = h3886 75 33 := by rw [← e4287]; exact x_up_i (by first | decide | omega)
          have q4522 : h3886 75 33 = h2 75 33 := jK 0 f3888 rg_75_33_0_1 (by first | decide | omega) (by first | decide | omega) (by decide)
          have q4523 : h2 75 33 = h 75 33 := by rw [← e4]; exact x_up_i (by first | decide | omega)
          have b4524 := jB (e := 33) 0 hJ rg_75_33_0_1 (by first | decide | omega) (by first | decide | omega)
          refine x_getC (np := 80) (x := 737) (f := 33) (q := (h 75 33)) (by decide +kernel) (by decide) (by decide +kernel) (((((q4518.trans q4519).trans q4520).trans q4521).trans q4522).trans q4523) (fun l4525 => ?_)
          refine x_ifz (k := 0) (tg := 85) (np := 83) (by decide +kernel) (by decide) l4525 (fun q4526 => ?_) (fun q4527 => ?_)
          · have q4526 : (h 75 33) = 2147483648 := q4526
            refine x_iload (np := 86) (x := 3) (by decide +kernel) rfl l4295 ?_
            refine x_const (np := 87) (x := 9223372043297226753) (a := 2147483649) (by decide +kernel) (by decide) (by decide) ?_
            refine x_icmp (k := 0) (tg := 95) (np := 90) (by decide +kernel) (by decide) l4295 (by decide) (fun q4528 => ?_) (fun q4529 => ?_)
            · have q4528 : v4294 = 2147483649 := q4528
              refine x_aload (np := 96) (x := 0) (by decide +kernel) rfl (x_nc_le (by decide)) ?_
              have q4530 : h4513 75 28 = 94 := by have z := jB (e := 28) 0 j4514 rg_75_28_0_1 (by decide) (by decide); omega
              refine x_getR (np := 99) (x := 732) (f := 28) (q := 94) (by decide +kernel) (by decide) (by decide +kernel) q4530 ?_
              refine x_iload (np := 100) (x := 2) (by decide +kernel) rfl (by decide) ?_
              refine x_const (np := 101) (x := 9223372034707292159) (a := 2147483647) (by decide +kernel) (by decide) (by decide) ?_
              refine x_ast (np := 102) (x := 0) (kd := 1) (n := 6) (i := 1) (by decide +kernel) (Or.inl rfl) (by decide +kernel) (by first | decide | omega) (by first | decide | omega) (by decide) (by decide) (fun z => absurd z (by decide)) ?_
              have j4532 := jU (e := 1) (v := 2147483647) 1 j4514 rg_94_0_1_6 (by first | decide | omega) (by first | decide | omega) (by first | decide | omega)
              have f4534 := jF (e := 1) (v := 2147483647) 1 f4516 rg_94_0_1_6 (by first | decide | omega) (by first | decide | omega) (by decide)
              have f4535 := jF (e := 1) (v := 2147483647) 1 f4517 rg_94_0_1_6 (by first | decide | omega) (by first | decide | omega) (by decide)
              generalize e4533 : x_up h4513 94 1 2147483647 = h4531 at j4532 f4534 f4535 ⊢
              refine x_aload (np := 103) (x := 0) (by decide +kernel) rfl (x_nc_le (by decide)) ?_
              have q4536 : h4531 75 27 = 93 := by have z := jB (e := 27) 0 j4532 rg_75_27_0_1 (by decide) (by decide); omega
              refine x_getR (np := 106) (x := 731) (f := 27) (q := 93) (by decide +kernel) (by decide) (by decide +kernel) q4536 ?_
              refine x_iload (np := 107) (x := 2) (by decide +kernel) rfl (by decide) ?_
              have q4537 : h4531 93 1 = h4513 93 1 := by rw [← e4533]; exact x_up_k (by decide)
              have q4538 : h4513 93 1 = h4502 93 1 := by rw [← e4515]; exact x_up_k (by decide)
              have q4539 : h4502 93 1 = h4297 93 1 := jK 1 f4504 rg_93_0_1_6 (by first | decide | omega) (by first | decide | omega) (by decide)
              have b4540 := jB (e := 1) 1 j4298 rg_93_0_1_6 (by first | decide | omega) (by first | decide | omega)
              refine x_aldC (np := 108) (x := 0) (n := 6) (i := 1) (q := (h4297 93 1)) (by decide +kernel) (by decide +kernel) (by first | decide | omega) (by first | decide | omega) (by decide) ((q4537.trans q4538).trans q4539) (fun l4541 => ?_)
              refine x_ifz (k := 2) (tg := 122) (np := 111) (by decide +kernel) (by decide) l4541 (fun q4542 => ?_) (fun q4543 => ?_)
              · have q4542 : (h4297 93 1) < 2147483648 := q4542
                refine x_aload (np := 123) (x := 0) (by decide +kernel) rfl (x_nc_le (by decide)) ?_
                have q4544 : h4531 75 28 = 94 := by have z := jB (e := 28) 0 j4532 rg_75_28_0_1 (by decide) (by decide); omega
                refine x_getR (np := 126) (x := 732) (f := 28) (q := 94) (by decide +kernel) (by decide) (by decide +kernel) q4544 ?_
                refine x_iload (np := 127) (x := 2) (by decide +kernel) rfl (by decide) ?_
                have q4545 : h4531 94 1 = 2147483647 := by rw [← e4533]; exact x_up_at
                refine x_aldC (np := 128) (x := 0) (n := 6) (i := 1) (q := 2147483647) (by decide +kernel) (by decide +kernel) (by first | decide | omega) (by first | decide | omega) (by decide) q4545 (fun l4546 => ?_)
                refine x_ifz (k := 3) (tg := 135) (np := 131) (by decide +kernel) (by decide) (by decide) (fun q4547 => ?_) (fun q4548 => ?_)
                · have q4547 : 2147483648 ≤ 2147483647 := q4547
                  exfalso; omega
                have q4548 : ¬ (2147483648 ≤ 2147483647) := q4548
                refine x_const (np := 132) (x := 9223372034707292159) (a := 2147483647) (by decide +kernel) (by decide) (by decide) ?_
                refine x_goto (np := 135) (x := 140) (by decide +kernel) ?_
                refine x_istore (np := 142) (x := 5) (lo' := [x_r 75, iv_c 2147483653, iv_c 2147483649, iv_c v4294, iv_c 2147483649, iv_c 2147483647]) (by decide +kernel) (by decide) (Nat.le_of_ble_eq_true rfl) rfl ?_
                refine x_iload (np := 144) (x := 5) (by decide +kernel) rfl (by decide) ?_
                refine x_ifz (k := 2) (tg := 151) (np := 147) (by decide +kernel) (by decide) (by decide) (fun q4549 => ?_) (fun q4550 => ?_)
                · have q4549 : 2147483647 < 2147483648 := q4549
                  refine x_const (np := 152) (x := 9223372039002259456) (a := 2147483648) (by decide +kernel) (by decide) (by decide) ?_
                  refine x_istore (np := 154) (x := 4) (lo' := [x_r 75, iv_c 2147483653, iv_c 2147483649, iv_c v4294, iv_c 2147483648, iv_c 2147483647]) (by decide +kernel) (by decide) (Nat.le_of_ble_eq_true rfl) rfl ?_
                  refine x_iload (np := 156) (x := 4) (by decide +kernel) rfl (by decide) ?_
                  refine x_ifz (k := 0) (tg := 180) (np := 159) (by decide +kernel) (by decide) (by decide) (fun q4551 => ?_) (fun q4552 => ?_)
                  · have q4551 : 2147483648 = 2147483648 := q4551
                    refine x_iinc (np := 183) (i := 2) (j := 2147483647) (v := 2147483648) (lo' := [x_r 75, iv_c 2147483653, iv_c 2147483648, iv_c v4294, iv_c 2147483648, iv_c 2147483647]) (by decide +kernel) (by decide) (by decide) rfl (by decide) (by first | decide | omega) (by first | decide | omega) rfl ?_
                    refine x_goto (np := 186) (x := 12) (by decide +kernel) ?_
                    have q4553 : h4531 75 30 = h4513 75 30 := by rw [← e4533]; exact x_up_k (by decide)
                    have q4554 : h4513 75 30 = h4502 75 30 := by rw [← e4515]; exact x_up_i (by first | decide | omega)
                    have q4555 : h4502 75 30 = h4297 75 30 := jK 0 f4504 rg_75_30_0_1 (by first | decide | omega) (by first | decide | omega) (by decide)
                    have q4556 : h4297 75 30 = h4285 75 30 := jK 0 f4299 rg_75_30_0_1 (by first | decide | omega) (by first | decide | omega) (by decide)
                    have q4557 : h4285 75 30 = (1 + (h3886 75 30)) := by rw [← e4287]; exact x_up_at
                    exact i3957 (iv_c v4294) (iv_c 2147483647) h4531 (by first | decide | omega) j4532 f4535 (by first | decide | omega)
                  have q4552 : ¬ (2147483648 = 2147483648) := q4552
                  exfalso; omega
                have q4550 : ¬ (2147483647 < 2147483648) := q4550
                exfalso; omega
              have q4543 : ¬ ((h4297 93 1) < 2147483648) := q4543
              refine x_aload (np := 112) (x := 0) (by decide +kernel) rfl (x_nc_le (by decide)) ?_
              refine x_aload (np := 113) (x := 0) (by decide +kernel) rfl (x_nc_le (by decide)) ?_
              have q4558 : h4531 75 27 = 93 := by have z := jB (e := 27) 0 j4532 rg_75_27_0_1 (by decide) (by decide); omega
              refine x_getR (np := 116) (x := 731) (f := 27) (q := 93) (by decide +kernel) (by decide) (by decide +kernel) q4558 ?_
              refine x_iload (np := 117) (x := 2) (by decide +kernel) rfl (by decide) ?_
              have q4559 : h4531 93 1 = h4513 93 1 := by rw [← e4533]; exact x_up_k (by decide)
              have q4560 : h4513 93 1 = h4502 93 1 := by rw [← e4515]; exact x_up_k (by decide)
              have q4561 : h4502 93 1 = h4297 93 1 := jK 1 f4504 rg_93_0_1_6 (by first | decide | omega) (by first | decide | omega) (by decide)
              refine x_aldC (np := 118) (x := 0) (n := 6) (i := 1) (q := (h4297 93 1)) (by decide +kernel) (by decide +kernel) (by first | decide | omega) (by first | decide | omega) (by decide) ((q4559.trans q4560).trans q4561) (fun l4562 => ?_)
              refine x_const (np := 119) (x := 9223372039002259456) (a := 2147483648) (by decide +kernel) (by decide) (by decide) ?_
              refine x_cV (t := 6) (mj := 248) (n := 3) (rc := 12) (ml := 4) (nr := 0) (np := 122) (as := [x_r 75, iv_c (h4297 93 1), iv_c 2147483648]) (rest := []) (lo1 := [x_r 75, iv_c (h4297 93 1), iv_c 2147483648, 147573952589676412928]) (by decide +kernel) (by decide) (by decide +kernel) (x_rb_of (by decide +kernel)) rfl rfl (x_wr (by decide) (x_wi l4541 (x_wi (by decide) x_wn))) x_wn (by decide) rfl (c248_75 j4532  (by first | decide | omega) (by first | decide | omega)) (fun h4566 q4565 => ?_)
              obtain ⟨j4567, f4568⟩ := q4565
              have f4571 := Fr.trans f4534 f4568 (by decide)
              have f4572 := Fr.trans f4535 f4568 (by decide)
              refine x_aload (np := 123) (x := 0) (by decide +kernel) rfl (x_nc_le (by decide)) ?_
              have q4573 : h4566 75 28 = 94 := by have z := jB (e := 28) 0 j4567 rg_75_28_0_1 (by decide) (by decide); omega
              refine x_getR (np := 126) (x := 732) (f := 28) (q := 94) (by decide +kernel) (by decide) (by decide +kernel) q4573 ?_
              refine x_iload (np := 127) (x := 2) (by decide +kernel) rfl (by decide) ?_
              have q4574 : h4566 94 1 = h4531 94 1 := jK 1 f4568 rg_94_0_1_6 (by first | decide | omega) (by first | decide | omega) (by decide)
              have q4575 : h4531 94 1 = 2147483647 := by rw [← e4533]; exact x_up_at
              refine x_aldC (np := 128) (x := 0) (n := 6) (i := 1) (q := 2147483647) (by decide +kernel) (by decide +kernel) (by first | decide | omega) (by first | decide | omega) (by decide) (q4574.trans q4575) (fun l4576 => ?_)
              refine x_ifz (k := 3) (tg := 135) (np := 131) (by decide +kernel) (by decide) (by decide) (fun q4577 => ?_) (fun q4578 => ?_)
              · have q4577 : 2147483648 ≤ 2147483647 := q4577
                exfalso; omega
              have q4578 : ¬ (2147483648 ≤ 2147483647) := q4578
              refine x_const (np := 132) (x := 9223372034707292159) (a := 2147483647) (by decide +kernel) (by decide) (by decide) ?_
              refine x_goto (np := 135) (x := 140) (by decide +kernel) ?_
              refine x_istore (np := 142) (x := 5) (lo' := [x_r 75, iv_c 2147483653, iv_c 2147483649, iv_c v4294, iv_c 2147483649, iv_c 2147483647]) (by decide +kernel) (by decide) (Nat.le_of_ble_eq_true rfl) rfl ?_
              refine x_iload (np := 144) (x := 5) (by decide +kernel) rfl (by decide) ?_
              refine x_ifz (k := 2) (tg := 151) (np := 147) (by decide +kernel) (by decide) (by decide) (fun q4579 => ?_) (fun q4580 => ?_)
              · have q4579 : 2147483647 < 2147483648 := q4579
                refine x_const (np := 152) (x := 9223372039002259456) (a := 2147483648) (by decide +kernel) (by decide) (by decide) ?_
                refine x_istore (np := 154) (x := 4) (lo' := [x_r 75, iv_c 2147483653, iv_c 2147483649, iv_c v4294, iv_c 2147483648, iv_c 2147483647]) (by decide +kernel) (by decide) (Nat.le_of_ble_eq_true rfl) rfl ?_
                refine x_iload (np := 156) (x := 4) (by decide +kernel) rfl (by decide) ?_
                refine x_ifz (k := 0) (tg := 180) (np := 159) (by decide +kernel) (by decide) (by decide) (fun q4581 => ?_) (fun q4582 => ?_)
                · have q4581 : 2147483648 = 2147483648 := q4581
                  refine x_iinc (np := 183) (i := 2) (j := 2147483647) (v := 2147483648) (lo' := [x_r 75, iv_c 2147483653, iv_c 2147483648, iv_c v4294, iv_c 2147483648, iv_c 2147483647]) (by decide +kernel) (by decide) (by decide) rfl (by decide) (by first | decide | omega) (by first | decide | omega) rfl ?_
                  refine x_goto (np := 186) (x := 12) (by decide +kernel) ?_
                  have q4583 : h4566 75 30 = h4531 75 30 := jK 0 f4568 rg_75_30_0_1 (by first | decide | omega) (by first | decide | omega) (by decide)
                  have q4584 : h4531 75 30 = h4513 75 30 := by rw [← e4533]; exact x_up_k (by decide)
                  have q4585 : h4513 75 30 = h4502 75 30 := by rw [← e4515]; exact x_up_i (by first | decide | omega)
                  have q4586 : h4502 75 30 = h4297 75 30 := jK 0 f4504 rg_75_30_0_1 (by first | decide | omega) (by first | decide | omega) (by decide)
                  have q4587 : h4297 75 30 = h4285 75 30 := jK 0 f4299 rg_75_30_0_1 (by first | decide | omega) (by first | decide | omega) (by decide)
                  have q4588 : h4285 75 30 = (1 + (h3886 75 30)) := by rw [← e4287]; exact x_up_at
                  exact i3957 (iv_c v4294) (iv_c 2147483647) h4566 (by first | decide | omega) j4567 f4572 (by first | decide | omega)
                have q4582 : ¬ (2147483648 = 2147483648) := q4582
                exfalso; omega
              have q4580 : ¬ (2147483647 < 2147483648) := q4580
              exfalso; omega
            have q4529 : ¬ (v4294 = 2147483649) := q4529
            exfalso; omega
          have q4527 : ¬ ((h 75 33) = 2147483648) := q4527
          refine x_const (np := 84) (x := 9223372043297226753) (a := 2147483649) (by decide +kernel) (by decide) (by decide) ?_
          have q4589 : h4513 75 30 = h4502 75 30 := by rw [← e4515]; exact x_up_i (by first | decide | omega)
          have q4590 : h4502 75 30 = h4297 75 30 := jK 0 f4504 rg_75_30_0_1 (by first | decide | omega) (by first | decide | omega) (by decide)
          have q4591 : h4297 75 30 = h4285 75 30 := jK 0 f4299 rg_75_30_0_1 (by first | decide | omega) (by first | decide | omega) (by decide)
          have q4592 : h4285 75 30 = (1 + (h3886 75 30)) := by rw [← e4287]; exact x_up_at
          refine x_retI (np := 85) (x := 0) (by decide +kernel) (by decide) (Or.inr ⟨by decide +kernel, by first | decide | omega, by first | decide | omega⟩) ⟨_, rfl, (by decide), ?_⟩
          exact ⟨j4514, f4516, (by first | decide | omega), (fun z => by first | decide | omega)⟩
        have q4293 : ¬ ((1 + (h3886 75 30)) ≤ 2147503648) := q4293
        refine x_const (np := 42) (x := 9223372039002259456) (a := 2147483648) (by decide +kernel) (by decide) (by decide) ?_
        have q4593 : h4285 75 30 = (1 + (h3886 75 30)) := by rw [← e4287]; exact x_up_at
        refine x_retI (np := 43) (x := 0) (by decide +kernel) (by decide) (Or.inr ⟨by decide +kernel, by first | decide | omega, by first | decide | omega⟩) ⟨_, rfl, (by decide), ?_⟩
        exact ⟨j4286, f4288, (by first | decide | omega), (fun z => by first | decide | omega)⟩
      · intro w3890 w3891 h3892 q4594 j3895 f3894 b3893
        have f4595 := Fr.trans f5 f3894 (by decide)
        refine x_iload (np := 13) (x := 2) (by decide +kernel) rfl (by decide) ?_
        refine x_ifz (k := 2) (tg := 186) (np := 16) (by decide +kernel) (by decide) (by decide) (fun q4596 => ?_) (fun q4597 => ?_)
        · have q4596 : 2147483650 < 2147483648 := q4596
          exfalso; omega
        have q4597 : ¬ (2147483650 < 2147483648) := q4597
        refine x_iload (np := 18) (x := 4) (by decide +kernel) rfl (by decide) ?_
        refine x_ifz (k := 0) (tg := 102) (np := 21) (by decide +kernel) (by decide) (by decide) (fun q4598 => ?_) (fun q4599 => ?_)
        · have q4598 : 2147483649 = 2147483648 := q4598
          exfalso; omega
        have q4599 : ¬ (2147483649 = 2147483648) := q4599
        refine x_aload (np := 22) (x := 0) (by decide +kernel) rfl (x_nc_le (by decide)) ?_
        refine x_dup (np := 23) (x := 0) (by decide +kernel) (by have z := x_nc_le (k := 75) (by decide); unfold x_r; omega) ?_
        refine x_getC (np := 26) (x := 734) (f := 30) (q := (h3892 75 30)) (by decide +kernel) (by decide) (by decide +kernel) rfl (fun l4600 => ?_)
        refine x_const (np := 27) (x := 9223372043297226753) (a := 2147483649) (by decide +kernel) (by decide) (by decide) ?_
        refine x_iadd (np := 28) (x := 0) (v := (1 + (h3892 75 30))) (by decide +kernel) l4600 (by decide) (by first | decide | omega) (by first | decide | omega) ?_
        refine x_putI (np := 31) (x := 734) (f := 30) (by decide +kernel) (by decide +kernel) (by first | decide | omega) (Or.inl (by decide)) ?_
        have j4602 := jU (e := 30) (v := (1 + (h3892 75 30))) 0 j3895 rg_75_30_0_1 (by first | decide | omega) (by first | decide | omega) (by first | decide | omega)
        have f4604 := jF (e := 30) (v := (1 + (h3892 75 30))) 0 f4595 rg_75_30_0_1 (by first | decide | omega) (by first | decide | omega) (by decide)
        have f4605 := jF (e := 30) (v := (1 + (h3892 75 30))) 0 f3894 rg_75_30_0_1 (by first | decide | omega) (by first | decide | omega) (by decide)
        generalize e4603 : x_up h3892 75 30 (1 + (h3892 75 30)) = h4601 at j4602 f4604 f4605 ⊢
        refine x_aload (np := 32) (x := 0) (by decide +kernel) rfl (x_nc_le (by decide)) ?_
        have q4606 : h4601 75 30 = (1 + (h3892 75 30)) := by rw [← e4603]; exact x_up_at
        refine x_getC (np := 35) (x := 734) (f := 30) (q := (1 + (h3892 75 30))) (by decide +kernel) (by decide) (by decide +kernel) q4606 (fun l4607 => ?_)
        refine x_const (np := 38) (x := 9223457938348199456) (a := 2147503648) (by decide +kernel) (by decide) (by decide) ?_
        refine x_icmp (k := 5) (tg := 43) (np := 41) (by decide +kernel) (by decide) (by first | decide | omega) (by decide) (fun q4608 => ?_) (fun q4609 => ?_)
        · have q4608 : (1 + (h3892 75 30)) ≤ 2147503648 := q4608
          refine x_aload (np := 44) (x := 0) (by decide +kernel) rfl (x_nc_le (by decide)) ?_
          refine x_iload (np := 45) (x := 2) (by decide +kernel) rfl (by decide) ?_
          refine x_cI (t := 6) (mj := 254) (n := 2) (rc := 12) (ml := 4) (nr := 0) (np := 48) (as := [x_r 75, iv_c 2147483650]) (rest := []) (lo1 := [x_r 75, iv_c 2147483650, 147573952589676412928, 147573952589676412928]) (by decide +kernel) (by decide) (by decide +kernel) (x_rb_of (by decide +kernel)) rfl rfl (x_wr (by decide) (x_wi (by decide) x_wn)) x_wn (by decide) rfl (c254_75 j4602  (by first | decide | omega)) (fun v4610 h4613 l4611 q4612 => ?_)
          obtain ⟨j4614, f4615, b4616⟩ := q4612
          have f4617 := Fr.trans f4604 f4615 (by decide)
          have f4618 := Fr.trans f4605 f4615 (by decide)
          refine x_istore (np := 49) (x := 3) (lo' := [x_r 75, iv_c 2147483653, iv_c 2147483650, iv_c v4610, iv_c 2147483649, w3891]) (by decide +kernel) l4611 (Nat.le_of_ble_eq_true rfl) rfl ?_
          refine x_iload (np := 50) (x := 3) (by decide +kernel) rfl l4611 ?_
          refine x_const (np := 51) (x := 9223372043297226753) (a := 2147483649) (by decide +kernel) (by decide) (by decide) ?_
          refine x_icmp (k := 1) (tg := 85) (np := 54) (by decide +kernel) (by decide) l4611 (by decide) (fun q4619 => ?_) (fun q4620 => ?_)
          · have q4619 : v4610 ≠ 2147483649 := q4619
            refine x_iload (np := 86) (x := 3) (by decide +kernel) rfl l4611 ?_
            refine x_const (np := 87) (x := 9223372043297226753) (a := 2147483649) (by decide +kernel) (by decide) (by decide) ?_
            refine x_icmp (k := 0) (tg := 95) (np := 90) (by decide +kernel) (by decide) l4611 (by decide) (fun q4621 => ?_) (fun q4622 => ?_)
            · have q4621 : v4610 = 2147483649 := q4621
              exfalso; omega
            have q4622 : ¬ (v4610 = 2147483649) := q4622
            refine x_iload (np := 91) (x := 2) (by decide +kernel) rfl (by decide) ?_
            refine x_iload (np := 92) (x := 1) (by decide +kernel) rfl (by decide) ?_
            refine x_icmp (k := 1) (tg := 102) (np := 95) (by decide +kernel) (by decide) (by decide) (by decide) (fun q4623 => ?_) (fun q4624 => ?_)
            · have q4623 : 2147483650 ≠ 2147483653 := q4623
              refine x_aload (np := 103) (x := 0) (by decide +kernel) rfl (x_nc_le (by decide)) ?_
              have q4625 : h4613 75 27 = 93 := by have z := jB (e := 27) 0 j4614 rg_75_27_0_1 (by decide) (by decide); omega
              refine x_getR (np := 106) (x := 731) (f := 27) (q := 93) (by decide +kernel) (by decide) (by decide +kernel) q4625 ?_
              refine x_iload (np := 107) (x := 2) (by decide +kernel) rfl (by decide) ?_
              have b4626 := jB (e := 2) 2 j4614 rg_93_0_1_6 (by first | decide | omega) (by first | decide | omega)
              refine x_aldC (np := 108) (x := 0) (n := 6) (i := 2) (q := (h4613 93 2)) (by decide +kernel) (by decide +kernel) (by first | decide | omega) (by first | decide | omega) (by decide) rfl (fun l4627 => ?_)
              refine x_ifz (k := 2) (tg := 122) (np := 111) (by decide +kernel) (by decide) l4627 (fun q4628 => ?_) (fun q4629 => ?_)
              · have q4628 : (h4613 93 2) < 2147483648 := q4628
                refine x_aload (np := 123) (x := 0) (by decide +kernel) rfl (x_nc_le (by decide)) ?_
                have q4630 : h4613 75 28 = 94 := by have z := jB (e := 28) 0 j4614 rg_75_28_0_1 (by decide) (by decide); omega
                refine x_getR (np := 126) (x := 732) (f := 28) (q := 94) (by decide +kernel) (by decide) (by decide +kernel) q4630 ?_
                refine x_iload (np := 127) (x := 2) (by decide +kernel) rfl (by decide) ?_
                have b4631 := jB (e := 2) 2 j4614 rg_94_0_1_6 (by first | decide | omega) (by first | decide | omega)
                refine x_aldC (np := 128) (x := 0) (n := 6) (i := 2) (q := (h4613 94 2)) (by decide +kernel) (by decide +kernel) (by first | decide | omega) (by first | decide | omega) (by decide) rfl (fun l4632 => ?_)
                refine x_ifz (k := 3) (tg := 135) (np := 131) (by decide +kernel) (by decide) l4632 (fun q4633 => ?_) (fun q4634 => ?_)
                · have q4633 : 2147483648 ≤ (h4613 94 2) := q4633
                  refine x_aload (np := 136) (x := 0) (by decide +kernel) rfl (x_nc_le (by decide)) ?_
                  refine x_iload (np := 137) (x := 2) (by decide +kernel) rfl (by decide) ?_
                  refine x_cP (t := 6) (mj := 257) (n := 2) (rc := 12) (ml := 3) (nr := 0) (np := 140) (as := [x_r 75, iv_c 2147483650]) (rest := []) (lo1 := [x_r 75, iv_c 2147483650, 147573952589676412928]) (by decide +kernel) (by decide) (by decide +kernel) (x_rb_of (by decide +kernel)) rfl rfl (x_wr (by decide) (x_wi (by decide) x_wn)) x_wn (by decide) rfl (c257_75_c2 j4614   (by first | decide | omega)) (fun v4635 l4636 q4637 => ?_)
                  refine x_istore (np := 142) (x := 5) (lo' := [x_r 75, iv_c 2147483653, iv_c 2147483650, iv_c v4610, iv_c 2147483649, iv_c v4635]) (by decide +kernel) l4636 (Nat.le_of_ble_eq_true rfl) rfl ?_
                  refine x_iload (np := 144) (x := 5) (by decide +kernel) rfl l4636 ?_
                  refine x_ifz (k := 2) (tg := 151) (np := 147) (by decide +kernel) (by decide) l4636 (fun q4638 => ?_) (fun q4639 => ?_)
                  · have q4638 : v4635 < 2147483648 := q4638
                    refine x_const (np := 152) (x := 9223372039002259456) (a := 2147483648) (by decide +kernel) (by decide) (by decide) ?_
                    refine x_istore (np := 154) (x := 4) (lo' := [x_r 75, iv_c 2147483653, iv_c 2147483650, iv_c v4610, iv_c 2147483648, iv_c v4635]) (by decide +kernel) (by decide) (Nat.le_of_ble_eq_true rfl) rfl ?_
                    refine x_iload (np := 156) (x := 4) (by decide +kernel) rfl (by decide) ?_
                    refine x_ifz (k := 0) (tg := 180) (np := 159) (by decide +kernel) (by decide) (by decide) (fun q4640 => ?_) (fun q4641 => ?_)
                    · have q4640 : 2147483648 = 2147483648 := q4640
                      refine x_iinc (np := 183) (i := 2) (j := 2147483647) (v := 2147483649) (lo' := [x_r 75, iv_c 2147483653, iv_c 2147483649, iv_c v4610, iv_c 2147483648, iv_c v4635]) (by decide +kernel) (by decide) (by decide) rfl (by decide) (by first | decide | omega) (by first | decide | omega) rfl ?_
                      refine x_goto (np := 186) (x := 12) (by decide +kernel) ?_
                      have q4642 : h4613 75 30 = h4601 75 30 := jK 0 f4615 rg_75_30_0_1 (by first | decide | omega) (by first | decide | omega) (by decide)
                      have q4643 : h4601 75 30 = (1 + (h3892 75 30)) := by rw [← e4603]; exact x_up_at
                      exact i3958 (iv_c v4610) (iv_c v4635) h4613 (by first | decide | omega) j4614 f4618 (by first | decide | omega)
                    have q4641 : ¬ (2147483648 = 2147483648) := q4641
                    exfalso; omega
                  have q4639 : ¬ (v4635 < 2147483648) := q4639
                  refine x_const (np := 148) (x := 9223372043297226753) (a := 2147483649) (by decide +kernel) (by decide) (by decide) ?_
                  refine x_goto (np := 151) (x := 152) (by decide +kernel) ?_
                  refine x_istore (np := 154) (x := 4) (lo' := [x_r 75, iv_c 2147483653, iv_c 2147483650, iv_c v4610, iv_c 2147483649, iv_c v4635]) (by decide +kernel) (by decide) (Nat.le_of_ble_eq_true rfl) rfl ?_
                  refine x_iload (np := 156) (x := 4) (by decide +kernel) rfl (by decide) ?_
                  refine x_ifz (k := 0) (tg := 180) (np := 159) (by decide +kernel) (by decide) (by decide) (fun q4644 => ?_) (fun q4645 => ?_)
                  · have q4644 : 2147483649 = 2147483648 := q4644
                    exfalso; omega
                  have q4645 : ¬ (2147483649 = 2147483648) := q4645
                  refine x_aload (np := 160) (x := 0) (by decide +kernel) rfl (x_nc_le (by decide)) ?_
                  have q4646 : h4613 75 27 = 93 := by have z := jB (e := 27) 0 j4614 rg_75_27_0_1 (by decide) (by decide); omega
                  refine x_getR (np := 163) (x := 731) (f := 27) (q := 93) (by decide +kernel) (by decide) (by decide +kernel) q4646 ?_
                  refine x_iload (np := 164) (x := 2) (by decide +kernel) rfl (by decide) ?_
                  refine x_iload (np := 166) (x := 5) (by decide +kernel) rfl l4636 ?_
                  refine x_ast (np := 167) (x := 0) (kd := 1) (n := 6) (i := 2) (by decide +kernel) (Or.inl rfl) (by decide +kernel) (by first | decide | omega) (by first | decide | omega) (by decide) l4636 (fun z => absurd z (by decide)) ?_
                  have j4648 := jU (e := 2) (v := v4635) 2 j4614 rg_93_0_1_6 (by first | decide | omega) (by first | decide | omega) (by first | decide | omega)
                  have f4650 := jF (e := 2) (v := v4635) 2 f4617 rg_93_0_1_6 (by first | decide | omega) (by first | decide | omega) (by decide)
                  have f4651 := jF (e := 2) (v := v4635) 2 f4618 rg_93_0_1_6 (by first | decide | omega) (by first | decide | omega) (by decide)
                  generalize e4649 : x_up h4613 93 2 v4635 = h4647 at j4648 f4650 f4651 ⊢
                  refine x_aload (np := 168) (x := 0) (by decide +kernel) rfl (x_nc_le (by decide)) ?_
                  refine x_iload (np := 170) (x := 5) (by decide +kernel) rfl l4636 ?_
                  refine x_const (np := 171) (x := 9223372043297226753) (a := 2147483649) (by decide +kernel) (by decide) (by decide) ?_
                  refine x_cV (t := 6) (mj := 248) (n := 3) (rc := 12) (ml := 4) (nr := 0) (np := 174) (as := [x_r 75, iv_c v4635, iv_c 2147483649]) (rest := []) (lo1 := [x_r 75, iv_c v4635, iv_c 2147483649, 147573952589676412928]) (by decide +kernel) (by decide) (by decide +kernel) (x_rb_of (by decide +kernel)) rfl rfl (x_wr (by decide) (x_wi l4636 (x_wi (by decide) x_wn))) x_wn (by decide) rfl (c248_75 j4648  (by first | decide | omega) (by first | decide | omega)) (fun h4655 q4654 => ?_)
                  obtain ⟨j4656, f4657⟩ := q4654
                  have f4660 := Fr.trans f4650 f4657 (by decide)
                  have f4661 := Fr.trans f4651 f4657 (by decide)
                  refine x_iinc (np := 177) (i := 2) (j := 2147483649) (v := 2147483651) (lo' := [x_r 75, iv_c 2147483653, iv_c 2147483651, iv_c v4610, iv_c 2147483649, iv_c v4635]) (by decide +kernel) (by decide) (by decide) rfl (by decide) (by first | decide | omega) (by first | decide | omega) rfl ?_
                  refine x_goto (np := 180) (x := 183) (by decide +kernel) ?_
                  refine x_goto (np := 186) (x := 12) (by decide +kernel) ?_
                  have q4662 : h4655 75 30 = h4647 75 30 := jK 0 f4657 rg_75_30_0_1 (by first | decide | omega) (by first | decide | omega) (by decide)
                  have q4663 : h4647 75 30 = h4613 75 30 := by rw [← e4649]; exact x_up_k (by decide)
                  have q4664 : h4613 75 30 = h4601 75 30 := jK 0 f4615 rg_75_30_0_1 (by first | decide | omega) (by first | decide | omega) (by decide)
                  have q4665 : h4601 75 30 = (1 + (h3892 75 30)) := by rw [← e4603]; exact x_up_at
                  exact i3953 (iv_c v4610) (iv_c v4635) h4655 (by first | decide | omega) j4656 f4661 (by first | decide | omega)
                have q4634 : ¬ (2147483648 ≤ (h4613 94 2)) := q4634
                refine x_const (np := 132) (x := 9223372034707292159) (a := 2147483647) (by decide +kernel) (by decide) (by decide) ?_
                refine x_goto (np := 135) (x := 140) (by decide +kernel) ?_
                refine x_istore (np := 142) (x := 5) (lo' := [x_r 75, iv_c 2147483653, iv_c 2147483650, iv_c v4610, iv_c 2147483649, iv_c 2147483647]) (by decide +kernel) (by decide) (Nat.le_of_ble_eq_true rfl) rfl ?_
                refine x_iload (np := 144) (x := 5) (by decide +kernel) rfl (by decide) ?_
                refine x_ifz (k := 2) (tg := 151) (np := 147) (by decide +kernel) (by decide) (by decide) (fun q4666 => ?_) (fun q4667 => ?_)
                · have q4666 : 2147483647 < 2147483648 := q4666
                  refine x_const (np := 152) (x := 9223372039002259456) (a := 2147483648) (by decide +kernel) (by decide) (by decide) ?_
                  refine x_istore (np := 154) (x := 4) (lo' := [x_r 75, iv_c 2147483653, iv_c 2147483650, iv_c v4610, iv_c 2147483648, iv_c 2147483647]) (by decide +kernel) (by decide) (Nat.le_of_ble_eq_true rfl) rfl ?_
                  refine x_iload (np := 156) (x := 4) (by decide +kernel) rfl (by decide) ?_
                  refine x_ifz (k := 0) (tg := 180) (np := 159) (by decide +kernel) (by decide) (by decide) (fun q4668 => ?_) (fun q4669 => ?_)
                  · have q4668 : 2147483648 = 2147483648 := q4668
                    refine x_iinc (np := 183) (i := 2) (j := 2147483647) (v := 2147483649) (lo' := [x_r 75, iv_c 2147483653, iv_c 2147483649, iv_c v4610, iv_c 2147483648, iv_c 2147483647]) (by decide +kernel) (by decide) (by decide) rfl (by decide) (by first | decide | omega) (by first | decide | omega) rfl ?_
                    refine x_goto (np := 186) (x := 12) (by decide +kernel) ?_
                    have q4670 : h4613 75 30 = h4601 75 30 := jK 0 f4615 rg_75_30_0_1 (by first | decide | omega) (by first | decide | omega) (by decide)
                    have q4671 : h4601 75 30 = (1 + (h3892 75 30)) := by rw [← e4603]; exact x_up_at
                    exact i3958 (iv_c v4610) (iv_c 2147483647) h4613 (by first | decide | omega) j4614 f4618 (by first | decide | omega)
                  have q4669 : ¬ (2147483648 = 2147483648) := q4669
                  exfalso; omega
                have q4667 : ¬ (2147483647 < 2147483648) := q4667
                exfalso; omega
              have q4629 : ¬ ((h4613 93 2) < 2147483648) := q4629
              refine x_aload (np := 112) (x := 0) (by decide +kernel) rfl (x_nc_le (by decide)) ?_
              refine x_aload (np := 113) (x := 0) (by decide +kernel) rfl (x_nc_le (by decide)) ?_
              have q4672 : h4613 75 27 = 93 := by have z := jB (e := 27) 0 j4614 rg_75_27_0_1 (by decide) (by decide); omega
              refine x_getR (np := 116) (x := 731) (f := 27) (q := 93) (by decide +kernel) (by decide) (by decide +kernel) q4672 ?_
              refine x_iload (np := 117) (x := 2) (by decide +kernel) rfl (by decide) ?_
              refine x_aldC (np := 118) (x := 0) (n := 6) (i := 2) (q := (h4613 93 2)) (by decide +kernel) (by decide +kernel) (by first | decide | omega) (by first | decide | omega) (by decide) rfl (fun l4673 => ?_)
              refine x_const (np := 119) (x := 9223372039002259456) (a := 2147483648) (by decide +kernel) (by decide) (by decide) ?_
              refine x_cV (t := 6) (mj := 248) (n := 3) (rc := 12) (ml := 4) (nr := 0) (np := 122) (as := [x_r 75, iv_c (h4613 93 2), iv_c 2147483648]) (rest := []) (lo1 := [x_r 75, iv_c (h4613 93 2), iv_c 2147483648, 147573952589676412928]) (by decide +kernel) (by decide) (by decide +kernel) (x_rb_of (by decide +kernel)) rfl rfl (x_wr (by decide) (x_wi l4627 (x_wi (by decide) x_wn))) x_wn (by decide) rfl (c248_75 j4614  (by first | decide | omega) (by first | decide | omega)) (fun h4677 q4676 => ?_)
              obtain ⟨j4678, f4679⟩ := q4676
              have f4682 := Fr.trans f4617 f4679 (by decide)
              have f4683 := Fr.trans f4618 f4679 (by decide)
              refine x_aload (np := 123) (x := 0) (by decide +kernel) rfl (x_nc_le (by decide)) ?_
              have q4684 : h4677 75 28 = 94 := by have z := jB (e := 28) 0 j4678 rg_75_28_0_1 (by decide) (by decide); omega
              refine x_getR (np := 126) (x := 732) (f := 28) (q := 94) (by decide +kernel) (by decide) (by decide +kernel) q4684 ?_
              refine x_iload (np := 127) (x := 2) (by decide +kernel) rfl (by decide) ?_
              have q4685 : h4677 94 2 = h4613 94 2 := jK 2 f4679 rg_94_0_1_6 (by first | decide | omega) (by first | decide | omega) (by decide)
              have b4686 := jB (e := 2) 2 j4614 rg_94_0_1_6 (by first | decide | omega) (by first | decide | omega)
              refine x_aldC (np := 128) (x := 0) (n := 6) (i := 2) (q := (h4613 94 2)) (by decide +kernel) (by decide +kernel) (by first | decide | omega) (by first | decide | omega) (by decide) q4685 (fun l4687 => ?_)
              refine x_ifz (k := 3) (tg := 135) (np := 131) (by decide +kernel) (by decide) l4687 (fun q4688 => ?_) (fun q4689 => ?_)
              · have q4688 : 2147483648 ≤ (h4613 94 2) := q4688
                refine x_aload (np := 136) (x := 0) (by decide +kernel) rfl (x_nc_le (by decide)) ?_
                refine x_iload (np := 137) (x := 2) (by decide +kernel) rfl (by decide) ?_
                have q4690 : h4677 94 2 = h4613 94 2 := jK 2 f4679 rg_94_0_1_6 (by first | decide | omega) (by first | decide | omega) (by decide)
                refine x_cP (t := 6) (mj := 257) (n := 2) (rc := 12) (ml := 3) (nr := 0) (np := 140) (as := [x_r 75, iv_c 2147483650]) (rest := []) (lo1 := [x_r 75, iv_c 2147483650, 147573952589676412928]) (by decide +kernel) (by decide) (by decide +kernel) (x_rb_of (by decide +kernel)) rfl rfl (x_wr (by decide) (x_wi (by decide) x_wn)) x_wn (by decide) rfl (c257_75_c2 j4678   (by first | decide | omega)) (fun v4691 l4692 q4693 => ?_)
                refine x_istore (np := 142) (x := 5) (lo' := [x_r 75, iv_c 2147483653, iv_c 2147483650, iv_c v4610, iv_c 2147483649, iv_c v4691]) (by decide +kernel) l4692 (Nat.le_of_ble_eq_true rfl) rfl ?_
                refine x_iload (np := 144) (x := 5) (by decide +kernel) rfl l4692 ?_
                refine x_ifz (k := 2) (tg := 151) (np := 147) (by decide +kernel) (by decide) l4692 (fun q4694 => ?_) (fun q4695 => ?_)
                · have q4694 : v4691 < 2147483648 := q4694
                  refine x_const (np := 152) (x := 9223372039002259456) (a := 2147483648) (by decide +kernel) (by decide) (by decide) ?_
                  refine x_istore (np := 154) (x := 4) (lo' := [x_r 75, iv_c 2147483653, iv_c 2147483650, iv_c v4610, iv_c 2147483648, iv_c v4691]) (by decide +kernel) (by decide) (Nat.le_of_ble_eq_true rfl) rfl ?_
                  refine x_iload (np := 156) (x := 4) (by decide +kernel) rfl (by decide) ?_
                  refine x_ifz (k := 0) (tg := 180) (np := 159) (by decide +kernel) (by decide) (by decide) (fun q4696 => ?_) (fun q4697 => ?_)
                  · have q4696 : 2147483648 = 2147483648 := q4696
                    refine x_iinc (np := 183) (i := 2) (j := 2147483647) (v := 2147483649) (lo' := [x_r 75, iv_c 2147483653, iv_c 2147483649, iv_c v4610, iv_c 2147483648, iv_c v4691]) (by decide +kernel) (by decide) (by decide) rfl (by decide) (by first | decide | omega) (by first | decide | omega) rfl ?_
                    refine x_goto (np := 186) (x := 12) (by decide +kernel) ?_
                    have q4698 : h4677 75 30 = h4613 75 30 := jK 0 f4679 rg_75_30_0_1 (by first | decide | omega) (by first | decide | omega) (by decide)
                    have q4699 : h4613 75 30 = h4601 75 30 := jK 0 f4615 rg_75_30_0_1 (by first | decide | omega) (by first | decide | omega) (by decide)
                    have q4700 : h4601 75 30 = (1 + (h3892 75 30)) := by rw [← e4603]; exact x_up_at
                    exact i3958 (iv_c v4610) (iv_c v4691) h4677 (by first | decide | omega) j4678 f4683 (by first | decide | omega)
                  have q4697 : ¬ (2147483648 = 2147483648) := q4697
                  exfalso; omega
                have q4695 : ¬ (v4691 < 2147483648) := q4695
                refine x_const (np := 148) (x := 9223372043297226753) (a := 2147483649) (by decide +kernel) (by decide) (by decide) ?_
                refine x_goto (np := 151) (x := 152) (by decide +kernel) ?_
                refine x_istore (np := 154) (x := 4) (lo' := [x_r 75, iv_c 2147483653, iv_c 2147483650, iv_c v4610, iv_c 2147483649, iv_c v4691]) (by decide +kernel) (by decide) (Nat.le_of_ble_eq_true rfl) rfl ?_
                refine x_iload (np := 156) (x := 4) (by decide +kernel) rfl (by decide) ?_
                refine x_ifz (k := 0) (tg := 180) (np := 159) (by decide +kernel) (by decide) (by decide) (fun q4701 => ?_) (fun q4702 => ?_)
                · have q4701 : 2147483649 = 2147483648 := q4701
                  exfalso; omega
                have q4702 : ¬ (2147483649 = 2147483648) := q4702
                refine x_aload (np := 160) (x := 0) (by decide +kernel) rfl (x_nc_le (by decide)) ?_
                have q4703 : h4677 75 27 = 93 := by have z := jB (e := 27) 0 j4678 rg_75_27_0_1 (by decide) (by decide); omega
                refine x_getR (np := 163) (x := 731) (f := 27) (q := 93) (by decide +kernel) (by decide) (by decide +kernel) q4703 ?_
                refine x_iload (np := 164) (x := 2) (by decide +kernel) rfl (by decide) ?_
                refine x_iload (np := 166) (x := 5) (by decide +kernel) rfl l4692 ?_
                refine x_ast (np := 167) (x := 0) (kd := 1) (n := 6) (i := 2) (by decide +kernel) (Or.inl rfl) (by decide +kernel) (by first | decide | omega) (by first | decide | omega) (by decide) l4692 (fun z => absurd z (by decide)) ?_
                have j4705 := jU (e := 2) (v := v4691) 2 j4678 rg_93_0_1_6 (by first | decide | omega) (by first | decide | omega) (by first | decide | omega)
                have f4707 := jF (e := 2) (v := v4691) 2 f4682 rg_93_0_1_6 (by first | decide | omega) (by first | decide | omega) (by decide)
                have f4708 := jF (e := 2) (v := v4691) 2 f4683 rg_93_0_1_6 (by first | decide | omega) (by first | decide | omega) (by decide)
                generalize e4706 : x_up h4677 93 2 v4691 = h4704 at j4705 f4707 f4708 ⊢
                refine x_aload (np := 168) (x := 0) (by decide +kernel) rfl (x_nc_le (by decide)) ?_
                refine x_iload (np := 170) (x := 5) (by decide +kernel) rfl l4692 ?_
                refine x_const (np := 171) (x := 9223372043297226753) (a := 2147483649) (by decide +kernel) (by decide) (by decide) ?_
                refine x_cV (t := 6) (mj := 248) (n := 3) (rc := 12) (ml := 4) (nr := 0) (np := 174) (as := [x_r 75, iv_c v4691, iv_c 2147483649]) (rest := []) (lo1 := [x_r 75, iv_c v4691, iv_c 2147483649, 147573952589676412928]) (by decide +kernel) (by decide) (by decide +kernel) (x_rb_of (by decide +kernel)) rfl rfl (x_wr (by decide) (x_wi l4692 (x_wi (by decide) x_wn))) x_wn (by decide) rfl (c248_75 j4705  (by first | decide | omega) (by first | decide | omega)) (fun h4712 q4711 => ?_)
                obtain ⟨j4713, f4714⟩ := q4711
                have f4717 := Fr.trans f4707 f4714 (by decide)
                have f4718 := Fr.trans f4708 f4714 (by decide)
                refine x_iinc (np := 177) (i := 2) (j := 2147483649) (v := 2147483651) (lo' := [x_r 75, iv_c 2147483653, iv_c 2147483651, iv_c v4610, iv_c 2147483649, iv_c v4691]) (by decide +kernel) (by decide) (by decide) rfl (by decide) (by first | decide | omega) (by first | decide | omega) rfl ?_
                refine x_goto (np := 180) (x := 183) (by decide +kernel) ?_
                refine x_goto (np := 186) (x := 12) (by decide +kernel) ?_
                have q4719 : h4712 75 30 = h4704 75 30 := jK 0 f4714 rg_75_30_0_1 (by first | decide | omega) (by first | decide | omega) (by decide)
                have q4720 : h4704 75 30 = h4677 75 30 := by rw [← e4706]; exact x_up_k (by decide)
                have q4721 : h4677 75 30 = h4613 75 30 := jK 0 f4679 rg_75_30_0_1 (by first | decide | omega) (by first | decide | omega) (by decide)
                have q4722 : h4613 75 30 = h4601 75 30 := jK 0 f4615 rg_75_30_0_1 (by first | decide | omega) (by first | decide | omega) (by decide)
                have q4723 : h4601 75 30 = (1 + (h3892 75 30)) := by rw [← e4603]; exact x_up_at
                exact i3953 (iv_c v4610) (iv_c v4691) h4712 (by first | decide | omega) j4713 f4718 (by first | decide | omega)
              have q4689 : ¬ (2147483648 ≤ (h4613 94 2)) := q4689
              refine x_const (np := 132) (x := 9223372034707292159) (a := 2147483647) (by decide +kernel) (by decide) (by decide) ?_
              refine x_goto (np := 135) (x := 140) (by decide +kernel) ?_
              refine x_istore (np := 142) (x := 5) (lo' := [x_r 75, iv_c 2147483653, iv_c 2147483650, iv_c v4610, iv_c 2147483649, iv_c 2147483647]) (by decide +kernel) (by decide) (Nat.le_of_ble_eq_true rfl) rfl ?_
              refine x_iload (np := 144) (x := 5) (by decide +kernel) rfl (by decide) ?_
              refine x_ifz (k := 2) (tg := 151) (np := 147) (by decide +kernel) (by decide) (by decide) (fun q4724 => ?_) (fun q4725 => ?_)
              · have q4724 : 2147483647 < 2147483648 := q4724
                refine x_const (np := 152) (x := 9223372039002259456) (a := 2147483648) (by decide +kernel) (by decide) (by decide) ?_
                refine x_istore (np := 154) (x := 4) (lo' := [x_r 75, iv_c 2147483653, iv_c 2147483650, iv_c v4610, iv_c 2147483648, iv_c 2147483647]) (by decide +kernel) (by decide) (Nat.le_of_ble_eq_true rfl) rfl ?_
                refine x_iload (np := 156) (x := 4) (by decide +kernel) rfl (by decide) ?_
                refine x_ifz (k := 0) (tg := 180) (np := 159) (by decide +kernel) (by decide) (by decide) (fun q4726 => ?_) (fun q4727 => ?_)
                · have q4726 : 2147483648 = 2147483648 := q4726
                  refine x_iinc (np := 183) (i := 2) (j := 2147483647) (v := 2147483649) (lo' := [x_r 75, iv_c 2147483653, iv_c 2147483649, iv_c v4610, iv_c 2147483648, iv_c 2147483647]) (by decide +kernel) (by decide) (by decide) rfl (by decide) (by first | decide | omega) (by first | decide | omega) rfl ?_
                  refine x_goto (np := 186) (x := 12) (by decide +kernel) ?_
                  have q4728 : h4677 75 30 = h4613 75 30 := jK 0 f4679 rg_75_30_0_1 (by first | decide | omega) (by first | decide | omega) (by decide)
                  have q4729 : h4613 75 30 = h4601 75 30 := jK 0 f4615 rg_75_30_0_1 (by first | decide | omega) (by first | decide | omega) (by decide)
                  have q4730 : h4601 75 30 = (1 + (h3892 75 30)) := by rw [← e4603]; exact x_up_at
                  exact i3958 (iv_c v4610) (iv_c 2147483647) h4677 (by first | decide | omega) j4678 f4683 (by first | decide | omega)
                have q4727 : ¬ (2147483648 = 2147483648) := q4727
                exfalso; omega
              have q4725 : ¬ (2147483647 < 2147483648) := q4725
              exfalso; omega
            have q4624 : ¬ (2147483650 ≠ 2147483653) := q4624
            exfalso; omega
          have q4620 : ¬ (v4610 ≠ 2147483649) := q4620
          refine x_aload (np := 55) (x := 0) (by decide +kernel) rfl (x_nc_le (by decide)) ?_
          have q4731 : h4613 75 34 = h4601 75 34 := jK 0 f4615 rg_75_34_0_1 (by first | decide | omega) (by first | decide | omega) (by decide)
          have q4732 : h4601 75 34 = h3892 75 34 := by rw [← e4603]; exact x_up_i (by first | decide | omega)
          refine x_getC (np := 58) (x := 738) (f := 34) (q := (h3892 75 34)) (by decide +kernel) (by decide) (by decide +kernel) (q4731.trans q4732) (fun l4733 => ?_)
          refine x_ifz (k := 1) (tg := 66) (np := 61) (by decide +kernel) (by decide) l4733 (fun q4734 => ?_) (fun q4735 => ?_)
          · have q4734 : (h3892 75 34) ≠ 2147483648 := q4734
            refine x_aload (np := 67) (x := 0) (by decide +kernel) rfl (x_nc_le (by decide)) ?_
            refine x_dup (np := 68) (x := 0) (by decide +kernel) (by have z := x_nc_le (k := 75) (by decide); unfold x_r; omega) ?_
            have q4736 : h4613 75 34 = h4601 75 34 := jK 0 f4615 rg_75_34_0_1 (by first | decide | omega) (by first | decide | omega) (by decide)
            have q4737 : h4601 75 34 = h3892 75 34 := by rw [← e4603]; exact x_up_i (by first | decide | omega)
            refine x_getC (np := 71) (x := 738) (f := 34) (q := (h3892 75 34)) (by decide +kernel) (by decide) (by decide +kernel) (q4736.trans q4737) (fun l4738 => ?_)
            refine x_const (np := 72) (x := 9223372043297226753) (a := 2147483649) (by decide +kernel) (by decide) (by decide) ?_
            refine x_addA (by rw [tb_b259]; decide +kernel) l4733 (by decide) (fun v4739 l4740 => ?_)
            refine x_putI (np := 76) (x := 738) (f := 34) (by decide +kernel) (by decide +kernel) l4740 (Or.inl (by decide)) ?_
            have j4742 := jU (e := 34) (v := v4739) 0 j4614 rg_75_34_0_1 (by first | decide | omega) (by first | decide | omega) (by first | decide | omega)
            have f4744 := jF (e := 34) (v := v4739) 0 f4617 rg_75_34_0_1 (by first | decide | omega) (by first | decide | omega) (by decide)
            have f4745 := jF (e := 34) (v := v4739) 0 f4618 rg_75_34_0_1 (by first | decide | omega) (by first | decide | omega) (by decide)
            generalize e4743 : x_up h4613 75 34 v4739 = h4741 at j4742 f4744 f4745 ⊢
            refine x_aload (np := 77) (x := 0) (by decide +kernel) rfl (x_nc_le (by decide)) ?_
            have q4746 : h4741 75 33 = h4613 75 33 := by rw [← e4743]; exact x_up_i (by first | decide | omega)
            have q4747 : h4613 75 33 = h4601 75 33 := jK 0 f4615 rg_75_33_0_1 (by first | decide | omega) (by first | decide | omega) (by decide)
            have q4748 : h4601 75 33 = h3892 75 33 := by rw [← e4603]; exact x_up_i (by first | decide | omega)
            have q4749 : h3892 75 33 = h2 75 33 := jK 0 f3894 rg_75_33_0_1 (by first | decide | omega) (by first | decide | omega) (by decide)
            have q4750 : h2 75 33 = h 75 33 := by rw [← e4]; exact x_up_i (by first | decide | omega)
            have b4751 := jB (e := 33) 0 hJ rg_75_33_0_1 (by first | decide | omega) (by first | decide | omega)
            refine x_getC (np := 80) (x := 737) (f := 33) (q := (h 75 33)) (by decide +kernel) (by decide) (by decide +kernel) ((((q4746.trans q4747).trans q4748).trans q4749).trans q4750) (fun l4752 => ?_)
            refine x_ifz (k := 0) (tg := 85) (np := 83) (by decide +kernel) (by decide) l4752 (fun q4753 => ?_) (fun q4754 => ?_)
            · have q4753 : (h 75 33) = 2147483648 := q4753
              refine x_iload (np := 86) (x := 3) (by decide +kernel) rfl l4611 ?_
              refine x_const (np := 87) (x := 9223372043297226753) (a := 2147483649) (by decide +kernel) (by decide) (by decide) ?_
              refine x_icmp (k := 0) (tg := 95) (np := 90) (by decide +kernel) (by decide) l4611 (by decide) (fun q4755 => ?_) (fun q4756 => ?_)
              · have q4755 : v4610 = 2147483649 := q4755
                refine x_aload (np := 96) (x := 0) (by decide +kernel) rfl (x_nc_le (by decide)) ?_
                have q4757 : h4741 75 28 = 94 := by have z := jB (e := 28) 0 j4742 rg_75_28_0_1 (by decide) (by decide); omega
                refine x_getR (np := 99) (x := 732) (f := 28) (q := 94) (by decide +kernel) (by decide) (by decide +kernel) q4757 ?_
                refine x_iload (np := 100) (x := 2) (by decide +kernel) rfl (by decide) ?_
                refine x_const (np := 101) (x := 9223372034707292159) (a := 2147483647) (by decide +kernel) (by decide) (by decide) ?_
                refine x_ast (np := 102) (x := 0) (kd := 1) (n := 6) (i := 2) (by decide +kernel) (Or.inl rfl) (by decide +kernel) (by first | decide | omega) (by first | decide | omega) (by decide) (by decide) (fun z => absurd z (by decide)) ?_
                have j4759 := jU (e := 2) (v := 2147483647) 2 j4742 rg_94_0_1_6 (by first | decide | omega) (by first | decide | omega) (by first | decide | omega)
                have f4761 := jF (e := 2) (v := 2147483647) 2 f4744 rg_94_0_1_6 (by first | decide | omega) (by first | decide | omega) (by decide)
                have f4762 := jF (e := 2) (v := 2147483647) 2 f4745 rg_94_0_1_6 (by first | decide | omega) (by first | decide | omega) (by decide)
                generalize e4760 : x_up h4741 94 2 2147483647 = h4758 at j4759 f4761 f4762 ⊢
                refine x_aload (np := 103) (x := 0) (by decide +kernel) rfl (x_nc_le (by decide)) ?_
                have q4763 : h4758 75 27 = 93 := by have z := jB (e := 27) 0 j4759 rg_75_27_0_1 (by decide) (by decide); omega
                refine x_getR (np := 106) (x := 731) (f := 27) (q := 93) (by decide +kernel) (by decide) (by decide +kernel) q4763 ?_
                refine x_iload (np := 107) (x := 2) (by decide +kernel) rfl (by decide) ?_
                have q4764 : h4758 93 2 = h4741 93 2 := by rw [← e4760]; exact x_up_k (by decide)
                have q4765 : h4741 93 2 = h4613 93 2 := by rw [← e4743]; exact x_up_k (by decide)
                have b4766 := jB (e := 2) 2 j4614 rg_93_0_1_6 (by first | decide | omega) (by first | decide | omega)
                refine x_aldC (np := 108) (x := 0) (n := 6) (i := 2) (q := (h4613 93 2)) (by decide +kernel) (by decide +kernel) (by first | decide | omega) (by first | decide | omega) (by decide) (q4764.trans q4765) (fun l4767 => ?_)
                refine x_ifz (k := 2) (tg := 122) (np := 111) (by decide +kernel) (by decide) l4767 (fun q4768 => ?_) (fun q4769 => ?_)
                · have q4768 : (h4613 93 2) < 2147483648 := q4768
                  refine x_aload (np := 123) (x := 0) (by decide +kernel) rfl (x_nc_le (by decide)) ?_
                  have q4770 : h4758 75 28 = 94 := by have z := jB (e := 28) 0 j4759 rg_75_28_0_1 (by decide) (by decide); omega
                  refine x_getR (np := 126) (x := 732) (f := 28) (q := 94) (by decide +kernel) (by decide) (by decide +kernel) q4770 ?_
                  refine x_iload (np := 127) (x := 2) (by decide +kernel) rfl (by decide) ?_
                  have q4771 : h4758 94 2 = 2147483647 := by rw [← e4760]; exact x_up_at
                  refine x_aldC (np := 128) (x := 0) (n := 6) (i := 2) (q := 2147483647) (by decide +kernel) (by decide +kernel) (by first | decide | omega) (by first | decide | omega) (by decide) q4771 (fun l4772 => ?_)
                  refine x_ifz (k := 3) (tg := 135) (np := 131) (by decide +kernel) (by decide) (by decide) (fun q4773 => ?_) (fun q4774 => ?_)
                  · have q4773 : 2147483648 ≤ 2147483647 := q4773
                    exfalso; omega
                  have q4774 : ¬ (2147483648 ≤ 2147483647) := q4774
                  refine x_const (np := 132) (x := 9223372034707292159) (a := 2147483647) (by decide +kernel) (by decide) (by decide) ?_
                  refine x_goto (np := 135) (x := 140) (by decide +kernel) ?_
                  refine x_istore (np := 142) (x := 5) (lo' := [x_r 75, iv_c 2147483653, iv_c 2147483650, iv_c v4610, iv_c 2147483649, iv_c 2147483647]) (by decide +kernel) (by decide) (Nat.le_of_ble_eq_true rfl) rfl ?_
                  refine x_iload (np := 144) (x := 5) (by decide +kernel) rfl (by decide) ?_
                  refine x_ifz (k := 2) (tg := 151) (np := 147) (by decide +kernel) (by decide) (by decide) (fun q4775 => ?_) (fun q4776 => ?_)
                  · have q4775 : 2147483647 < 2147483648 := q4775
                    refine x_const (np := 152) (x := 9223372039002259456) (a := 2147483648) (by decide +kernel) (by decide) (by decide) ?_
                    refine x_istore (np := 154) (x := 4) (lo' := [x_r 75, iv_c 2147483653, iv_c 2147483650, iv_c v4610, iv_c 2147483648, iv_c 2147483647]) (by decide +kernel) (by decide) (Nat.le_of_ble_eq_true rfl) rfl ?_
                    refine x_iload (np := 156) (x := 4) (by decide +kernel) rfl (by decide) ?_
                    refine x_ifz (k := 0) (tg := 180) (np := 159) (by decide +kernel) (by decide) (by decide) (fun q4777 => ?_) (fun q4778 => ?_)
                    · have q4777 : 2147483648 = 2147483648 := q4777
                      refine x_iinc (np := 183) (i := 2) (j := 2147483647) (v := 2147483649) (lo' := [x_r 75, iv_c 2147483653, iv_c 2147483649, iv_c v4610, iv_c 2147483648, iv_c 2147483647]) (by decide +kernel) (by decide) (by decide) rfl (by decide) (by first | decide | omega) (by first | decide | omega) rfl ?_
                      refine x_goto (np := 186) (x := 12) (by decide +kernel) ?_
                      have q4779 : h4758 75 30 = h4741 75 30 := by rw [← e4760]; exact x_up_k (by decide)
                      have q4780 : h4741 75 30 = h4613 75 30 := by rw [← e4743]; exact x_up_i (by first | decide | omega)
                      have q4781 : h4613 75 30 = h4601 75 30 := jK 0 f4615 rg_75_30_0_1 (by first | decide | omega) (by first | decide | omega) (by decide)
                      have q4782 : h4601 75 30 = (1 + (h3892 75 30)) := by rw [← e4603]; exact x_up_at
                      exact i3958 (iv_c v4610) (iv_c 2147483647) h4758 (by first | decide | omega) j4759 f4762 (by first | decide | omega)
                    have q4778 : ¬ (2147483648 = 2147483648) := q4778
                    exfalso; omega
                  have q4776 : ¬ (2147483647 < 2147483648) := q4776
                  exfalso; omega
                have q4769 : ¬ ((h4613 93 2) < 2147483648) := q4769
                refine x_aload (np := 112) (x := 0) (by decide +kernel) rfl (x_nc_le (by decide)) ?_
                refine x_aload (np := 113) (x := 0) (by decide +kernel) rfl (x_nc_le (by decide)) ?_
                have q4783 : h4758 75 27 = 93 := by have z := jB (e := 27) 0 j4759 rg_75_27_0_1 (by decide) (by decide); omega
                refine x_getR (np := 116) (x := 731) (f := 27) (q := 93) (by decide +kernel) (by decide) (by decide +kernel) q4783 ?_
                refine x_iload (np := 117) (x := 2) (by decide +kernel) rfl (by decide) ?_
                have q4784 : h4758 93 2 = h4741 93 2 := by rw [← e4760]; exact x_up_k (by decide)
                have q4785 : h4741 93 2 = h4613 93 2 := by rw [← e4743]; exact x_up_k (by decide)
                refine x_aldC (np := 118) (x := 0) (n := 6) (i := 2) (q := (h4613 93 2)) (by decide +kernel) (by decide +kernel) (by first | decide | omega) (by first | decide | omega) (by decide) (q4784.trans q4785) (fun l4786 => ?_)
                refine x_const (np := 119) (x := 9223372039002259456) (a := 2147483648) (by decide +kernel) (by decide) (by decide) ?_
                refine x_cV (t := 6) (mj := 248) (n := 3) (rc := 12) (ml := 4) (nr := 0) (np := 122) (as := [x_r 75, iv_c (h4613 93 2), iv_c 2147483648]) (rest := []) (lo1 := [x_r 75, iv_c (h4613 93 2), iv_c 2147483648, 147573952589676412928]) (by decide +kernel) (by decide) (by decide +kernel) (x_rb_of (by decide +kernel)) rfl rfl (x_wr (by decide) (x_wi l4767 (x_wi (by decide) x_wn))) x_wn (by decide) rfl (c248_75 j4759  (by first | decide | omega) (by first | decide | omega)) (fun h4790 q4789 => ?_)
                obtain ⟨j4791, f4792⟩ := q4789
                have f4795 := Fr.trans f4761 f4792 (by decide)
                have f4796 := Fr.trans f4762 f4792 (by decide)
                refine x_aload (np := 123) (x := 0) (by decide +kernel) rfl (x_nc_le (by decide)) ?_
                have q4797 : h4790 75 28 = 94 := by have z := jB (e := 28) 0 j4791 rg_75_28_0_1 (by decide) (by decide); omega
                refine x_getR (np := 126) (x := 732) (f := 28) (q := 94) (by decide +kernel) (by decide) (by decide +kernel) q4797 ?_
                refine x_iload (np := 127) (x := 2) (by decide +kernel) rfl (by decide) ?_
                have q4798 : h4790 94 2 = h4758 94 2 := jK 2 f4792 rg_94_0_1_6 (by first | decide | omega) (by first | decide | omega) (by decide)
                have q4799 : h4758 94 2 = 2147483647 := by rw [← e4760]; exact x_up_at
                refine x_aldC (np := 128) (x := 0) (n := 6) (i := 2) (q := 2147483647) (by decide +kernel) (by decide +kernel) (by first | decide | omega) (by first | decide | omega) (by decide) (q4798.trans q4799) (fun l4800 => ?_)
                refine x_ifz (k := 3) (tg := 135) (np := 131) (by decide +kernel) (by decide) (by decide) (fun q4801 => ?_) (fun q4802 => ?_)
                · have q4801 : 2147483648 ≤ 2147483647 := q4801
                  exfalso; omega
                have q4802 : ¬ (2147483648 ≤ 2147483647) := q4802
                refine x_const (np := 132) (x := 9223372034707292159) (a := 2147483647) (by decide +kernel) (by decide) (by decide) ?_
                refine x_goto (np := 135) (x := 140) (by decide +kernel) ?_
                refine x_istore (np := 142) (x := 5) (lo' := [x_r 75, iv_c 2147483653, iv_c 2147483650, iv_c v4610, iv_c 2147483649, iv_c 2147483647]) (by decide +kernel) (by decide) (Nat.le_of_ble_eq_true rfl) rfl ?_
                refine x_iload (np := 144) (x := 5) (by decide +kernel) rfl (by decide) ?_
                refine x_ifz (k := 2) (tg := 151) (np := 147) (by decide +kernel) (by decide) (by decide) (fun q4803 => ?_) (fun q4804 => ?_)
                · have q4803 : 2147483647 < 2147483648 := q4803
                  refine x_const (np := 152) (x := 9223372039002259456) (a := 2147483648) (by decide +kernel) (by decide) (by decide) ?_
                  refine x_istore (np := 154) (x := 4) (lo' := [x_r 75, iv_c 2147483653, iv_c 2147483650, iv_c v4610, iv_c 2147483648, iv_c 2147483647]) (by decide +kernel) (by decide) (Nat.le_of_ble_eq_true rfl) rfl ?_
                  refine x_iload (np := 156) (x := 4) (by decide +kernel) rfl (by decide) ?_
                  refine x_ifz (k := 0) (tg := 180) (np := 159) (by decide +kernel) (by decide) (by decide) (fun q4805 => ?_) (fun q4806 => ?_)
                  · have q4805 : 2147483648 = 2147483648 := q4805
                    refine x_iinc (np := 183) (i := 2) (j := 2147483647) (v := 2147483649) (lo' := [x_r 75, iv_c 2147483653, iv_c 2147483649, iv_c v4610, iv_c 2147483648, iv_c 2147483647]) (by decide +kernel) (by decide) (by decide) rfl (by decide) (by first | decide | omega) (by first | decide | omega) rfl ?_
                    refine x_goto (np := 186) (x := 12) (by decide +kernel) ?_
                    have q4807 : h4790 75 30 = h4758 75 30 := jK 0 f4792 rg_75_30_0_1 (by first | decide | omega) (by first | decide | omega) (by decide)
                    have q4808 : h4758 75 30 = h4741 75 30 := by rw [← e4760]; exact x_up_k (by decide)
                    have q4809 : h4741 75 30 = h4613 75 30 := by rw [← e4743]; exact x_up_i (by first | decide | omega)
                    have q4810 : h4613 75 30 = h4601 75 30 := jK 0 f4615 rg_75_30_0_1 (by first | decide | omega) (by first | decide | omega) (by decide)
                    have q4811 : h4601 75 30 = (1 + (h3892 75 30)) := by rw [← e4603]; exact x_up_at
                    exact i3958 (iv_c v4610) (iv_c 2147483647) h4790 (by first | decide | omega) j4791 f4796 (by first | decide | omega)
                  have q4806 : ¬ (2147483648 = 2147483648) := q4806
                  exfalso; omega
                have q4804 : ¬ (2147483647 < 2147483648) := q4804
                exfalso; omega
              have q4756 : ¬ (v4610 = 2147483649) := q4756
              exfalso; omega
            have q4754 : ¬ ((h 75 33) = 2147483648) := q4754
            refine x_const (np := 84) (x := 9223372043297226753) (a := 2147483649) (by decide +kernel) (by decide) (by decide) ?_
            have q4812 : h4741 75 30 = h4613 75 30 := by rw [← e4743]; exact x_up_i (by first | decide | omega)
            have q4813 : h4613 75 30 = h4601 75 30 := jK 0 f4615 rg_75_30_0_1 (by first | decide | omega) (by first | decide | omega) (by decide)
            have q4814 : h4601 75 30 = (1 + (h3892 75 30)) := by rw [← e4603]; exact x_up_at
            refine x_retI (np := 85) (x := 0) (by decide +kernel) (by decide) (Or.inr ⟨by decide +kernel, by first | decide | omega, by first | decide | omega⟩) ⟨_, rfl, (by decide), ?_⟩
            exact ⟨j4742, f4744, (by first | decide | omega), (fun z => by first | decide | omega)⟩
          have q4735 : ¬ ((h3892 75 34) ≠ 2147483648) := q4735
          refine x_aload (np := 62) (x := 0) (by decide +kernel) rfl (x_nc_le (by decide)) ?_
          refine x_iload (np := 63) (x := 2) (by decide +kernel) rfl (by decide) ?_
          refine x_cV (t := 6) (mj := 258) (n := 2) (rc := 12) (ml := 4) (nr := 0) (np := 66) (as := [x_r 75, iv_c 2147483650]) (rest := []) (lo1 := [x_r 75, iv_c 2147483650, 147573952589676412928, 147573952589676412928]) (by decide +kernel) (by decide) (by decide +kernel) (x_rb_of (by decide +kernel)) rfl rfl (x_wr (by decide) (x_wi (by decide) x_wn)) x_wn (by decide) rfl (c258_75 j4614  (by first | decide | omega)) (fun h4818 q4817 => ?_)
          obtain ⟨j4819, f4820⟩ := q4817
          have f4823 := Fr.trans f4617 f4820 (by decide)
          have f4824 := Fr.trans f4618 f4820 (by decide)
          refine x_aload (np := 67) (x := 0) (by decide +kernel) rfl (x_nc_le (by decide)) ?_
          refine x_dup (np := 68) (x := 0) (by decide +kernel) (by have z := x_nc_le (k := 75) (by decide); unfold x_r; omega) ?_
          have q4825 : h4818 75 34 = h4613 75 34 := jK 0 f4820 rg_75_34_0_1 (by first | decide | omega) (by first | decide | omega) (by decide)
          have q4826 : h4613 75 34 = h4601 75 34 := jK 0 f4615 rg_75_34_0_1 (by first | decide | omega) (by first | decide | omega) (by decide)
          have q4827 : h4601 75 34 = h3892 75 34 := by rw [← e4603]; exact x_up_i (by first | decide | omega)
          refine x_getC (np := 71) (x := 738) (f := 34) (q := (h3892 75 34)) (by decide +kernel) (by decide) (by decide +kernel) ((q4825.trans q4826).trans q4827) (fun l4828 => ?_)
          refine x_const (np := 72) (x := 9223372043297226753) (a := 2147483649) (by decide +kernel) (by decide) (by decide) ?_
          refine x_iadd (np := 73) (x := 0) (v := (1 + (h3892 75 34))) (by decide +kernel) l4733 (by decide) (by first | decide | omega) (by first | decide | omega) ?_
          refine x_putI (np := 76) (x := 738) (f := 34) (by decide +kernel) (by decide +kernel) (by first | decide | omega) (Or.inl (by decide)) ?_
          have j4830 := jU (e := 34) (v := (1 + (h3892 75 34))) 0 j4819 rg_75_34_0_1 (by first | decide | omega) (by first | decide | omega) (by first | decide | omega)
          have f4832 := jF (e := 34) (v := (1 + (h3892 75 34))) 0 f4823 rg_75_34_0_1 (by first | decide | omega) (by first | decide | omega) (by decide)
          have f4833 := jF (e := 34) (v := (1 + (h3892 75 34))) 0 f4824 rg_75_34_0_1 (by first | decide | omega) (by first | decide | omega) (by decide)
          generalize e4831 : x_up h4818 75 34 (1 + (h3892 75 34)) = h4829 at j4830 f4832 f4833 ⊢
          refine x_aload (np := 77) (x := 0) (by decide +kernel) rfl (x_nc_le (by decide)) ?_
          have q4834 : h4829 75 33 = h4818 75 33 := by rw [← e4831]; exact x_up_i (by first | decide | omega)
          have q4835 : h4818 75 33 = h4613 75 33 := jK 0 f4820 rg_75_33_0_1 (by first | decide | omega) (by first | decide | omega) (by decide)
          have q4836 : h4613 75 33 = h4601 75 33 := jK 0 f4615 rg_75_33_0_1 (by first | decide | omega) (by first | decide | omega) (by decide)
          have q4837 : h4601 75 33 = h3892 75 33 := by rw [← e4603]; exact x_up_i (by first | decide | omega)
          have q4838 : h3892 75 33 = h2 75 33 := jK 0 f3894 rg_75_33_0_1 (by first | decide | omega) (by first | decide | omega) (by decide)
          have q4839 : h2 75 33 = h 75 33 := by rw [← e4]; exact x_up_i (by first | decide | omega)
          have b4840 := jB (e := 33) 0 hJ rg_75_33_0_1 (by first | decide | omega) (by first | decide | omega)
          refine x_getC (np := 80) (x := 737) (f := 33) (q := (h 75 33)) (by decide +kernel) (by decide) (by decide +kernel) (((((q4834.trans q4835).trans q4836).trans q4837).trans q4838).trans q4839) (fun l4841 => ?_)
          refine x_ifz (k := 0) (tg := 85) (np := 83) (by decide +kernel) (by decide) l4841 (fun q4842 => ?_) (fun q4843 => ?_)
          · have q4842 : (h 75 33) = 2147483648 := q4842
            refine x_iload (np := 86) (x := 3) (by decide +kernel) rfl l4611 ?_
            refine x_const (np := 87) (x := 9223372043297226753) (a := 2147483649) (by decide +kernel) (by decide) (by decide) ?_
            refine x_icmp (k := 0) (tg := 95) (np := 90) (by decide +kernel) (by decide) l4611 (by decide) (fun q4844 => ?_) (fun q4845 => ?_)
            · have q4844 : v4610 = 2147483649 := q4844
              refine x_aload (np := 96) (x := 0) (by decide +kernel) rfl (x_nc_le (by decide)) ?_
              have q4846 : h4829 75 28 = 94 := by have z := jB (e := 28) 0 j4830 rg_75_28_0_1 (by decide) (by decide); omega
              refine x_getR (np := 99) (x := 732) (f := 28) (q := 94) (by decide +kernel) (by decide) (by decide +kernel) q4846 ?_
              refine x_iload (np := 100) (x := 2) (by decide +kernel) rfl (by decide) ?_
              refine x_const (np := 101) (x := 9223372034707292159) (a := 2147483647) (by decide +kernel) (by decide) (by decide) ?_
              refine x_ast (np := 102) (x := 0) (kd := 1) (n := 6) (i := 2) (by decide +kernel) (Or.inl rfl) (by decide +kernel) (by first | decide | omega) (by first | decide | omega) (by decide) (by decide) (fun z => absurd z (by decide)) ?_
              have j4848 := jU (e := 2) (v := 2147483647) 2 j4830 rg_94_0_1_6 (by first | decide | omega) (by first | decide | omega) (by first | decide | omega)
              have f4850 := jF (e := 2) (v := 2147483647) 2 f4832 rg_94_0_1_6 (by first | decide | omega) (by first | decide | omega) (by decide)
              have f4851 := jF (e := 2) (v := 2147483647) 2 f4833 rg_94_0_1_6 (by first | decide | omega) (by first | decide | omega) (by decide)
              generalize e4849 : x_up h4829 94 2 2147483647 = h4847 at j4848 f4850 f4851 ⊢
              refine x_aload (np := 103) (x := 0) (by decide +kernel) rfl (x_nc_le (by decide)) ?_
              have q4852 : h4847 75 27 = 93 := by have z := jB (e := 27) 0 j4848 rg_75_27_0_1 (by decide) (by decide); omega
              refine x_getR (np := 106) (x := 731) (f := 27) (q := 93) (by decide +kernel) (by decide) (by decide +kernel) q4852 ?_
              refine x_iload (np := 107) (x := 2) (by decide +kernel) rfl (by decide) ?_
              have q4853 : h4847 93 2 = h4829 93 2 := by rw [← e4849]; exact x_up_k (by decide)
              have q4854 : h4829 93 2 = h4818 93 2 := by rw [← e4831]; exact x_up_k (by decide)
              have q4855 : h4818 93 2 = h4613 93 2 := jK 2 f4820 rg_93_0_1_6 (by first | decide | omega) (by first | decide | omega) (by decide)
              have b4856 := jB (e := 2) 2 j4614 rg_93_0_1_6 (by first | decide | omega) (by first | decide | omega)
              refine x_aldC (np := 108) (x := 0) (n := 6) (i := 2) (q := (h4613 93 2)) (by decide +kernel) (by decide +kernel) (by first | decide | omega) (by first | decide | omega) (by decide) ((q4853.trans q4854).trans q4855) (fun l4857 => ?_)
              refine x_ifz (k := 2) (tg := 122) (np := 111) (by decide +kernel) (by decide) l4857 (fun q4858 => ?_) (fun q4859 => ?_)
              · have q4858 : (h4613 93 2) < 2147483648 := q4858
                refine x_aload (np := 123) (x := 0) (by decide +kernel) rfl (x_nc_le (by decide)) ?_
                have q4860 : h4847 75 28 = 94 := by have z := jB (e := 28) 0 j4848 rg_75_28_0_1 (by decide) (by decide); omega
                refine x_getR (np := 126) (x := 732) (f := 28) (q := 94) (by decide +kernel) (by decide) (by decide +kernel) q4860 ?_
                refine x_iload (np := 127) (x := 2) (by decide +kernel) rfl (by decide) ?_
                have q4861 : h4847 94 2 = 2147483647 := by rw [← e4849]; exact x_up_at
                refine x_aldC (np := 128) (x := 0) (n := 6) (i := 2) (q := 2147483647) (by decide +kernel) (by decide +kernel) (by first | decide | omega) (by first | decide | omega) (by decide) q4861 (fun l4862 => ?_)
                refine x_ifz (k := 3) (tg := 135) (np := 131) (by decide +kernel) (by decide) (by decide) (fun q4863 => ?_) (fun q4864 => ?_)
                · have q4863 : 2147483648 ≤ 2147483647 := q4863
                  exfalso; omega
                have q4864 : ¬ (2147483648 ≤ 2147483647) := q4864
                refine x_const (np := 132) (x := 9223372034707292159) (a := 2147483647) (by decide +kernel) (by decide) (by decide) ?_
                refine x_goto (np := 135) (x := 140) (by decide +kernel) ?_
                refine x_istore (np := 142) (x := 5) (lo' := [x_r 75, iv_c 2147483653, iv_c 2147483650, iv_c v4610, iv_c 2147483649, iv_c 2147483647]) (by decide +kernel) (by decide) (Nat.le_of_ble_eq_true rfl) rfl ?_
                refine x_iload (np := 144) (x := 5) (by decide +kernel) rfl (by decide) ?_
                refine x_ifz (k := 2) (tg := 151) (np := 147) (by decide +kernel) (by decide) (by decide) (fun q4865 => ?_) (fun q4866 => ?_)
                · have q4865 : 2147483647 < 2147483648 := q4865
                  refine x_const (np := 152) (x := 9223372039002259456) (a := 2147483648) (by decide +kernel) (by decide) (by decide) ?_
                  refine x_istore (np := 154) (x := 4) (lo' := [x_r 75, iv_c 2147483653, iv_c 2147483650, iv_c v4610, iv_c 2147483648, iv_c 2147483647]) (by decide +kernel) (by decide) (Nat.le_of_ble_eq_true rfl) rfl ?_
                  refine x_iload (np := 156) (x := 4) (by decide +kernel) rfl (by decide) ?_
                  refine x_ifz (k := 0) (tg := 180) (np := 159) (by decide +kernel) (by decide) (by decide) (fun q4867 => ?_) (fun q4868 => ?_)
                  · have q4867 : 2147483648 = 2147483648 := q4867
                    refine x_iinc (np := 183) (i := 2) (j := 2147483647) (v := 2147483649) (lo' := [x_r 75, iv_c 2147483653, iv_c 2147483649, iv_c v4610, iv_c 2147483648, iv_c 2147483647]) (by decide +kernel) (by decide) (by decide) rfl (by decide) (by first | decide | omega) (by first | decide | omega) rfl ?_
                    refine x_goto (np := 186) (x := 12) (by decide +kernel) ?_
                    have q4869 : h4847 75 30 = h4829 75 30 := by rw [← e4849]; exact x_up_k (by decide)
                    have q4870 : h4829 75 30 = h4818 75 30 := by rw [← e4831]; exact x_up_i (by first | decide | omega)
                    have q4871 : h4818 75 30 = h4613 75 30 := jK 0 f4820 rg_75_30_0_1 (by first | decide | omega) (by first | decide | omega) (by decide)
                    have q4872 : h4613 75 30 = h4601 75 30 := jK 0 f4615 rg_75_30_0_1 (by first | decide | omega) (by first | decide | omega) (by decide)
                    have q4873 : h4601 75 30 = (1 + (h3892 75 30)) := by rw [← e4603]; exact x_up_at
                    exact i3958 (iv_c v4610) (iv_c 2147483647) h4847 (by first | decide | omega) j4848 f4851 (by first | decide | omega)
                  have q4868 : ¬ (2147483648 = 2147483648) := q4868
                  exfalso; omega
                have q4866 : ¬ (2147483647 < 2147483648) := q4866
                exfalso; omega
              have q4859 : ¬ ((h4613 93 2) < 2147483648) := q4859
              refine x_aload (np := 112) (x := 0) (by decide +kernel) rfl (x_nc_le (by decide)) ?_
              refine x_aload (np := 113) (x := 0) (by decide +kernel) rfl (x_nc_le (by decide)) ?_
              have q4874 : h4847 75 27 = 93 := by have z := jB (e := 27) 0 j4848 rg_75_27_0_1 (by decide) (by decide); omega
              refine x_getR (np := 116) (x := 731) (f := 27) (q := 93) (by decide +kernel) (by decide) (by decide +kernel) q4874 ?_
              refine x_iload (np := 117) (x := 2) (by decide +kernel) rfl (by decide) ?_
              have q4875 : h4847 93 2 = h4829 93 2 := by rw [← e4849]; exact x_up_k (by decide)
              have q4876 : h4829 93 2 = h4818 93 2 := by rw [← e4831]; exact x_up_k (by decide)
              have q4877 : h4818 93 2 = h4613 93 2 := jK 2 f4820 rg_93_0_1_6 (by first | decide | omega) (by first | decide | omega) (by decide)
              refine x_aldC (np := 118) (x := 0) (n := 6) (i := 2) (q := (h4613 93 2)) (by decide +kernel) (by decide +kernel) (by first | decide | omega) (by first | decide | omega) (by decide) ((q4875.trans q4876).trans q4877) (fun l4878 => ?_)
              refine x_const (np := 119) (x := 9223372039002259456) (a := 2147483648) (by decide +kernel) (by decide) (by decide) ?_
              refine x_cV (t := 6) (mj := 248) (n := 3) (rc := 12) (ml := 4) (nr := 0) (np := 122) (as := [x_r 75, iv_c (h4613 93 2), iv_c 2147483648]) (rest := []) (lo1 := [x_r 75, iv_c (h4613 93 2), iv_c 2147483648, 147573952589676412928]) (by decide +kernel) (by decide) (by decide +kernel) (x_rb_of (by decide +kernel)) rfl rfl (x_wr (by decide) (x_wi l4857 (x_wi (by decide) x_wn))) x_wn (by decide) rfl (c248_75 j4848  (by first | decide | omega) (by first | decide | omega)) (fun h4882 q4881 => ?_)
              obtain ⟨j4883, f4884⟩ := q4881
              have f4887 := Fr.trans f4850 f4884 (by decide)
              have f4888 := Fr.trans f4851 f4884 (by decide)
              refine x_aload (np := 123) (x := 0) (by decide +kernel) rfl (x_nc_le (by decide)) ?_
              have q4889 : h4882 75 28 = 94 := by have z := jB (e := 28) 0 j4883 rg_75_28_0_1 (by decide) (by decide); omega
              refine x_getR (np := 126) (x := 732) (f := 28) (q := 94) (by decide +kernel) (by decide) (by decide +kernel) q4889 ?_
              refine x_iload (np := 127) (x := 2) (by decide +kernel) rfl (by decide) ?_
              have q4890 : h4882 94 2 = h4847 94 2 := jK 2 f4884 rg_94_0_1_6 (by first | decide | omega) (by first | decide | omega) (by decide)
              have q4891 : h4847 94 2 = 2147483647 := by rw [← e4849]; exact x_up_at
              refine x_aldC (np := 128) (x := 0) (n := 6) (i := 2) (q := 2147483647) (by decide +kernel) (by decide +kernel) (by first | decide | omega) (by first | decide | omega) (by decide) (q4890.trans q4891) (fun l4892 => ?_)
              refine x_ifz (k := 3) (tg := 135) (np := 131) (by decide +kernel) (by decide) (by decide) (fun q4893 => ?_) (fun q4894 => ?_)
              · have q4893 : 2147483648 ≤ 2147483647 := q4893
                exfalso; omega
              have q4894 : ¬ (2147483648 ≤ 2147483647) := q4894
              refine x_const (np := 132) (x := 9223372034707292159) (a := 2147483647) (by decide +kernel) (by decide) (by decide) ?_
              refine x_goto (np := 135) (x := 140) (by decide +kernel) ?_
              refine x_istore (np := 142) (x := 5) (lo' := [x_r 75, iv_c 2147483653, iv_c 2147483650, iv_c v4610, iv_c 2147483649, iv_c 2147483647]) (by decide +kernel) (by decide) (Nat.le_of_ble_eq_true rfl) rfl ?_
              refine x_iload (np := 144) (x := 5) (by decide +kernel) rfl (by decide) ?_
              refine x_ifz (k := 2) (tg := 151) (np := 147) (by decide +kernel) (by decide) (by decide) (fun q4895 => ?_) (fun q4896 => ?_)
              · have q4895 : 2147483647 < 2147483648 := q4895
                refine x_const (np := 152) (x := 9223372039002259456) (a := 2147483648) (by decide +kernel) (by decide) (by decide) ?_
                refine x_istore (np := 154) (x := 4) (lo' := [x_r 75, iv_c 2147483653, iv_c 2147483650, iv_c v4610, iv_c 2147483648, iv_c 2147483647]) (by decide +kernel) (by decide) (Nat.le_of_ble_eq_true rfl) rfl ?_
                refine x_iload (np := 156) (x := 4) (by decide +kernel) rfl (by decide) ?_
                refine x_ifz (k := 0) (tg := 180) (np := 159) (by decide +kernel) (by decide) (by decide) (fun q4897 => ?_) (fun q4898 => ?_)
                · have q4897 : 2147483648 = 2147483648 := q4897
                  refine x_iinc (np := 183) (i := 2) (j := 2147483647) (v := 2147483649) (lo' := [x_r 75, iv_c 2147483653, iv_c 2147483649, iv_c v4610, iv_c 2147483648, iv_c 2147483647]) (by decide +kernel) (by decide) (by decide) rfl (by decide) (by first | decide | omega) (by first | decide | omega) rfl ?_
                  refine x_goto (np := 186) (x := 12) (by decide +kernel) ?_
                  have q4899 : h4882 75 30 = h4847 75 30 := jK 0 f4884 rg_75_30_0_1 (by first | decide | omega) (by first | decide | omega) (by decide)
                  have q4900 : h4847 75 30 = h4829 75 30 := by rw [← e4849]; exact x_up_k (by decide)
                  have q4901 : h4829 75 30 = h4818 75 30 := by rw [← e4831]; exact x_up_i (by first | decide | omega)
                  have q4902 : h4818 75 30 = h4613 75 30 := jK 0 f4820 rg_75_30_0_1 (by first | decide | omega) (by first | decide | omega) (by decide)
                  have q4903 : h4613 75 30 = h4601 75 30 := jK 0 f4615 rg_75_30_0_1 (by first | decide | omega) (by first | decide | omega) (by decide)
                  have q4904 : h4601 75 30 = (1 + (h3892 75 30)) := by rw [← e4603]; exact x_up_at
                  exact i3958 (iv_c v4610) (iv_c 2147483647) h4882 (by first | decide | omega) j4883 f4888 (by first | decide | omega)
                have q4898 : ¬ (2147483648 = 2147483648) := q4898
                exfalso; omega
              have q4896 : ¬ (2147483647 < 2147483648) := q4896
              exfalso; omega
            have q4845 : ¬ (v4610 = 2147483649) := q4845
            exfalso; omega
          have q4843 : ¬ ((h 75 33) = 2147483648) := q4843
          refine x_const (np := 84) (x := 9223372043297226753) (a := 2147483649) (by decide +kernel) (by decide) (by decide) ?_
          have q4905 : h4829 75 30 = h4818 75 30 := by rw [← e4831]; exact x_up_i (by first | decide | omega)
          have q4906 : h4818 75 30 = h4613 75 30 := jK 0 f4820 rg_75_30_0_1 (by first | decide | omega) (by first | decide | omega) (by decide)
          have q4907 : h4613 75 30 = h4601 75 30 := jK 0 f4615 rg_75_30_0_1 (by first | decide | omega) (by first | decide | omega) (by decide)
          have q4908 : h4601 75 30 = (1 + (h3892 75 30)) := by rw [← e4603]; exact x_up_at
          refine x_retI (np := 85) (x := 0) (by decide +kernel) (by decide) (Or.inr ⟨by decide +kernel, by first | decide | omega, by first | decide | omega⟩) ⟨_, rfl, (by decide), ?_⟩
          exact ⟨j4830, f4832, (by first | decide | omega), (fun z => by first | decide | omega)⟩
        have q4609 : ¬ ((1 + (h3892 75 30)) ≤ 2147503648) := q4609
        refine x_const (np := 42) (x := 9223372039002259456) (a := 2147483648) (by decide +kernel) (by decide) (by decide) ?_
        have q4909 : h4601 75 30 = (1 + (h3892 75 30)) := by rw [← e4603]; exact x_up_at
        refine x_retI (np := 43) (x := 0) (by decide +kernel) (by decide) (Or.inr ⟨by decide +kernel, by first | decide | omega, by first | decide | omega⟩) ⟨_, rfl, (by decide), ?_⟩
        exact ⟨j4602, f4604, (by first | decide | omega), (fun z => by first | decide | omega)⟩
      · intro w3896 w3897 h3898 q4910 j3901 f3900 b3899
        have f4911 := Fr.trans f5 f3900 (by decide)
        refine x_iload (np := 13) (x := 2) (by decide +kernel) rfl (by decide) ?_
        refine x_ifz (k := 2) (tg := 186) (np := 16) (by decide +kernel) (by decide) (by decide) (fun q4912 => ?_) (fun q4913 => ?_)
        · have q4912 : 2147483651 < 2147483648 := q4912
          exfalso; omega
        have q4913 : ¬ (2147483651 < 2147483648) := q4913
        refine x_iload (np := 18) (x := 4) (by decide +kernel) rfl (by decide) ?_
        refine x_ifz (k := 0) (tg := 102) (np := 21) (by decide +kernel) (by decide) (by decide) (fun q4914 => ?_) (fun q4915 => ?_)
        · have q4914 : 2147483649 = 2147483648 := q4914
          exfalso; omega
        have q4915 : ¬ (2147483649 = 2147483648) := q4915
        refine x_aload (np := 22) (x := 0) (by decide +kernel) rfl (x_nc_le (by decide)) ?_
        refine x_dup (np := 23) (x := 0) (by decide +kernel) (by have z := x_nc_le (k := 75) (by decide); unfold x_r; omega) ?_
        refine x_getC (np := 26) (x := 734) (f := 30) (q := (h3898 75 30)) (by decide +kernel) (by decide) (by decide +kernel) rfl (fun l4916 => ?_)
        refine x_const (np := 27) (x := 9223372043297226753) (a := 2147483649) (by decide +kernel) (by decide) (by decide) ?_
        refine x_iadd (np := 28) (x := 0) (v := (1 + (h3898 75 30))) (by decide +kernel) l4916 (by decide) (by first | decide | omega) (by first | decide | omega) ?_
        refine x_putI (np := 31) (x := 734) (f := 30) (by decide +kernel) (by decide +kernel) (by first | decide | omega) (Or.inl (by decide)) ?_
        have j4918 := jU (e := 30) (v := (1 + (h3898 75 30))) 0 j3901 rg_75_30_0_1 (by first | decide | omega) (by first | decide | omega) (by first | decide | omega)
        have f4920 := jF (e := 30) (v := (1 + (h3898 75 30))) 0 f4911 rg_75_30_0_1 (by first | decide | omega) (by first | decide | omega) (by decide)
        have f4921 := jF (e := 30) (v := (1 + (h3898 75 30))) 0 f3900 rg_75_30_0_1 (by first | decide | omega) (by first | decide | omega) (by decide)
        generalize e4919 : x_up h3898 75 30 (1 + (h3898 75 30)) = h4917 at j4918 f4920 f4921 ⊢
        refine x_aload (np := 32) (x := 0) (by decide +kernel) rfl (x_nc_le (by decide)) ?_
        have q4922 : h4917 75 30 = (1 + (h3898 75 30)) := by rw [← e4919]; exact x_up_at
        refine x_getC (np := 35) (x := 734) (f := 30) (q := (1 + (h3898 75 30))) (by decide +kernel) (by decide) (by decide +kernel) q4922 (fun l4923 => ?_)
        refine x_const (np := 38) (x := 9223457938348199456) (a := 2147503648) (by decide +kernel) (by decide) (by decide) ?_
        refine x_icmp (k := 5) (tg := 43) (np := 41) (by decide +kernel) (by decide) (by first | decide | omega) (by decide) (fun q4924 => ?_) (fun q4925 => ?_)
        · have q4924 : (1 + (h3898 75 30)) ≤ 2147503648 := q4924
          refine x_aload (np := 44) (x := 0) (by decide +kernel) rfl (x_nc_le (by decide)) ?_
          refine x_iload (np := 45) (x := 2) (by decide +kernel) rfl (by decide) ?_
          refine x_cI (t := 6) (mj := 254) (n := 2) (rc := 12) (ml := 4) (nr := 0) (np := 48) (as := [x_r 75, iv_c 2147483651]) (rest := []) (lo1 := [x_r 75, iv_c 2147483651, 147573952589676412928, 147573952589676412928]) (by decide +kernel) (by decide) (by decide +kernel) (x_rb_of (by decide +kernel)) rfl rfl (x_wr (by decide) (x_wi (by decide) x_wn)) x_wn (by decide) rfl (c254_75 j4918  (by first | decide | omega)) (fun v4926 h4929 l4927 q4928 => ?_)
          obtain ⟨j4930, f4931, b4932⟩ := q4928
          have f4933 := Fr.trans f4920 f4931 (by decide)
          have f4934 := Fr.trans f4921 f4931 (by decide)
          refine x_istore (np := 49) (x := 3) (lo' := [x_r 75, iv_c 2147483653, iv_c 2147483651, iv_c v4926, iv_c 2147483649, w3897]) (by decide +kernel) l4927 (Nat.le_of_ble_eq_true rfl) rfl ?_
          refine x_iload (np := 50) (x := 3) (by decide +kernel) rfl l4927 ?_
          refine x_const (np := 51) (x := 9223372043297226753) (a := 2147483649) (by decide +kernel) (by decide) (by decide) ?_
          refine x_icmp (k := 1) (tg := 85) (np := 54) (by decide +kernel) (by decide) l4927 (by decide) (fun q4935 => ?_) (fun q4936 => ?_)
          · have q4935 : v4926 ≠ 2147483649 := q4935
            refine x_iload (np := 86) (x := 3) (by decide +kernel) rfl l4927 ?_
            refine x_const (np := 87) (x := 9223372043297226753) (a := 2147483649) (by decide +kernel) (by decide) (by decide) ?_
            refine x_icmp (k := 0) (tg := 95) (np := 90) (by decide +kernel) (by decide) l4927 (by decide) (fun q4937 => ?_) (fun q4938 => ?_)
            · have q4937 : v4926 = 2147483649 := q4937
              exfalso; omega
            have q4938 : ¬ (v4926 = 2147483649) := q4938
            refine x_iload (np := 91) (x := 2) (by decide +kernel) rfl (by decide) ?_
            refine x_iload (np := 92) (x := 1) (by decide +kernel) rfl (by decide) ?_
            refine x_icmp (k := 1) (tg := 102) (np := 95) (by decide +kernel) (by decide) (by decide) (by decide) (fun q4939 => ?_) (fun q4940 => ?_)
            · have q4939 : 2147483651 ≠ 2147483653 := q4939
              refine x_aload (np := 103) (x := 0) (by decide +kernel) rfl (x_nc_le (by decide)) ?_
              have q4941 : h4929 75 27 = 93 := by have z := jB (e := 27) 0 j4930 rg_75_27_0_1 (by decide) (by decide); omega
              refine x_getR (np := 106) (x := 731) (f := 27) (q := 93) (by decide +kernel) (by decide) (by decide +kernel) q4941 ?_
              refine x_iload (np := 107) (x := 2) (by decide +kernel) rfl (by decide) ?_
              have b4942 := jB (e := 3) 3 j4930 rg_93_0_1_6 (by first | decide | omega) (by first | decide | omega)
              refine x_aldC (np := 108) (x := 0) (n := 6) (i := 3) (q := (h4929 93 3)) (by decide +kernel) (by decide +kernel) (by first | decide | omega) (by first | decide | omega) (by decide) rfl (fun l4943 => ?_)
              refine x_ifz (k := 2) (tg := 122) (np := 111) (by decide +kernel) (by decide) l4943 (fun q4944 => ?_) (fun q4945 => ?_)
              · have q4944 : (h4929 93 3) < 2147483648 := q4944
                refine x_aload (np := 123) (x := 0) (by decide +kernel) rfl (x_nc_le (by decide)) ?_
                have q4946 : h4929 75 28 = 94 := by have z := jB (e := 28) 0 j4930 rg_75_28_0_1 (by decide) (by decide); omega
                refine x_getR (np := 126) (x := 732) (f := 28) (q := 94) (by decide +kernel) (by decide) (by decide +kernel) q4946 ?_
                refine x_iload (np := 127) (x := 2) (by decide +kernel) rfl (by decide) ?_
                have b4947 := jB (e := 3) 3 j4930 rg_94_0_1_6 (by first | decide | omega) (by first | decide | omega)
                refine x_aldC (np := 128) (x := 0) (n := 6) (i := 3) (q := (h4929 94 3)) (by decide +kernel) (by decide +kernel) (by first | decide | omega) (by first | decide | omega) (by decide) rfl (fun l4948 => ?_)
                refine x_ifz (k := 3) (tg := 135) (np := 131) (by decide +kernel) (by decide) l4948 (fun q4949 => ?_) (fun q4950 => ?_)
                · have q4949 : 2147483648 ≤ (h4929 94 3) := q4949
                  refine x_aload (np := 136) (x := 0) (by decide +kernel) rfl (x_nc_le (by decide)) ?_
                  refine x_iload (np := 137) (x := 2) (by decide +kernel) rfl (by decide) ?_
                  refine x_cP (t := 6) (mj := 257) (n := 2) (rc := 12) (ml := 3) (nr := 0) (np := 140) (as := [x_r 75, iv_c 2147483651]) (rest := []) (lo1 := [x_r 75, iv_c 2147483651, 147573952589676412928]) (by decide +kernel) (by decide) (by decide +kernel) (x_rb_of (by decide +kernel)) rfl rfl (x_wr (by decide) (x_wi (by decide) x_wn)) x_wn (by decide) rfl (c257_75_c3 j4930   (by first | decide | omega)) (fun v4951 l4952 q4953 => ?_)
                  refine x_istore (np := 142) (x := 5) (lo' := [x_r 75, iv_c 2147483653, iv_c 2147483651, iv_c v4926, iv_c 2147483649, iv_c v4951]) (by decide +kernel) l4952 (Nat.le_of_ble_eq_true rfl) rfl ?_
                  refine x_iload (np := 144) (x := 5) (by decide +kernel) rfl l4952 ?_
                  refine x_ifz (k := 2) (tg := 151) (np := 147) (by decide +kernel) (by decide) l4952 (fun q4954 => ?_) (fun q4955 => ?_)
                  · have q4954 : v4951 < 2147483648 := q4954
                    refine x_const (np := 152) (x := 9223372039002259456) (a := 2147483648) (by decide +kernel) (by decide) (by decide) ?_
                    refine x_istore (np := 154) (x := 4) (lo' := [x_r 75, iv_c 2147483653, iv_c 2147483651, iv_c v4926, iv_c 2147483648, iv_c v4951]) (by decide +kernel) (by decide) (Nat.le_of_ble_eq_true rfl) rfl ?_
                    refine x_iload (np := 156) (x := 4) (by decide +kernel) rfl (by decide) ?_
                    refine x_ifz (k := 0) (tg := 180) (np := 159) (by decide +kernel) (by decide) (by decide) (fun q4956 => ?_) (fun q4957 => ?_)
                    · have q4956 : 2147483648 = 2147483648 := q4956
                      refine x_iinc (np := 183) (i := 2) (j := 2147483647) (v := 2147483650) (lo' := [x_r 75, iv_c 2147483653, iv_c 2147483650, iv_c v4926, iv_c 2147483648, iv_c v4951]) (by decide +kernel) (by decide) (by decide) rfl (by decide) (by first | decide | omega) (by first | decide | omega) rfl ?_
                      refine x_goto (np := 186) (x := 12) (by decide +kernel) ?_
                      have q4958 : h4929 75 30 = h4917 75 30 := jK 0 f4931 rg_75_30_0_1 (by first | decide | omega) (by first | decide | omega) (by decide)
                      have q4959 : h4917 75 30 = (1 + (h3898 75 30)) := by rw [← e4919]; exact x_up_at
                      exact i3959 (iv_c v4926) (iv_c v4951) h4929 (by first | decide | omega) j4930 f4934 (by first | decide | omega)
                    have q4957 : ¬ (2147483648 = 2147483648) := q4957
                    exfalso; omega
                  have q4955 : ¬ (v4951 < 2147483648) := q4955
                  refine x_const (np := 148) (x := 9223372043297226753) (a := 2147483649) (by decide +kernel) (by decide) (by decide) ?_
                  refine x_goto (np := 151) (x := 152) (by decide +kernel) ?_
                  refine x_istore (np := 154) (x := 4) (lo' := [x_r 75, iv_c 2147483653, iv_c 2147483651, iv_c v4926, iv_c 2147483649, iv_c v4951]) (by decide +kernel) (by decide) (Nat.le_of_ble_eq_true rfl) rfl ?_
                  refine x_iload (np := 156) (x := 4) (by decide +kernel) rfl (by decide) ?_
                  refine x_ifz (k := 0) (tg := 180) (np := 159) (by decide +kernel) (by decide) (by decide) (fun q4960 => ?_) (fun q4961 => ?_)
                  · have q4960 : 2147483649 = 2147483648 := q4960
                    exfalso; omega
                  have q4961 : ¬ (2147483649 = 2147483648) := q4961
                  refine x_aload (np := 160) (x := 0) (by decide +kernel) rfl (x_nc_le (by decide)) ?_
                  have q4962 : h4929 75 27 = 93 := by have z := jB (e := 27) 0 j4930 rg_75_27_0_1 (by decide) (by decide); omega
                  refine x_getR (np := 163) (x := 731) (f := 27) (q := 93) (by decide +kernel) (by decide) (by decide +kernel) q4962 ?_
                  refine x_iload (np := 164) (x := 2) (by decide +kernel) rfl (by decide) ?_
                  refine x_iload (np := 166) (x := 5) (by decide +kernel) rfl l4952 ?_
                  refine x_ast (np := 167) (x := 0) (kd := 1) (n := 6) (i := 3) (by decide +kernel) (Or.inl rfl) (by decide +kernel) (by first | decide | omega) (by first | decide | omega) (by decide) l4952 (fun z => absurd z (by decide)) ?_
                  have j4964 := jU (e := 3) (v := v4951) 3 j4930 rg_93_0_1_6 (by first | decide | omega) (by first | decide | omega) (by first | decide | omega)
                  have f4966 := jF (e := 3) (v := v4951) 3 f4933 rg_93_0_1_6 (by first | decide | omega) (by first | decide | omega) (by decide)
                  have f4967 := jF (e := 3) (v := v4951) 3 f4934 rg_93_0_1_6 (by first | decide | omega) (by first | decide | omega) (by decide)
                  generalize e4965 : x_up h4929 93 3 v4951 = h4963 at j4964 f4966 f4967 ⊢
                  refine x_aload (np := 168) (x := 0) (by decide +kernel) rfl (x_nc_le (by decide)) ?_
                  refine x_iload (np := 170) (x := 5) (by decide +kernel) rfl l4952 ?_
                  refine x_const (np := 171) (x := 9223372043297226753) (a := 2147483649) (by decide +kernel) (by decide) (by decide) ?_
                  refine x_cV (t := 6) (mj := 248) (n := 3) (rc := 12) (ml := 4) (nr := 0) (np := 174) (as := [x_r 75, iv_c v4951, iv_c 2147483649]) (rest := []) (lo1 := [x_r 75, iv_c v4951, iv_c 2147483649, 147573952589676412928]) (by decide +kernel) (by decide) (by decide +kernel) (x_rb_of (by decide +kernel)) rfl rfl (x_wr (by decide) (x_wi l4952 (x_wi (by decide) x_wn))) x_wn (by decide) rfl (c248_75 j4964  (by first | decide | omega) (by first | decide | omega)) (fun h4971 q4970 => ?_)
                  obtain ⟨j4972, f4973⟩ := q4970
                  have f4976 := Fr.trans f4966 f4973 (by decide)
                  have f4977 := Fr.trans f4967 f4973 (by decide)
                  refine x_iinc (np := 177) (i := 2) (j := 2147483649) (v := 2147483652) (lo' := [x_r 75, iv_c 2147483653, iv_c 2147483652, iv_c v4926, iv_c 2147483649, iv_c v4951]) (by decide +kernel) (by decide) (by decide) rfl (by decide) (by first | decide | omega) (by first | decide | omega) rfl ?_
                  refine x_goto (np := 180) (x := 183) (by decide +kernel) ?_
                  refine x_goto (np := 186) (x := 12) (by decide +kernel) ?_
                  have q4978 : h4971 75 30 = h4963 75 30 := jK 0 f4973 rg_75_30_0_1 (by first | decide | omega) (by first | decide | omega) (by decide)
                  have q4979 : h4963 75 30 = h4929 75 30 := by rw [← e4965]; exact x_up_k (by decide)
                  have q4980 : h4929 75 30 = h4917 75 30 := jK 0 f4931 rg_75_30_0_1 (by first | decide | omega) (by first | decide | omega) (by decide)
                  have q4981 : h4917 75 30 = (1 + (h3898 75 30)) := by rw [← e4919]; exact x_up_at
                  exact i3954 (iv_c v4926) (iv_c v4951) h4971 (by first | decide | omega) j4972 f4977 (by first | decide | omega)
                have q4950 : ¬ (2147483648 ≤ (h4929 94 3)) := q4950
                refine x_const (np := 132) (x := 9223372034707292159) (a := 2147483647) (by decide +kernel) (by decide) (by decide) ?_
                refine x_goto (np := 135) (x := 140) (by decide +kernel) ?_
                refine x_istore (np := 142) (x := 5) (lo' := [x_r 75, iv_c 2147483653, iv_c 2147483651, iv_c v4926, iv_c 2147483649, iv_c 2147483647]) (by decide +kernel) (by decide) (Nat.le_of_ble_eq_true rfl) rfl ?_
                refine x_iload (np := 144) (x := 5) (by decide +kernel) rfl (by decide) ?_
                refine x_ifz (k := 2) (tg := 151) (np := 147) (by decide +kernel) (by decide) (by decide) (fun q4982 => ?_) (fun q4983 => ?_)
                · have q4982 : 2147483647 < 2147483648 := q4982
                  refine x_const (np := 152) (x := 9223372039002259456) (a := 2147483648) (by decide +kernel) (by decide) (by decide) ?_
                  refine x_istore (np := 154) (x := 4) (lo' := [x_r 75, iv_c 2147483653, iv_c 2147483651, iv_c v4926, iv_c 2147483648, iv_c 2147483647]) (by decide +kernel) (by decide) (Nat.le_of_ble_eq_true rfl) rfl ?_
                  refine x_iload (np := 156) (x := 4) (by decide +kernel) rfl (by decide) ?_
                  refine x_ifz (k := 0) (tg := 180) (np := 159) (by decide +kernel) (by decide) (by decide) (fun q4984 => ?_) (fun q4985 => ?_)
                  · have q4984 : 2147483648 = 2147483648 := q4984
                    refine x_iinc (np := 183) (i := 2) (j := 2147483647) (v := 2147483650) (lo' := [x_r 75, iv_c 2147483653, iv_c 2147483650, iv_c v4926, iv_c 2147483648, iv_c 2147483647]) (by decide +kernel) (by decide) (by decide) rfl (by decide) (by first | decide | omega) (by first | decide | omega) rfl ?_
                    refine x_goto (np := 186) (x := 12) (by decide +kernel) ?_
                    have q4986 : h4929 75 30 = h4917 75 30 := jK 0 f4931 rg_75_30_0_1 (by first | decide | omega) (by first | decide | omega) (by decide)
                    have q4987 : h4917 75 30 = (1 + (h3898 75 30)) := by rw [← e4919]; exact x_up_at
                    exact i3959 (iv_c v4926) (iv_c 2147483647) h4929 (by first | decide | omega) j4930 f4934 (by first | decide | omega)
                  have q4985 : ¬ (2147483648 = 2147483648) := q4985
                  exfalso; omega
                have q4983 : ¬ (2147483647 < 2147483648) := q4983
                exfalso; omega
              have q4945 : ¬ ((h4929 93 3) < 2147483648) := q4945
              refine x_aload (np := 112) (x := 0) (by decide +kernel) rfl (x_nc_le (by decide)) ?_
              refine x_aload (np := 113) (x := 0) (by decide +kernel) rfl (x_nc_le (by decide)) ?_
              have q4988 : h4929 75 27 = 93 := by have z := jB (e := 27) 0 j4930 rg_75_27_0_1 (by decide) (by decide); omega
              refine x_getR (np := 116) (x := 731) (f := 27) (q := 93) (by decide +kernel) (by decide) (by decide +kernel) q4988 ?_
              refine x_iload (np := 117) (x := 2) (by decide +kernel) rfl (by decide) ?_
              refine x_aldC (np := 118) (x := 0) (n := 6) (i := 3) (q := (h4929 93 3)) (by decide +kernel) (by decide +kernel) (by first | decide | omega) (by first | decide | omega) (by decide) rfl (fun l4989 => ?_)
              refine x_const (np := 119) (x := 9223372039002259456) (a := 2147483648) (by decide +kernel) (by decide) (by decide) ?_
              refine x_cV (t := 6) (mj := 248) (n := 3) (rc := 12) (ml := 4) (nr := 0) (np := 122) (as := [x_r 75, iv_c (h4929 93 3), iv_c 2147483648]) (rest := []) (lo1 := [x_r 75, iv_c (h4929 93 3), iv_c 2147483648, 147573952589676412928]) (by decide +kernel) (by decide) (by decide +kernel) (x_rb_of (by decide +kernel)) rfl rfl (x_wr (by decide) (x_wi l4943 (x_wi (by decide) x_wn))) x_wn (by decide) rfl (c248_75 j4930  (by first | decide | omega) (by first | decide | omega)) (fun h4993 q4992 => ?_)
              obtain ⟨j4994, f4995⟩ := q4992
              have f4998 := Fr.trans f4933 f4995 (by decide)
              have f4999 := Fr.trans f4934 f4995 (by decide)
              refine x_aload (np := 123) (x := 0) (by decide +kernel) rfl (x_nc_le (by decide)) ?_
              have q5000 : h4993 75 28 = 94 := by have z := jB (e := 28) 0 j4994 rg_75_28_0_1 (by decide) (by decide); omega
              refine x_getR (np := 126) (x := 732) (f := 28) (q := 94) (by decide +kernel) (by decide) (by decide +kernel) q5000 ?_
              refine x_iload (np := 127) (x := 2) (by decide +kernel) rfl (by decide) ?_
              have q5001 : h4993 94 3 = h4929 94 3 := jK 3 f4995 rg_94_0_1_6 (by first | decide | omega) (by first | decide | omega) (by decide)
              have b5002 := jB (e := 3) 3 j4930 rg_94_0_1_6 (by first | decide | omega) (by first | decide | omega)
              refine x_aldC (np := 128) (x := 0) (n := 6) (i := 3) (q := (h4929 94 3)) (by decide +kernel) (by decide +kernel) (by first | decide | omega) (by first | decide | omega) (by decide) q5001 (fun l5003 => ?_)
              refine x_ifz (k := 3) (tg := 135) (np := 131) (by decide +kernel) (by decide) l5003 (fun q5004 => ?_) (fun q5005 => ?_)
              · have q5004 : 2147483648 ≤ (h4929 94 3) := q5004
                refine x_aload (np := 136) (x := 0) (by decide +kernel) rfl (x_nc_le (by decide)) ?_
                refine x_iload (np := 137) (x := 2) (by decide +kernel) rfl (by decide) ?_
                have q5006 : h4993 94 3 = h4929 94 3 := jK 3 f4995 rg_94_0_1_6 (by first | decide | omega) (by first | decide | omega) (by decide)
                refine x_cP (t := 6) (mj := 257) (n := 2) (rc := 12) (ml := 3) (nr := 0) (np := 140) (as := [x_r 75, iv_c 2147483651]) (rest := []) (lo1 := [x_r 75, iv_c 2147483651, 147573952589676412928]) (by decide +kernel) (by decide) (by decide +kernel) (x_rb_of (by decide +kernel)) rfl rfl (x_wr (by decide) (x_wi (by decide) x_wn)) x_wn (by decide) rfl (c257_75_c3 j4994   (by first | decide | omega)) (fun v5007 l5008 q5009 => ?_)
                refine x_istore (np := 142) (x := 5) (lo' := [x_r 75, iv_c 2147483653, iv_c 2147483651, iv_c v4926, iv_c 2147483649, iv_c v5007]) (by decide +kernel) l5008 (Nat.le_of_ble_eq_true rfl) rfl ?_
                refine x_iload (np := 144) (x := 5) (by decide +kernel) rfl l5008 ?_
                refine x_ifz (k := 2) (tg := 151) (np := 147) (by decide +kernel) (by decide) l5008 (fun q5010 => ?_) (fun q5011 => ?_)
                · have q5010 : v5007 < 2147483648 := q5010
                  refine x_const (np := 152) (x := 9223372039002259456) (a := 2147483648) (by decide +kernel) (by decide) (by decide) ?_
                  refine x_istore (np := 154) (x := 4) (lo' := [x_r 75, iv_c 2147483653, iv_c 2147483651, iv_c v4926, iv_c 2147483648, iv_c v5007]) (by decide +kernel) (by decide) (Nat.le_of_ble_eq_true rfl) rfl ?_
                  refine x_iload (np := 156) (x := 4) (by decide +kernel) rfl (by decide) ?_
                  refine x_ifz (k := 0) (tg := 180) (np := 159) (by decide +kernel) (by decide) (by decide) (fun q5012 => ?_) (fun q5013 => ?_)
                  · have q5012 : 2147483648 = 2147483648 := q5012
                    refine x_iinc (np := 183) (i := 2) (j := 2147483647) (v := 2147483650) (lo' := [x_r 75, iv_c 2147483653, iv_c 2147483650, iv_c v4926, iv_c 2147483648, iv_c v5007]) (by decide +kernel) (by decide) (by decide) rfl (by decide) (by first | decide | omega) (by first | decide | omega) rfl ?_
                    refine x_goto (np := 186) (x := 12) (by decide +kernel) ?_
                    have q5014 : h4993 75 30 = h4929 75 30 := jK 0 f4995 rg_75_30_0_1 (by first | decide | omega) (by first | decide | omega) (by decide)
                    have q5015 : h4929 75 30 = h4917 75 30 := jK 0 f4931 rg_75_30_0_1 (by first | decide | omega) (by first | decide | omega) (by decide)
                    have q5016 : h4917 75 30 = (1 + (h3898 75 30)) := by rw [← e4919]; exact x_up_at
                    exact i3959 (iv_c v4926) (iv_c v5007) h4993 (by first | decide | omega) j4994 f4999 (by first | decide | omega)
                  have q5013 : ¬ (2147483648 = 2147483648) := q5013
                  exfalso; omega
                have q5011 : ¬ (v5007 < 2147483648) := q5011
                refine x_const (np := 148) (x := 9223372043297226753) (a := 2147483649) (by decide +kernel) (by decide) (by decide) ?_
                refine x_goto (np := 151) (x := 152) (by decide +kernel) ?_
                refine x_istore (np := 154) (x := 4) (lo' := [x_r 75, iv_c 2147483653, iv_c 2147483651, iv_c v4926, iv_c 2147483649, iv_c v5007]) (by decide +kernel) (by decide) (Nat.le_of_ble_eq_true rfl) rfl ?_
                refine x_iload (np := 156) (x := 4) (by decide +kernel) rfl (by decide) ?_
                refine x_ifz (k := 0) (tg := 180) (np := 159) (by decide +kernel) (by decide) (by decide) (fun q5017 => ?_) (fun q5018 => ?_)
                · have q5017 : 2147483649 = 2147483648 := q5017
                  exfalso; omega
                have q5018 : ¬ (2147483649 = 2147483648) := q5018
                refine x_aload (np := 160) (x := 0) (by decide +kernel) rfl (x_nc_le (by decide)) ?_
                have q5019 : h4993 75 27 = 93 := by have z := jB (e := 27) 0 j4994 rg_75_27_0_1 (by decide) (by decide); omega
                refine x_getR (np := 163) (x := 731) (f := 27) (q := 93) (by decide +kernel) (by decide) (by decide +kernel) q5019 ?_
                refine x_iload (np := 164) (x := 2) (by decide +kernel) rfl (by decide) ?_
                refine x_iload (np := 166) (x := 5) (by decide +kernel) rfl l5008 ?_
                refine x_ast (np := 167) (x := 0) (kd := 1) (n := 6) (i := 3) (by decide +kernel) (Or.inl rfl) (by decide +kernel) (by first | decide | omega) (by first | decide | omega) (by decide) l5008 (fun z => absurd z (by decide)) ?_
                have j5021 := jU (e := 3) (v := v5007) 3 j4994 rg_93_0_1_6 (by first | decide | omega) (by first | decide | omega) (by first | decide | omega)
                have f5023 := jF (e := 3) (v := v5007) 3 f4998 rg_93_0_1_6 (by first | decide | omega) (by first | decide | omega) (by decide)
                have f5024 := jF (e := 3) (v := v5007) 3 f4999 rg_93_0_1_6 (by first | decide | omega) (by first | decide | omega) (by decide)
                generalize e5022 : x_up h4993 93 3 v5007 = h5020 at j5021 f5023 f5024 ⊢
                refine x_aload (np := 168) (x := 0) (by decide +kernel) rfl (x_nc_le (by decide)) ?_
                refine x_iload (np := 170) (x := 5) (by decide +kernel) rfl l5008 ?_
                refine x_const (np := 171) (x := 9223372043297226753) (a := 2147483649) (by decide +kernel) (by decide) (by decide) ?_
                refine x_cV (t := 6) (mj := 248) (n := 3) (rc := 12) (ml := 4) (nr := 0) (np := 174) (as := [x_r 75, iv_c v5007, iv_c 2147483649]) (rest := []) (lo1 := [x_r 75, iv_c v5007, iv_c 2147483649, 147573952589676412928]) (by decide +kernel) (by decide) (by decide +kernel) (x_rb_of (by decide +kernel)) rfl rfl (x_wr (by decide) (x_wi l5008 (x_wi (by decide) x_wn))) x_wn (by decide) rfl (c248_75 j5021  (by first | decide | omega) (by first | decide | omega)) (fun h5028 q5027 => ?_)
                obtain ⟨j5029, f5030⟩ := q5027
                have f5033 := Fr.trans f5023 f5030 (by decide)
                have f5034 := Fr.trans f5024 f5030 (by decide)
                refine x_iinc (np := 177) (i := 2) (j := 2147483649) (v := 2147483652) (lo' := [x_r 75, iv_c 2147483653, iv_c 2147483652, iv_c v4926, iv_c 2147483649, iv_c v5007]) (by decide +kernel) (by decide) (by decide) rfl (by decide) (by first | decide | omega) (by first | decide | omega) rfl ?_
                refine x_goto (np := 180) (x := 183) (by decide +kernel) ?_
                refine x_goto (np := 186) (x := 12) (by decide +kernel) ?_
                have q5035 : h5028 75 30 = h5020 75 30 := jK 0 f5030 rg_75_30_0_1 (by first | decide | omega) (by first | decide | omega) (by decide)
                have q5036 : h5020 75 30 = h4993 75 30 := by rw [← e5022]; exact x_up_k (by decide)
                have q5037 : h4993 75 30 = h4929 75 30 := jK 0 f4995 rg_75_30_0_1 (by first | decide | omega) (by first | decide | omega) (by decide)
                have q5038 : h4929 75 30 = h4917 75 30 := jK 0 f4931 rg_75_30_0_1 (by first | decide | omega) (by first | decide | omega) (by decide)
                have q5039 : h4917 75 30 = (1 + (h3898 75 30)) := by rw [← e4919]; exact x_up_at
                exact i3954 (iv_c v4926) (iv_c v5007) h5028 (by first | decide | omega) j5029 f5034 (by first | decide | omega)
              have q5005 : ¬ (2147483648 ≤ (h4929 94 3)) := q5005
              refine x_const (np := 132) (x := 9223372034707292159) (a := 2147483647) (by decide +kernel) (by decide) (by decide) ?_
              refine x_goto (np := 135) (x := 140) (by decide +kernel) ?_
              refine x_istore (np := 142) (x := 5) (lo' := [x_r 75, iv_c 2147483653, iv_c 2147483651, iv_c v4926, iv_c 2147483649, iv_c 2147483647]) (by decide +kernel) (by decide) (Nat.le_of_ble_eq_true rfl) rfl ?_
              refine x_iload (np := 144) (x := 5) (by decide +kernel) rfl (by decide) ?_
              refine x_ifz (k := 2) (tg := 151) (np := 147) (by decide +kernel) (by decide) (by decide) (fun q5040 => ?_) (fun q5041 => ?_)
              · have q5040 : 2147483647 < 2147483648 := q5040
                refine x_const (np := 152) (x := 9223372039002259456) (a := 2147483648) (by decide +kernel) (by decide) (by decide) ?_
                refine x_istore (np := 154) (x := 4) (lo' := [x_r 75, iv_c 2147483653, iv_c 2147483651, iv_c v4926, iv_c 2147483648, iv_c 2147483647]) (by decide +kernel) (by decide) (Nat.le_of_ble_eq_true rfl) rfl ?_
                refine x_iload (np := 156) (x := 4) (by decide +kernel) rfl (by decide) ?_
                refine x_ifz (k := 0) (tg := 180) (np := 159) (by decide +kernel) (by decide) (by decide) (fun q5042 => ?_) (fun q5043 => ?_)
                · have q5042 : 2147483648 = 2147483648 := q5042
                  refine x_iinc (np := 183) (i := 2) (j := 2147483647) (v := 2147483650) (lo' := [x_r 75, iv_c 2147483653, iv_c 2147483650, iv_c v4926, iv_c 2147483648, iv_c 2147483647]) (by decide +kernel) (by decide) (by decide) rfl (by decide) (by first | decide | omega) (by first | decide | omega) rfl ?_
                  refine x_goto (np := 186) (x := 12) (by decide +kernel) ?_
                  have q5044 : h4993 75 30 = h4929 75 30 := jK 0 f4995 rg_75_30_0_1 (by first | decide | omega) (by first | decide | omega) (by decide)
                  have q5045 : h4929 75 30 = h4917 75 30 := jK 0 f4931 rg_75_30_0_1 (by first | decide | omega) (by first | decide | omega) (by decide)
                  have q5046 : h4917 75 30 = (1 + (h3898 75 30)) := by rw [← e4919]; exact x_up_at
                  exact i3959 (iv_c v4926) (iv_c 2147483647) h4993 (by first | decide | omega) j4994 f4999 (by first | decide | omega)
                have q5043 : ¬ (2147483648 = 2147483648) := q5043
                exfalso; omega
              have q5041 : ¬ (2147483647 < 2147483648) := q5041
              exfalso; omega
            have q4940 : ¬ (2147483651 ≠ 2147483653) := q4940
            exfalso; omega
          have q4936 : ¬ (v4926 ≠ 2147483649) := q4936
          refine x_aload (np := 55) (x := 0) (by decide +kernel) rfl (x_nc_le (by decide)) ?_
          have q5047 : h4929 75 34 = h4917 75 34 := jK 0 f4931 rg_75_34_0_1 (by first | decide | omega) (by first | decide | omega) (by decide)
          have q5048 : h4917 75 34 = h3898 75 34 := by rw [← e4919]; exact x_up_i (by first | decide | omega)
          refine x_getC (np := 58) (x := 738) (f := 34) (q := (h3898 75 34)) (by decide +kernel) (by decide) (by decide +kernel) (q5047.trans q5048) (fun l5049 => ?_)
          refine x_ifz (k := 1) (tg := 66) (np := 61) (by decide +kernel) (by decide) l5049 (fun q5050 => ?_) (fun q5051 => ?_)
          · have q5050 : (h3898 75 34) ≠ 2147483648 := q5050
            refine x_aload (np := 67) (x := 0) (by decide +kernel) rfl (x_nc_le (by decide)) ?_
            refine x_dup (np := 68) (x := 0) (by decide +kernel) (by have z := x_nc_le (k := 75) (by decide); unfold x_r; omega) ?_
            have q5052 : h4929 75 34 = h4917 75 34 := jK 0 f4931 rg_75_34_0_1 (by first | decide | omega) (by first | decide | omega) (by decide)
            have q5053 : h4917 75 34 = h3898 75 34 := by rw [← e4919]; exact x_up_i (by first | decide | omega)
            refine x_getC (np := 71) (x := 738) (f := 34) (q := (h3898 75 34)) (by decide +kernel) (by decide) (by decide +kernel) (q5052.trans q5053) (fun l5054 => ?_)
            refine x_const (np := 72) (x := 9223372043297226753) (a := 2147483649) (by decide +kernel) (by decide) (by decide) ?_
            refine x_addA (by rw [tb_b259]; decide +kernel) l5049 (by decide) (fun v5055 l5056 => ?_)
            refine x_putI (np := 76) (x := 738) (f := 34) (by decide +kernel) (by decide +kernel) l5056 (Or.inl (by decide)) ?_
            have j5058 := jU (e := 34) (v := v5055) 0 j4930 rg_75_34_0_1 (by first | decide | omega) (by first | decide | omega) (by first | decide | omega)
            have f5060 := jF (e := 34) (v := v5055) 0 f4933 rg_75_34_0_1 (by first | decide | omega) (by first | decide | omega) (by decide)
            have f5061 := jF (e := 34) (v := v5055) 0 f4934 rg_75_34_0_1 (by first | decide | omega) (by first | decide | omega) (by decide)
            generalize e5059 : x_up h4929 75 34 v5055 = h5057 at j5058 f5060 f5061 ⊢
            refine x_aload (np := 77) (x := 0) (by decide +kernel) rfl (x_nc_le (by decide)) ?_
            have q5062 : h5057 75 33 = h4929 75 33 := by rw [← e5059]; exact x_up_i (by first | decide | omega)
            have q5063 : h4929 75 33 = h4917 75 33 := jK 0 f4931 rg_75_33_0_1 (by first | decide | omega) (by first | decide | omega) (by decide)
            have q5064 : h4917 75 33 = h3898 75 33 := by rw [← e4919]; exact x_up_i (by first | decide | omega)
            have q5065 : h3898 75 33 = h2 75 33 := jK 0 f3900 rg_75_33_0_1 (by first | decide | omega) (by first | decide | omega) (by decide)
            have q5066 : h2 75 33 = h 75 33 := by rw [← e4]; exact x_up_i (by first | decide | omega)
            have b5067 := jB (e := 33) 0 hJ rg_75_33_0_1 (by first | decide | omega) (by first | decide | omega)
            refine x_getC (np := 80) (x := 737) (f := 33) (q := (h 75 33)) (by decide +kernel) (by decide) (by decide +kernel) ((((q5062.trans q5063).trans q5064).trans q5065).trans q5066) (fun l5068 => ?_)
            refine x_ifz (k := 0) (tg := 85) (np := 83) (by decide +kernel) (by decide) l5068 (fun q5069 => ?_) (fun q5070 => ?_)
            · have q5069 : (h 75 33) = 2147483648 := q5069
              refine x_iload (np := 86) (x := 3) (by decide +kernel) rfl l4927 ?_
              refine x_const (np := 87) (x := 9223372043297226753) (a := 2147483649) (by decide +kernel) (by decide) (by decide) ?_
              refine x_icmp (k := 0) (tg := 95) (np := 90) (by decide +kernel) (by decide) l4927 (by decide) (fun q5071 => ?_) (fun q5072 => ?_)
              · have q5071 : v4926 = 2147483649 := q5071
                refine x_aload (np := 96) (x := 0) (by decide +kernel) rfl (x_nc_le (by decide)) ?_
                have q5073 : h5057 75 28 = 94 := by have z := jB (e := 28) 0 j5058 rg_75_28_0_1 (by decide) (by decide); omega
                refine x_getR (np := 99) (x := 732) (f := 28) (q := 94) (by decide +kernel) (by decide) (by decide +kernel) q5073 ?_
                refine x_iload (np := 100) (x := 2) (by decide +kernel) rfl (by decide) ?_
                refine x_const (np := 101) (x := 9223372034707292159) (a := 2147483647) (by decide +kernel) (by decide) (by decide) ?_
                refine x_ast (np := 102) (x := 0) (kd := 1) (n := 6) (i := 3) (by decide +kernel) (Or.inl rfl) (by decide +kernel) (by first | decide | omega) (by first | decide | omega) (by decide) (by decide) (fun z => absurd z (by decide)) ?_
                have j5075 := jU (e := 3) (v := 2147483647) 3 j5058 rg_94_0_1_6 (by first | decide | omega) (by first | decide | omega) (by first | decide | omega)
                have f5077 := jF (e := 3) (v := 2147483647) 3 f5060 rg_94_0_1_6 (by first | decide | omega) (by first | decide | omega) (by decide)
                have f5078 := jF (e := 3) (v := 2147483647) 3 f5061 rg_94_0_1_6 (by first | decide | omega) (by first | decide | omega) (by decide)
                generalize e5076 : x_up h5057 94 3 2147483647 = h5074 at j5075 f5077 f5078 ⊢
                refine x_aload (np := 103) (x := 0) (by decide +kernel) rfl (x_nc_le (by decide)) ?_
                have q5079 : h5074 75 27 = 93 := by have z := jB (e := 27) 0 j5075 rg_75_27_0_1 (by decide) (by decide); omega
                refine x_getR (np := 106) (x := 731) (f := 27) (q := 93) (by decide +kernel) (by decide) (by decide +kernel) q5079 ?_
                refine x_iload (np := 107) (x := 2) (by decide +kernel) rfl (by decide) ?_
                have q5080 : h5074 93 3 = h5057 93 3 := by rw [← e5076]; exact x_up_k (by decide)
                have q5081 : h5057 93 3 = h4929 93 3 := by rw [← e5059]; exact x_up_k (by decide)
                have b5082 := jB (e := 3) 3 j4930 rg_93_0_1_6 (by first | decide | omega) (by first | decide | omega)
                refine x_aldC (np := 108) (x := 0) (n := 6) (i := 3) (q := (h4929 93 3)) (by decide +kernel) (by decide +kernel) (by first | decide | omega) (by first | decide | omega) (by decide) (q5080.trans q5081) (fun l5083 => ?_)
                refine x_ifz (k := 2) (tg := 122) (np := 111) (by decide +kernel) (by decide) l5083 (fun q5084 => ?_) (fun q5085 => ?_)
                · have q5084 : (h4929 93 3) < 2147483648 := q5084
                  refine x_aload (np := 123) (x := 0) (by decide +kernel) rfl (x_nc_le (by decide)) ?_
                  have q5086 : h5074 75 28 = 94 := by have z := jB (e := 28) 0 j5075 rg_75_28_0_1 (by decide) (by decide); omega
                  refine x_getR (np := 126) (x := 732) (f := 28) (q := 94) (by decide +kernel) (by decide) (by decide +kernel) q5086 ?_
                  refine x_iload (np := 127) (x := 2) (by decide +kernel) rfl (by decide) ?_
                  have q5087 : h5074 94 3 = 2147483647 := by rw [← e5076]; exact x_up_at
                  refine x_aldC (np := 128) (x := 0) (n := 6) (i := 3) (q := 2147483647) (by decide +kernel) (by decide +kernel) (by first | decide | omega) (by first | decide | omega) (by decide) q5087 (fun l5088 => ?_)
                  refine x_ifz (k := 3) (tg := 135) (np := 131) (by decide +kernel) (by decide) (by decide) (fun q5089 => ?_) (fun q5090 => ?_)
                  · have q5089 : 2147483648 ≤ 2147483647 := q5089
                    exfalso; omega
                  have q5090 : ¬ (2147483648 ≤ 2147483647) := q5090
                  refine x_const (np := 132) (x := 9223372034707292159) (a := 2147483647) (by decide +kernel) (by decide) (by decide) ?_
                  refine x_goto (np := 135) (x := 140) (by decide +kernel) ?_
                  refine x_istore (np := 142) (x := 5) (lo' := [x_r 75, iv_c 2147483653, iv_c 2147483651, iv_c v4926, iv_c 2147483649, iv_c 2147483647]) (by decide +kernel) (by decide) (Nat.le_of_ble_eq_true rfl) rfl ?_
                  refine x_iload (np := 144) (x := 5) (by decide +kernel) rfl (by decide) ?_
                  refine x_ifz (k := 2) (tg := 151) (np := 147) (by decide +kernel) (by decide) (by decide) (fun q5091 => ?_) (fun q5092 => ?_)
                  · have q5091 : 2147483647 < 2147483648 := q5091
                    refine x_const (np := 152) (x := 9223372039002259456) (a := 2147483648) (by decide +kernel) (by decide) (by decide) ?_
                    refine x_istore (np := 154) (x := 4) (lo' := [x_r 75, iv_c 2147483653, iv_c 2147483651, iv_c v4926, iv_c 2147483648, iv_c 2147483647]) (by decide +kernel) (by decide) (Nat.le_of_ble_eq_true rfl) rfl ?_
                    refine x_iload (np := 156) (x := 4) (by decide +kernel) rfl (by decide) ?_
                    refine x_ifz (k := 0) (tg := 180) (np := 159) (by decide +kernel) (by decide) (by decide) (fun q5093 => ?_) (fun q5094 => ?_)
                    · have q5093 : 2147483648 = 2147483648 := q5093
                      refine x_iinc (np := 183) (i := 2) (j := 2147483647) (v := 2147483650) (lo' := [x_r 75, iv_c 2147483653, iv_c 2147483650, iv_c v4926, iv_c 2147483648, iv_c 2147483647]) (by decide +kernel) (by decide) (by decide) rfl (by decide) (by first | decide | omega) (by first | decide | omega) rfl ?_
                      refine x_goto (np := 186) (x := 12) (by decide +kernel) ?_
                      have q5095 : h5074 75 30 = h5057 75 30 := by rw [← e5076]; exact x_up_k (by decide)
                      have q5096 : h5057 75 30 = h4929 75 30 := by rw [← e5059]; exact x_up_i (by first | decide | omega)
                      have q5097 : h4929 75 30 = h4917 75 30 := jK 0 f4931 rg_75_30_0_1 (by first | decide | omega) (by first | decide | omega) (by decide)
                      have q5098 : h4917 75 30 = (1 + (h3898 75 30)) := by rw [← e4919]; exact x_up_at
                      exact i3959 (iv_c v4926) (iv_c 2147483647) h5074 (by first | decide | omega) j5075 f5078 (by first | decide | omega)
                    have q5094 : ¬ (2147483648 = 2147483648) := q5094
                    exfalso; omega
                  have q5092 : ¬ (2147483647 < 2147483648) := q5092
                  exfalso; omega
                have q5085 : ¬ ((h4929 93 3) < 2147483648) := q5085
                refine x_aload (np := 112) (x := 0) (by decide +kernel) rfl (x_nc_le (by decide)) ?_
                refine x_aload (np := 113) (x := 0) (by decide +kernel) rfl (x_nc_le (by decide)) ?_
                have q5099 : h5074 75 27 = 93 := by have z := jB (e := 27) 0 j5075 rg_75_27_0_1 (by decide) (by decide); omega
                refine x_getR (np := 116) (x := 731) (f := 27) (q := 93) (by decide +kernel) (by decide) (by decide +kernel) q5099 ?_
                refine x_iload (np := 117) (x := 2) (by decide +kernel) rfl (by decide) ?_
                have q5100 : h5074 93 3 = h5057 93 3 := by rw [← e5076]; exact x_up_k (by decide)
                have q5101 : h5057 93 3 = h4929 93 3 := by rw [← e5059]; exact x_up_k (by decide)
                refine x_aldC (np := 118) (x := 0) (n := 6) (i := 3) (q := (h4929 93 3)) (by decide +kernel) (by decide +kernel) (by first | decide | omega) (by first | decide | omega) (by decide) (q5100.trans q5101) (fun l5102 => ?_)
                refine x_const (np := 119) (x := 9223372039002259456) (a := 2147483648) (by decide +kernel) (by decide) (by decide) ?_
                refine x_cV (t := 6) (mj := 248) (n := 3) (rc := 12) (ml := 4) (nr := 0) (np := 122) (as := [x_r 75, iv_c (h4929 93 3), iv_c 2147483648]) (rest := []) (lo1 := [x_r 75, iv_c (h4929 93 3), iv_c 2147483648, 147573952589676412928]) (by decide +kernel) (by decide) (by decide +kernel) (x_rb_of (by decide +kernel)) rfl rfl (x_wr (by decide) (x_wi l5083 (x_wi (by decide) x_wn))) x_wn (by decide) rfl (c248_75 j5075  (by first | decide | omega) (by first | decide | omega)) (fun h5106 q5105 => ?_)
                obtain ⟨j5107, f5108⟩ := q5105
                have f5111 := Fr.trans f5077 f5108 (by decide)
                have f5112 := Fr.trans f5078 f5108 (by decide)
                refine x_aload (np := 123) (x := 0) (by decide +kernel) rfl (x_nc_le (by decide)) ?_
                have q5113 : h5106 75 28 = 94 := by have z := jB (e := 28) 0 j5107 rg_75_28_0_1 (by decide) (by decide); omega
                refine x_getR (np := 126) (x := 732) (f := 28) (q := 94) (by decide +kernel) (by decide) (by decide +kernel) q5113 ?_
                refine x_iload (np := 127) (x := 2) (by decide +kernel) rfl (by decide) ?_
                have q5114 : h5106 94 3 = h5074 94 3 := jK 3 f5108 rg_94_0_1_6 (by first | decide | omega) (by first | decide | omega) (by decide)
                have q5115 : h5074 94 3 = 2147483647 := by rw [← e5076]; exact x_up_at
                refine x_aldC (np := 128) (x := 0) (n := 6) (i := 3) (q := 2147483647) (by decide +kernel) (by decide +kernel) (by first | decide | omega) (by first | decide | omega) (by decide) (q5114.trans q5115) (fun l5116 => ?_)
                refine x_ifz (k := 3) (tg := 135) (np := 131) (by decide +kernel) (by decide) (by decide) (fun q5117 => ?_) (fun q5118 => ?_)
                · have q5117 : 2147483648 ≤ 2147483647 := q5117
                  exfalso; omega
                have q5118 : ¬ (2147483648 ≤ 2147483647) := q5118
                refine x_const (np := 132) (x := 9223372034707292159) (a := 2147483647) (by decide +kernel) (by decide) (by decide) ?_
                refine x_goto (np := 135) (x := 140) (by decide +kernel) ?_
                refine x_istore (np := 142) (x := 5) (lo' := [x_r 75, iv_c 2147483653, iv_c 2147483651, iv_c v4926, iv_c 2147483649, iv_c 2147483647]) (by decide +kernel) (by decide) (Nat.le_of_ble_eq_true rfl) rfl ?_
                refine x_iload (np := 144) (x := 5) (by decide +kernel) rfl (by decide) ?_
                refine x_ifz (k := 2) (tg := 151) (np := 147) (by decide +kernel) (by decide) (by decide) (fun q5119 => ?_) (fun q5120 => ?_)
                · have q5119 : 2147483647 < 2147483648 := q5119
                  refine x_const (np := 152) (x := 9223372039002259456) (a := 2147483648) (by decide +kernel) (by decide) (by decide) ?_
                  refine x_istore (np := 154) (x := 4) (lo' := [x_r 75, iv_c 2147483653, iv_c 2147483651, iv_c v4926, iv_c 2147483648, iv_c 2147483647]) (by decide +kernel) (by decide) (Nat.le_of_ble_eq_true rfl) rfl ?_
                  refine x_iload (np := 156) (x := 4) (by decide +kernel) rfl (by decide) ?_
                  refine x_ifz (k := 0) (tg := 180) (np := 159) (by decide +kernel) (by decide) (by decide) (fun q5121 => ?_) (fun q5122 => ?_)
                  · have q5121 : 2147483648 = 2147483648 := q5121
                    refine x_iinc (np := 183) (i := 2) (j := 2147483647) (v := 2147483650) (lo' := [x_r 75, iv_c 2147483653, iv_c 2147483650, iv_c v4926, iv_c 2147483648, iv_c 2147483647]) (by decide +kernel) (by decide) (by decide) rfl (by decide) (by first | decide | omega) (by first | decide | omega) rfl ?_
                    refine x_goto (np := 186) (x := 12) (by decide +kernel) ?_
                    have q5123 : h5106 75 30 = h5074 75 30 := jK 0 f5108 rg_75_30_0_1 (by first | decide | omega) (by first | decide | omega) (by decide)
                    have q5124 : h5074 75 30 = h5057 75 30 := by rw [← e5076]; exact x_up_k (by decide)
                    have q5125 : h5057 75 30 = h4929 75 30 := by rw [← e5059]; exact x_up_i (by first | decide | omega)
                    have q5126 : h4929 75 30 = h4917 75 30 := jK 0 f4931 rg_75_30_0_1 (by first | decide | omega) (by first | decide | omega) (by decide)
                    have q5127 : h4917 75 30 = (1 + (h3898 75 30)) := by rw [← e4919]; exact x_up_at
                    exact i3959 (iv_c v4926) (iv_c 2147483647) h5106 (by first | decide | omega) j5107 f5112 (by first | decide | omega)
                  have q5122 : ¬ (2147483648 = 2147483648) := q5122
                  exfalso; omega
                have q5120 : ¬ (2147483647 < 2147483648) := q5120
                exfalso; omega
              have q5072 : ¬ (v4926 = 2147483649) := q5072
              exfalso; omega
            have q5070 : ¬ ((h 75 33) = 2147483648) := q5070
            refine x_const (np := 84) (x := 9223372043297226753) (a := 2147483649) (by decide +kernel) (by decide) (by decide) ?_
            have q5128 : h5057 75 30 = h4929 75 30 := by rw [← e5059]; exact x_up_i (by first | decide | omega)
            have q5129 : h4929 75 30 = h4917 75 30 := jK 0 f4931 rg_75_30_0_1 (by first | decide | omega) (by first | decide | omega) (by decide)
            have q5130 : h4917 75 30 = (1 + (h3898 75 30)) := by rw [← e4919]; exact x_up_at
            refine x_retI (np := 85) (x := 0) (by decide +kernel) (by decide) (Or.inr ⟨by decide +kernel, by first | decide | omega, by first | decide | omega⟩) ⟨_, rfl, (by decide), ?_⟩
            exact ⟨j5058, f5060, (by first | decide | omega), (fun z => by first | decide | omega)⟩
          have q5051 : ¬ ((h3898 75 34) ≠ 2147483648) := q5051
          refine x_aload (np := 62) (x := 0) (by decide +kernel) rfl (x_nc_le (by decide)) ?_
          refine x_iload (np := 63) (x := 2) (by decide +kernel) rfl (by decide) ?_
          refine x_cV (t := 6) (mj := 258) (n := 2) (rc := 12) (ml := 4) (nr := 0) (np := 66) (as := [x_r 75, iv_c 2147483651]) (rest := []) (lo1 := [x_r 75, iv_c 2147483651, 147573952589676412928, 147573952589676412928]) (by decide +kernel) (by decide) (by decide +kernel) (x_rb_of (by decide +kernel)) rfl rfl (x_wr (by decide) (x_wi (by decide) x_wn)) x_wn (by decide) rfl (c258_75 j4930  (by first | decide | omega)) (fun h5134 q5133 => ?_)
          obtain ⟨j5135, f5136⟩ := q5133
          have f5139 := Fr.trans f4933 f5136 (by decide)
          have f5140 := Fr.trans f4934 f5136 (by decide)
          refine x_aload (np := 67) (x := 0) (by decide +kernel) rfl (x_nc_le (by decide)) ?_
          refine x_dup (np := 68) (x := 0) (by decide +kernel) (by have z := x_nc_le (k := 75) (by decide); unfold x_r; omega) ?_
          have q5141 : h5134 75 34 = h4929 75 34 := jK 0 f5136 rg_75_34_0_1 (by first | decide | omega) (by first | decide | omega) (by decide)
          have q5142 : h4929 75 34 = h4917 75 34 := jK 0 f4931 rg_75_34_0_1 (by first | decide | omega) (by first | decide | omega) (by decide)
          have q5143 : h4917 75 34 = h3898 75 34 := by rw [← e4919]; exact x_up_i (by first | decide | omega)
          refine x_getC (np := 71) (x := 738) (f := 34) (q := (h3898 75 34)) (by decide +kernel) (by decide) (by decide +kernel) ((q5141.trans q5142).trans q5143) (fun l5144 => ?_)
          refine x_const (np := 72) (x := 9223372043297226753) (a := 2147483649) (by decide +kernel) (by decide) (by decide) ?_
          refine x_iadd (np := 73) (x := 0) (v := (1 + (h3898 75 34))) (by decide +kernel) l5049 (by decide) (by first | decide | omega) (by first | decide | omega) ?_
          refine x_putI (np := 76) (x := 738) (f := 34) (by decide +kernel) (by decide +kernel) (by first | decide | omega) (Or.inl (by decide)) ?_
          have j5146 := jU (e := 34) (v := (1 + (h3898 75 34))) 0 j5135 rg_75_34_0_1 (by first | decide | omega) (by first | decide | omega) (by first | decide | omega)
          have f5148 := jF (e := 34) (v := (1 + (h3898 75 34))) 0 f5139 rg_75_34_0_1 (by first | decide | omega) (by first | decide | omega) (by decide)
          have f5149 := jF (e := 34) (v := (1 + (h3898 75 34))) 0 f5140 rg_75_34_0_1 (by first | decide | omega) (by first | decide | omega) (by decide)
          generalize e5147 : x_up h5134 75 34 (1 + (h3898 75 34)) = h5145 at j5146 f5148 f5149 ⊢
          refine x_aload (np := 77) (x := 0) (by decide +kernel) rfl (x_nc_le (by decide)) ?_
          have q5150 : h5145 75 33 = h5134 75 33 := by rw [← e5147]; exact x_up_i (by first | decide | omega)
          have q5151 : h5134 75 33 = h4929 75 33 := jK 0 f5136 rg_75_33_0_1 (by first | decide | omega) (by first | decide | omega) (by decide)
          have q5152 : h4929 75 33 = h4917 75 33 := jK 0 f4931 rg_75_33_0_1 (by first | decide | omega) (by first | decide | omega) (by decide)
          have q5153 : h4917 75 33 = h3898 75 33 := by rw [← e4919]; exact x_up_i (by first | decide | omega)
          have q5154 : h3898 75 33 = h2 75 33 := jK 0 f3900 rg_75_33_0_1 (by first | decide | omega) (by first | decide | omega) (by decide)
          have q5155 : h2 75 33 = h 75 33 := by rw [← e4]; exact x_up_i (by first | decide | omega)
          have b5156 := jB (e := 33) 0 hJ rg_75_33_0_1 (by first | decide | omega) (by first | decide | omega)
          refine x_getC (np := 80) (x := 737) (f := 33) (q := (h 75 33)) (by decide +kernel) (by decide) (by decide +kernel) (((((q5150.trans q5151).trans q5152).trans q5153).trans q5154).trans q5155) (fun l5157 => ?_)
          refine x_ifz (k := 0) (tg := 85) (np := 83) (by decide +kernel) (by decide) l5157 (fun q5158 => ?_) (fun q5159 => ?_)
          · have q5158 : (h 75 33) = 2147483648 := q5158
            refine x_iload (np := 86) (x := 3) (by decide +kernel) rfl l4927 ?_
            refine x_const (np := 87) (x := 9223372043297226753) (a := 2147483649) (by decide +kernel) (by decide) (by decide) ?_
            refine x_icmp (k := 0) (tg := 95) (np := 90) (by decide +kernel) (by decide) l4927 (by decide) (fun q5160 => ?_) (fun q5161 => ?_)
            · have q5160 : v4926 = 2147483649 := q5160
              refine x_aload (np := 96) (x := 0) (by decide +kernel) rfl (x_nc_le (by decide)) ?_
              have q5162 : h5145 75 28 = 94 := by have z := jB (e := 28) 0 j5146 rg_75_28_0_1 (by decide) (by decide); omega
              refine x_getR (np := 99) (x := 732) (f := 28) (q := 94) (by decide +kernel) (by decide) (by decide +kernel) q5162 ?_
              refine x_iload (np := 100) (x := 2) (by decide +kernel) rfl (by decide) ?_
              refine x_const (np := 101) (x := 9223372034707292159) (a := 2147483647) (by decide +kernel) (by decide) (by decide) ?_
              refine x_ast (np := 102) (x := 0) (kd := 1) (n := 6) (i := 3) (by decide +kernel) (Or.inl rfl) (by decide +kernel) (by first | decide | omega) (by first | decide | omega) (by decide) (by decide) (fun z => absurd z (by decide)) ?_
              have j5164 := jU (e := 3) (v := 2147483647) 3 j5146 rg_94_0_1_6 (by first | decide | omega) (by first | decide | omega) (by first | decide | omega)
              have f5166 := jF (e := 3) (v := 2147483647) 3 f5148 rg_94_0_1_6 (by first | decide | omega) (by first | decide | omega) (by decide)
              have f5167 := jF (e := 3) (v := 2147483647) 3 f5149 rg_94_0_1_6 (by first | decide | omega) (by first | decide | omega) (by decide)
              generalize e5165 : x_up h5145 94 3 2147483647 = h5163 at j5164 f5166 f5167 ⊢
              refine x_aload (np := 103) (x := 0) (by decide +kernel) rfl (x_nc_le (by decide)) ?_
              have q5168 : h5163 75 27 = 93 := by have z := jB (e := 27) 0 j5164 rg_75_27_0_1 (by decide) (by decide); omega
              refine x_getR (np := 106) (x := 731) (f := 27) (q := 93) (by decide +kernel) (by decide) (by decide +kernel) q5168 ?_
              refine x_iload (np := 107) (x := 2) (by decide +kernel) rfl (by decide) ?_
              have q5169 : h5163 93 3 = h5145 93 3 := by rw [← e5165]; exact x_up_k (by decide)
              have q5170 : h5145 93 3 = h5134 93 3 := by rw [← e5147]; exact x_up_k (by decide)
              have q5171 : h5134 93 3 = h4929 93 3 := jK 3 f5136 rg_93_0_1_6 (by first | decide | omega) (by first | decide | omega) (by decide)
              have b5172 := jB (e := 3) 3 j4930 rg_93_0_1_6 (by first | decide | omega) (by first | decide | omega)
              refine x_aldC (np := 108) (x := 0) (n := 6) (i := 3) (q := (h4929 93 3)) (by decide +kernel) (by decide +kernel) (by first | decide | omega) (by first | decide | omega) (by decide) ((q5169.trans q5170).trans q5171) (fun l5173 => ?_)
              refine x_ifz (k := 2) (tg := 122) (np := 111) (by decide +kernel) (by decide) l5173 (fun q5174 => ?_) (fun q5175 => ?_)
              · have q5174 : (h4929 93 3) < 2147483648 := q5174
                refine x_aload (np := 123) (x := 0) (by decide +kernel) rfl (x_nc_le (by decide)) ?_
                have q5176 : h5163 75 28 = 94 := by have z := jB (e := 28) 0 j5164 rg_75_28_0_1 (by decide) (by decide); omega
                refine x_getR (np := 126) (x := 732) (f := 28) (q := 94) (by decide +kernel) (by decide) (by decide +kernel) q5176 ?_
                refine x_iload (np := 127) (x := 2) (by decide +kernel) rfl (by decide) ?_
                have q5177 : h5163 94 3 = 2147483647 := by rw [← e5165]; exact x_up_at
                refine x_aldC (np := 128) (x := 0) (n := 6) (i := 3) (q := 2147483647) (by decide +kernel) (by decide +kernel) (by first | decide | omega) (by first | decide | omega) (by decide) q5177 (fun l5178 => ?_)
                refine x_ifz (k := 3) (tg := 135) (np := 131) (by decide +kernel) (by decide) (by decide) (fun q5179 => ?_) (fun q5180 => ?_)
                · have q5179 : 2147483648 ≤ 2147483647 := q5179
                  exfalso; omega
                have q5180 : ¬ (2147483648 ≤ 2147483647) := q5180
                refine x_const (np := 132) (x := 9223372034707292159) (a := 2147483647) (by decide +kernel) (by decide) (by decide) ?_
                refine x_goto (np := 135) (x := 140) (by decide +kernel) ?_
                refine x_istore (np := 142) (x := 5) (lo' := [x_r 75, iv_c 2147483653, iv_c 2147483651, iv_c v4926, iv_c 2147483649, iv_c 2147483647]) (by decide +kernel) (by decide) (Nat.le_of_ble_eq_true rfl) rfl ?_
                refine x_iload (np := 144) (x := 5) (by decide +kernel) rfl (by decide) ?_
                refine x_ifz (k := 2) (tg := 151) (np := 147) (by decide +kernel) (by decide) (by decide) (fun q5181 => ?_) (fun q5182 => ?_)
                · have q5181 : 2147483647 < 2147483648 := q5181
                  refine x_const (np := 152) (x := 9223372039002259456) (a := 2147483648) (by decide +kernel) (by decide) (by decide) ?_
                  refine x_istore (np := 154) (x := 4) (lo' := [x_r 75, iv_c 2147483653, iv_c 2147483651, iv_c v4926, iv_c 2147483648, iv_c 2147483647]) (by decide +kernel) (by decide) (Nat.le_of_ble_eq_true rfl) rfl ?_
                  refine x_iload (np := 156) (x := 4) (by decide +kernel) rfl (by decide) ?_
                  refine x_ifz (k := 0) (tg := 180) (np := 159) (by decide +kernel) (by decide) (by decide) (fun q5183 => ?_) (fun q5184 => ?_)
                  · have q5183 : 2147483648 = 2147483648 := q5183
                    refine x_iinc (np := 183) (i := 2) (j := 2147483647) (v := 2147483650) (lo' := [x_r 75, iv_c 2147483653, iv_c 2147483650, iv_c v4926, iv_c 2147483648, iv_c 2147483647]) (by decide +kernel) (by decide) (by decide) rfl (by decide) (by first | decide | omega) (by first | decide | omega) rfl ?_
                    refine x_goto (np := 186) (x := 12) (by decide +kernel) ?_
                    have q5185 : h5163 75 30 = h5145 75 30 := by rw [← e5165]; exact x_up_k (by decide)
                    have q5186 : h5145 75 30 = h5134 75 30 := by rw [← e5147]; exact x_up_i (by first | decide | omega)
                    have q5187 : h5134 75 30 = h4929 75 30 := jK 0 f5136 rg_75_30_0_1 (by first | decide | omega) (by first | decide | omega) (by decide)
                    have q5188 : h4929 75 30 = h4917 75 30 := jK 0 f4931 rg_75_30_0_1 (by first | decide | omega) (by first | decide | omega) (by decide)
                    have q5189 : h4917 75 30 = (1 + (h3898 75 30)) := by rw [← e4919]; exact x_up_at
                    exact i3959 (iv_c v4926) (iv_c 2147483647) h5163 (by first | decide | omega) j5164 f5167 (by first | decide | omega)
                  have q5184 : ¬ (2147483648 = 2147483648) := q5184
                  exfalso; omega
                have q5182 : ¬ (2147483647 < 2147483648) := q5182
                exfalso; omega
              have q5175 : ¬ ((h4929 93 3) < 2147483648) := q5175
              refine x_aload (np := 112) (x := 0) (by decide +kernel) rfl (x_nc_le (by decide)) ?_
              refine x_aload (np := 113) (x := 0) (by decide +kernel) rfl (x_nc_le (by decide)) ?_
              have q5190 : h5163 75 27 = 93 := by have z := jB (e := 27) 0 j5164 rg_75_27_0_1 (by decide) (by decide); omega
              refine x_getR (np := 116) (x := 731) (f := 27) (q := 93) (by decide +kernel) (by decide) (by decide +kernel) q5190 ?_
              refine x_iload (np := 117) (x := 2) (by decide +kernel) rfl (by decide) ?_
              have q5191 : h5163 93 3 = h5145 93 3 := by rw [← e5165]; exact x_up_k (by decide)
              have q5192 : h5145 93 3 = h5134 93 3 := by rw [← e5147]; exact x_up_k (by decide)
              have q5193 : h5134 93 3 = h4929 93 3 := jK 3 f5136 rg_93_0_1_6 (by first | decide | omega) (by first | decide | omega) (by decide)
              refine x_aldC (np := 118) (x := 0) (n := 6) (i := 3) (q := (h4929 93 3)) (by decide +kernel) (by decide +kernel) (by first | decide | omega) (by first | decide | omega) (by decide) ((q5191.trans q5192).trans q5193) (fun l5194 => ?_)
              refine x_const (np := 119) (x := 9223372039002259456) (a := 2147483648) (by decide +kernel) (by decide) (by decide) ?_
              refine x_cV (t := 6) (mj := 248) (n := 3) (rc := 12) (ml := 4) (nr := 0) (np := 122) (as := [x_r 75, iv_c (h4929 93 3), iv_c 2147483648]) (rest := []) (lo1 := [x_r 75, iv_c (h4929 93 3), iv_c 2147483648, 147573952589676412928]) (by decide +kernel) (by decide) (by decide +kernel) (x_rb_of (by decide +kernel)) rfl rfl (x_wr (by decide) (x_wi l5173 (x_wi (by decide) x_wn))) x_wn (by decide) rfl (c248_75 j5164  (by first | decide | omega) (by first | decide | omega)) (fun h5198 q5197 => ?_)
              obtain ⟨j5199, f5200⟩ := q5197
              have f5203 := Fr.trans f5166 f5200 (by decide)
              have f5204 := Fr.trans f5167 f5200 (by decide)
              refine x_aload (np := 123) (x := 0) (by decide +kernel) rfl (x_nc_le (by decide)) ?_
              have q5205 : h5198 75 28 = 94 := by have z := jB (e := 28) 0 j5199 rg_75_28_0_1 (by decide) (by decide); omega
              refine x_getR (np := 126) (x := 732) (f := 28) (q := 94) (by decide +kernel) (by decide) (by decide +kernel) q5205 ?_
              refine x_iload (np := 127) (x := 2) (by decide +kernel) rfl (by decide) ?_
              have q5206 : h5198 94 3 = h5163 94 3 := jK 3 f5200 rg_94_0_1_6 (by first | decide | omega) (by first | decide | omega) (by decide)
              have q5207 : h5163 94 3 = 2147483647 := by rw [← e5165]; exact x_up_at
              refine x_aldC (np := 128) (x := 0) (n := 6) (i := 3) (q := 2147483647) (by decide +kernel) (by decide +kernel) (by first | decide | omega) (by first | decide | omega) (by decide) (q5206.trans q5207) (fun l5208 => ?_)
              refine x_ifz (k := 3) (tg := 135) (np := 131) (by decide +kernel) (by decide) (by decide) (fun q5209 => ?_) (fun q5210 => ?_)
              · have q5209 : 2147483648 ≤ 2147483647 := q5209
                exfalso; omega
              have q5210 : ¬ (2147483648 ≤ 2147483647) := q5210
              refine x_const (np := 132) (x := 9223372034707292159) (a := 2147483647) (by decide +kernel) (by decide) (by decide) ?_
              refine x_goto (np := 135) (x := 140) (by decide +kernel) ?_
              refine x_istore (np := 142) (x := 5) (lo' := [x_r 75, iv_c 2147483653, iv_c 2147483651, iv_c v4926, iv_c 2147483649, iv_c 2147483647]) (by decide +kernel) (by decide) (Nat.le_of_ble_eq_true rfl) rfl ?_
              refine x_iload (np := 144) (x := 5) (by decide +kernel) rfl (by decide) ?_
              refine x_ifz (k := 2) (tg := 151) (np := 147) (by decide +kernel) (by decide) (by decide) (fun q5211 => ?_) (fun q5212 => ?_)
              · have q5211 : 2147483647 < 2147483648 := q5211
                refine x_const (np := 152) (x := 9223372039002259456) (a := 2147483648) (by decide +kernel) (by decide) (by decide) ?_
                refine x_istore (np := 154) (x := 4) (lo' := [x_r 75, iv_c 2147483653, iv_c 2147483651, iv_c v4926, iv_c 2147483648, iv_c 2147483647]) (by decide +kernel) (by decide) (Nat.le_of_ble_eq_true rfl) rfl ?_
                refine x_iload (np := 156) (x := 4) (by decide +kernel) rfl (by decide) ?_
                refine x_ifz (k := 0) (tg := 180) (np := 159) (by decide +kernel) (by decide) (by decide) (fun q5213 => ?_) (fun q5214 => ?_)
                · have q5213 : 2147483648 = 2147483648 := q5213
                  refine x_iinc (np := 183) (i := 2) (j := 2147483647) (v := 2147483650) (lo' := [x_r 75, iv_c 2147483653, iv_c 2147483650, iv_c v4926, iv_c 2147483648, iv_c 2147483647]) (by decide +kernel) (by decide) (by decide) rfl (by decide) (by first | decide | omega) (by first | decide | omega) rfl ?_
                  refine x_goto (np := 186) (x := 12) (by decide +kernel) ?_
                  have q5215 : h5198 75 30 = h5163 75 30 := jK 0 f5200 rg_75_30_0_1 (by first | decide | omega) (by first | decide | omega) (by decide)
                  have q5216 : h5163 75 30 = h5145 75 30 := by rw [← e5165]; exact x_up_k (by decide)
                  have q5217 : h5145 75 30 = h5134 75 30 := by rw [← e5147]; exact x_up_i (by first | decide | omega)
                  have q5218 : h5134 75 30 = h4929 75 30 := jK 0 f5136 rg_75_30_0_1 (by first | decide | omega) (by first | decide | omega) (by decide)
                  have q5219 : h4929 75 30 = h4917 75 30 := jK 0 f4931 rg_75_30_0_1 (by first | decide | omega) (by first | decide | omega) (by decide)
                  have q5220 : h4917 75 30 = (1 + (h3898 75 30)) := by rw [← e4919]; exact x_up_at
                  exact i3959 (iv_c v4926) (iv_c 2147483647) h5198 (by first | decide | omega) j5199 f5204 (by first | decide | omega)
                have q5214 : ¬ (2147483648 = 2147483648) := q5214
                exfalso; omega
              have q5212 : ¬ (2147483647 < 2147483648) := q5212
              exfalso; omega
            have q5161 : ¬ (v4926 = 2147483649) := q5161
            exfalso; omega
          have q5159 : ¬ ((h 75 33) = 2147483648) := q5159
          refine x_const (np := 84) (x := 9223372043297226753) (a := 2147483649) (by decide +kernel) (by decide) (by decide) ?_
          have q5221 : h5145 75 30 = h5134 75 30 := by rw [← e5147]; exact x_up_i (by first | decide | omega)
          have q5222 : h5134 75 30 = h4929 75 30 := jK 0 f5136 rg_75_30_0_1 (by first | decide | omega) (by first | decide | omega) (by decide)
          have q5223 : h4929 75 30 = h4917 75 30 := jK 0 f4931 rg_75_30_0_1 (by first | decide | omega) (by first | decide | omega) (by decide)
          have q5224 : h4917 75 30 = (1 + (h3898 75 30)) := by rw [← e4919]; exact x_up_at
          refine x_retI (np := 85) (x := 0) (by decide +kernel) (by decide) (Or.inr ⟨by decide +kernel, by first | decide | omega, by first | decide | omega⟩) ⟨_, rfl, (by decide), ?_⟩
          exact ⟨j5146, f5148, (by first | decide | omega), (fun z => by first | decide | omega)⟩
        have q4925 : ¬ ((1 + (h3898 75 30)) ≤ 2147503648) := q4925
        refine x_const (np := 42) (x := 9223372039002259456) (a := 2147483648) (by decide +kernel) (by decide) (by decide) ?_
        have q5225 : h4917 75 30 = (1 + (h3898 75 30)) := by rw [← e4919]; exact x_up_at
        refine x_retI (np := 43) (x := 0) (by decide +kernel) (by decide) (Or.inr ⟨by decide +kernel, by first | decide | omega, by first | decide | omega⟩) ⟨_, rfl, (by decide), ?_⟩
        exact ⟨j4918, f4920, (by first | decide | omega), (fun z => by first | decide | omega)⟩
      · intro w3902 w3903 h3904 q5226 j3907 f3906 b3905
        have f5227 := Fr.trans f5 f3906 (by decide)
        refine x_iload (np := 13) (x := 2) (by decide +kernel) rfl (by decide) ?_
        refine x_ifz (k := 2) (tg := 186) (np := 16) (by decide +kernel) (by decide) (by decide) (fun q5228 => ?_) (fun q5229 => ?_)
        · have q5228 : 2147483652 < 2147483648 := q5228
          exfalso; omega
        have q5229 : ¬ (2147483652 < 2147483648) := q5229
        refine x_iload (np := 18) (x := 4) (by decide +kernel) rfl (by decide) ?_
        refine x_ifz (k := 0) (tg := 102) (np := 21) (by decide +kernel) (by decide) (by decide) (fun q5230 => ?_) (fun q5231 => ?_)
        · have q5230 : 2147483649 = 2147483648 := q5230
          exfalso; omega
        have q5231 : ¬ (2147483649 = 2147483648) := q5231
        refine x_aload (np := 22) (x := 0) (by decide +kernel) rfl (x_nc_le (by decide)) ?_
        refine x_dup (np := 23) (x := 0) (by decide +kernel) (by have z := x_nc_le (k := 75) (by decide); unfold x_r; omega) ?_
        refine x_getC (np := 26) (x := 734) (f := 30) (q := (h3904 75 30)) (by decide +kernel) (by decide) (by decide +kernel) rfl (fun l5232 => ?_)
        refine x_const (np := 27) (x := 9223372043297226753) (a := 2147483649) (by decide +kernel) (by decide) (by decide) ?_
        refine x_iadd (np := 28) (x := 0) (v := (1 + (h3904 75 30))) (by decide +kernel) l5232 (by decide) (by first | decide | omega) (by first | decide | omega) ?_
        refine x_putI (np := 31) (x := 734) (f := 30) (by decide +kernel) (by decide +kernel) (by first | decide | omega) (Or.inl (by decide)) ?_
        have j5234 := jU (e := 30) (v := (1 + (h3904 75 30))) 0 j3907 rg_75_30_0_1 (by first | decide | omega) (by first | decide | omega) (by first | decide | omega)
        have f5236 := jF (e := 30) (v := (1 + (h3904 75 30))) 0 f5227 rg_75_30_0_1 (by first | decide | omega) (by first | decide | omega) (by decide)
        have f5237 := jF (e := 30) (v := (1 + (h3904 75 30))) 0 f3906 rg_75_30_0_1 (by first | decide | omega) (by first | decide | omega) (by decide)
        generalize e5235 : x_up h3904 75 30 (1 + (h3904 75 30)) = h5233 at j5234 f5236 f5237 ⊢
        refine x_aload (np := 32) (x := 0) (by decide +kernel) rfl (x_nc_le (by decide)) ?_
        have q5238 : h5233 75 30 = (1 + (h3904 75 30)) := by rw [← e5235]; exact x_up_at
        refine x_getC (np := 35) (x := 734) (f := 30) (q := (1 + (h3904 75 30))) (by decide +kernel) (by decide) (by decide +kernel) q5238 (fun l5239 => ?_)
        refine x_const (np := 38) (x := 9223457938348199456) (a := 2147503648) (by decide +kernel) (by decide) (by decide) ?_
        refine x_icmp (k := 5) (tg := 43) (np := 41) (by decide +kernel) (by decide) (by first | decide | omega) (by decide) (fun q5240 => ?_) (fun q5241 => ?_)
        · have q5240 : (1 + (h3904 75 30)) ≤ 2147503648 := q5240
          refine x_aload (np := 44) (x := 0) (by decide +kernel) rfl (x_nc_le (by decide)) ?_
          refine x_iload (np := 45) (x := 2) (by decide +kernel) rfl (by decide) ?_
          refine x_cI (t := 6) (mj := 254) (n := 2) (rc := 12) (ml := 4) (nr := 0) (np := 48) (as := [x_r 75, iv_c 2147483652]) (rest := []) (lo1 := [x_r 75, iv_c 2147483652, 147573952589676412928, 147573952589676412928]) (by decide +kernel) (by decide) (by decide +kernel) (x_rb_of (by decide +kernel)) rfl rfl (x_wr (by decide) (x_wi (by decide) x_wn)) x_wn (by decide) rfl (c254_75 j5234  (by first | decide | omega)) (fun v5242 h5245 l5243 q5244 => ?_)
          obtain ⟨j5246, f5247, b5248⟩ := q5244
          have f5249 := Fr.trans f5236 f5247 (by decide)
          have f5250 := Fr.trans f5237 f5247 (by decide)
          refine x_istore (np := 49) (x := 3) (lo' := [x_r 75, iv_c 2147483653, iv_c 2147483652, iv_c v5242, iv_c 2147483649, w3903]) (by decide +kernel) l5243 (Nat.le_of_ble_eq_true rfl) rfl ?_
          refine x_iload (np := 50) (x := 3) (by decide +kernel) rfl l5243 ?_
          refine x_const (np := 51) (x := 9223372043297226753) (a := 2147483649) (by decide +kernel) (by decide) (by decide) ?_
          refine x_icmp (k := 1) (tg := 85) (np := 54) (by decide +kernel) (by decide) l5243 (by decide) (fun q5251 => ?_) (fun q5252 => ?_)
          · have q5251 : v5242 ≠ 2147483649 := q5251
            refine x_iload (np := 86) (x := 3) (by decide +kernel) rfl l5243 ?_
            refine x_const (np := 87) (x := 9223372043297226753) (a := 2147483649) (by decide +kernel) (by decide) (by decide) ?_
            refine x_icmp (k := 0) (tg := 95) (np := 90) (by decide +kernel) (by decide) l5243 (by decide) (fun q5253 => ?_) (fun q5254 => ?_)
            · have q5253 : v5242 = 2147483649 := q5253
              exfalso; omega
            have q5254 : ¬ (v5242 = 2147483649) := q5254
            refine x_iload (np := 91) (x := 2) (by decide +kernel) rfl (by decide) ?_
            refine x_iload (np := 92) (x := 1) (by decide +kernel) rfl (by decide) ?_
            refine x_icmp (k := 1) (tg := 102) (np := 95) (by decide +kernel) (by decide) (by decide) (by decide) (fun q5255 => ?_) (fun q5256 => ?_)
            · have q5255 : 2147483652 ≠ 2147483653 := q5255
              refine x_aload (np := 103) (x := 0) (by decide +kernel) rfl (x_nc_le (by decide)) ?_
              have q5257 : h5245 75 27 = 93 := by have z := jB (e := 27) 0 j5246 rg_75_27_0_1 (by decide) (by decide); omega
              refine x_getR (np := 106) (x := 731) (f := 27) (q := 93) (by decide +kernel) (by decide) (by decide +kernel) q5257 ?_
              refine x_iload (np := 107) (x := 2) (by decide +kernel) rfl (by decide) ?_
              have b5258 := jB (e := 4) 4 j5246 rg_93_0_1_6 (by first | decide | omega) (by first | decide | omega)
              refine x_aldC (np := 108) (x := 0) (n := 6) (i := 4) (q := (h5245 93 4)) (by decide +kernel) (by decide +kernel) (by first | decide | omega) (by first | decide | omega) (by decide) rfl (fun l5259 => ?_)
              refine x_ifz (k := 2) (tg := 122) (np := 111) (by decide +kernel) (by decide) l5259 (fun q5260 => ?_) (fun q5261 => ?_)
              · have q5260 : (h5245 93 4) < 2147483648 := q5260
                refine x_aload (np := 123) (x := 0) (by decide +kernel) rfl (x_nc_le (by decide)) ?_
                have q5262 : h5245 75 28 = 94 := by have z := jB (e := 28) 0 j5246 rg_75_28_0_1 (by decide) (by decide); omega
                refine x_getR (np := 126) (x := 732) (f := 28) (q := 94) (by decide +kernel) (by decide) (by decide +kernel) q5262 ?_
                refine x_iload (np := 127) (x := 2) (by decide +kernel) rfl (by decide) ?_
                have b5263 := jB (e := 4) 4 j5246 rg_94_0_1_6 (by first | decide | omega) (by first | decide | omega)
                refine x_aldC (np := 128) (x := 0) (n := 6) (i := 4) (q := (h5245 94 4)) (by decide +kernel) (by decide +kernel) (by first | decide | omega) (by first | decide | omega) (by decide) rfl (fun l5264 => ?_)
                refine x_ifz (k := 3) (tg := 135) (np := 131) (by decide +kernel) (by decide) l5264 (fun q5265 => ?_) (fun q5266 => ?_)
                · have q5265 : 2147483648 ≤ (h5245 94 4) := q5265
                  refine x_aload (np := 136) (x := 0) (by decide +kernel) rfl (x_nc_le (by decide)) ?_
                  refine x_iload (np := 137) (x := 2) (by decide +kernel) rfl (by decide) ?_
                  refine x_cP (t := 6) (mj := 257) (n := 2) (rc := 12) (ml := 3) (nr := 0) (np := 140) (as := [x_r 75, iv_c 2147483652]) (rest := []) (lo1 := [x_r 75, iv_c 2147483652, 147573952589676412928]) (by decide +kernel) (by decide) (by decide +kernel) (x_rb_of (by decide +kernel)) rfl rfl (x_wr (by decide) (x_wi (by decide) x_wn)) x_wn (by decide) rfl (c257_75_c4 j5246   (by first | decide | omega)) (fun v5267 l5268 q5269 => ?_)
                  refine x_istore (np := 142) (x := 5) (lo' := [x_r 75, iv_c 2147483653, iv_c 2147483652, iv_c v5242, iv_c 2147483649, iv_c v5267]) (by decide +kernel) l5268 (Nat.le_of_ble_eq_true rfl) rfl ?_
                  refine x_iload (np := 144) (x := 5) (by decide +kernel) rfl l5268 ?_
                  refine x_ifz (k := 2) (tg := 151) (np := 147) (by decide +kernel) (by decide) l5268 (fun q5270 => ?_) (fun q5271 => ?_)
                  · have q5270 : v5267 < 2147483648 := q5270
                    refine x_const (np := 152) (x := 9223372039002259456) (a := 2147483648) (by decide +kernel) (by decide) (by decide) ?_
                    refine x_istore (np := 154) (x := 4) (lo' := [x_r 75, iv_c 2147483653, iv_c 2147483652, iv_c v5242, iv_c 2147483648, iv_c v5267]) (by decide +kernel) (by decide) (Nat.le_of_ble_eq_true rfl) rfl ?_
                    refine x_iload (np := 156) (x := 4) (by decide +kernel) rfl (by decide) ?_
                    refine x_ifz (k := 0) (tg := 180) (np := 159) (by decide +kernel) (by decide) (by decide) (fun q5272 => ?_) (fun q5273 => ?_)
                    · have q5272 : 2147483648 = 2147483648 := q5272
                      refine x_iinc (np := 183) (i := 2) (j := 2147483647) (v := 2147483651) (lo' := [x_r 75, iv_c 2147483653, iv_c 2147483651, iv_c v5242, iv_c 2147483648, iv_c v5267]) (by decide +kernel) (by decide) (by decide) rfl (by decide) (by first | decide | omega) (by first | decide | omega) rfl ?_
                      refine x_goto (np := 186) (x := 12) (by decide +kernel) ?_
                      have q5274 : h5245 75 30 = h5233 75 30 := jK 0 f5247 rg_75_30_0_1 (by first | decide | omega) (by first | decide | omega) (by decide)
                      have q5275 : h5233 75 30 = (1 + (h3904 75 30)) := by rw [← e5235]; exact x_up_at
                      exact i3960 (iv_c v5242) (iv_c v5267) h5245 (by first | decide | omega) j5246 f5250 (by first | decide | omega)
                    have q5273 : ¬ (2147483648 = 2147483648) := q5273
                    exfalso; omega
                  have q5271 : ¬ (v5267 < 2147483648) := q5271
                  refine x_const (np := 148) (x := 9223372043297226753) (a := 2147483649) (by decide +kernel) (by decide) (by decide) ?_
                  refine x_goto (np := 151) (x := 152) (by decide +kernel) ?_
                  refine x_istore (np := 154) (x := 4) (lo' := [x_r 75, iv_c 2147483653, iv_c 2147483652, iv_c v5242, iv_c 2147483649, iv_c v5267]) (by decide +kernel) (by decide) (Nat.le_of_ble_eq_true rfl) rfl ?_
                  refine x_iload (np := 156) (x := 4) (by decide +kernel) rfl (by decide) ?_
                  refine x_ifz (k := 0) (tg := 180) (np := 159) (by decide +kernel) (by decide) (by decide) (fun q5276 => ?_) (fun q5277 => ?_)
                  · have q5276 : 2147483649 = 2147483648 := q5276
                    exfalso; omega
                  have q5277 : ¬ (2147483649 = 2147483648) := q5277
                  refine x_aload (np := 160) (x := 0) (by decide +kernel) rfl (x_nc_le (by decide)) ?_
                  have q5278 : h5245 75 27 = 93 := by have z := jB (e := 27) 0 j5246 rg_75_27_0_1 (by decide) (by decide); omega
                  refine x_getR (np := 163) (x := 731) (f := 27) (q := 93) (by decide +kernel) (by decide) (by decide +kernel) q5278 ?_
                  refine x_iload (np := 164) (x := 2) (by decide +kernel) rfl (by decide) ?_
                  refine x_iload (np := 166) (x := 5) (by decide +kernel) rfl l5268 ?_
                  refine x_ast (np := 167) (x := 0) (kd := 1) (n := 6) (i := 4) (by decide +kernel) (Or.inl rfl) (by decide +kernel) (by first | decide | omega) (by first | decide | omega) (by decide) l5268 (fun z => absurd z (by decide)) ?_
                  have j5280 := jU (e := 4) (v := v5267) 4 j5246 rg_93_0_1_6 (by first | decide | omega) (by first | decide | omega) (by first | decide | omega)
                  have f5282 := jF (e := 4) (v := v5267) 4 f5249 rg_93_0_1_6 (by first | decide | omega) (by first | decide | omega) (by decide)
                  have f5283 := jF (e := 4) (v := v5267) 4 f5250 rg_93_0_1_6 (by first | decide | omega) (by first | decide | omega) (by decide)
                  generalize e5281 : x_up h5245 93 4 v5267 = h5279 at j5280 f5282 f5283 ⊢
                  refine x_aload (np := 168) (x := 0) (by decide +kernel) rfl (x_nc_le (by decide)) ?_
                  refine x_iload (np := 170) (x := 5) (by decide +kernel) rfl l5268 ?_
                  refine x_const (np := 171) (x := 9223372043297226753) (a := 2147483649) (by decide +kernel) (by decide) (by decide) ?_
                  refine x_cV (t := 6) (mj := 248) (n := 3) (rc := 12) (ml := 4) (nr := 0) (np := 174) (as := [x_r 75, iv_c v5267, iv_c 2147483649]) (rest := []) (lo1 := [x_r 75, iv_c v5267, iv_c 2147483649, 147573952589676412928]) (by decide +kernel) (by decide) (by decide +kernel) (x_rb_of (by decide +kernel)) rfl rfl (x_wr (by decide) (x_wi l5268 (x_wi (by decide) x_wn))) x_wn (by decide) rfl (c248_75 j5280  (by first | decide | omega) (by first | decide | omega)) (fun h5287 q5286 => ?_)
                  obtain ⟨j5288, f5289⟩ := q5286
                  have f5292 := Fr.trans f5282 f5289 (by decide)
                  have f5293 := Fr.trans f5283 f5289 (by decide)
                  refine x_iinc (np := 177) (i := 2) (j := 2147483649) (v := 2147483653) (lo' := [x_r 75, iv_c 2147483653, iv_c 2147483653, iv_c v5242, iv_c 2147483649, iv_c v5267]) (by decide +kernel) (by decide) (by decide) rfl (by decide) (by first | decide | omega) (by first | decide | omega) rfl ?_
                  refine x_goto (np := 180) (x := 183) (by decide +kernel) ?_
                  refine x_goto (np := 186) (x := 12) (by decide +kernel) ?_
                  have q5294 : h5287 75 30 = h5279 75 30 := jK 0 f5289 rg_75_30_0_1 (by first | decide | omega) (by first | decide | omega) (by decide)
                  have q5295 : h5279 75 30 = h5245 75 30 := by rw [← e5281]; exact x_up_k (by decide)
                  have q5296 : h5245 75 30 = h5233 75 30 := jK 0 f5247 rg_75_30_0_1 (by first | decide | omega) (by first | decide | omega) (by decide)
                  have q5297 : h5233 75 30 = (1 + (h3904 75 30)) := by rw [← e5235]; exact x_up_at
                  exact i3955 (iv_c v5242) (iv_c v5267) h5287 (by first | decide | omega) j5288 f5293 (by first | decide | omega)
                have q5266 : ¬ (2147483648 ≤ (h5245 94 4)) := q5266
                refine x_const (np := 132) (x := 9223372034707292159) (a := 2147483647) (by decide +kernel) (by decide) (by decide) ?_
                refine x_goto (np := 135) (x := 140) (by decide +kernel) ?_
                refine x_istore (np := 142) (x := 5) (lo' := [x_r 75, iv_c 2147483653, iv_c 2147483652, iv_c v5242, iv_c 2147483649, iv_c 2147483647]) (by decide +kernel) (by decide) (Nat.le_of_ble_eq_true rfl) rfl ?_
                refine x_iload (np := 144) (x := 5) (by decide +kernel) rfl (by decide) ?_
                refine x_ifz (k := 2) (tg := 151) (np := 147) (by decide +kernel) (by decide) (by decide) (fun q5298 => ?_) (fun q5299 => ?_)
                · have q5298 : 2147483647 < 2147483648 := q5298
                  refine x_const (np := 152) (x := 9223372039002259456) (a := 2147483648) (by decide +kernel) (by decide) (by decide) ?_
                  refine x_istore (np := 154) (x := 4) (lo' := [x_r 75, iv_c 2147483653, iv_c 2147483652, iv_c v5242, iv_c 2147483648, iv_c 2147483647]) (by decide +kernel) (by decide) (Nat.le_of_ble_eq_true rfl) rfl ?_
                  refine x_iload (np := 156) (x := 4) (by decide +kernel) rfl (by decide) ?_
                  refine x_ifz (k := 0) (tg := 180) (np := 159) (by decide +kernel) (by decide) (by decide) (fun q5300 => ?_) (fun q5301 => ?_)
                  · have q5300 : 2147483648 = 2147483648 := q5300
                    refine x_iinc (np := 183) (i := 2) (j := 2147483647) (v := 2147483651) (lo' := [x_r 75, iv_c 2147483653, iv_c 2147483651, iv_c v5242, iv_c 2147483648, iv_c 2147483647]) (by decide +kernel) (by decide) (by decide) rfl (by decide) (by first | decide | omega) (by first | decide | omega) rfl ?_
                    refine x_goto (np := 186) (x := 12) (by decide +kernel) ?_
                    have q5302 : h5245 75 30 = h5233 75 30 := jK 0 f5247 rg_75_30_0_1 (by first | decide | omega) (by first | decide | omega) (by decide)
                    have q5303 : h5233 75 30 = (1 + (h3904 75 30)) := by rw [← e5235]; exact x_up_at
                    exact i3960 (iv_c v5242) (iv_c 2147483647) h5245 (by first | decide | omega) j5246 f5250 (by first | decide | omega)
                  have q5301 : ¬ (2147483648 = 2147483648) := q5301
                  exfalso; omega
                have q5299 : ¬ (2147483647 < 2147483648) := q5299
                exfalso; omega
              have q5261 : ¬ ((h5245 93 4) < 2147483648) := q5261
              refine x_aload (np := 112) (x := 0) (by decide +kernel) rfl (x_nc_le (by decide)) ?_
              refine x_aload (np := 113) (x := 0) (by decide +kernel) rfl (x_nc_le (by decide)) ?_
              have q5304 : h5245 75 27 = 93 := by have z := jB (e := 27) 0 j5246 rg_75_27_0_1 (by decide) (by decide); omega
              refine x_getR (np := 116) (x := 731) (f := 27) (q := 93) (by decide +kernel) (by decide) (by decide +kernel) q5304 ?_
              refine x_iload (np := 117) (x := 2) (by decide +kernel) rfl (by decide) ?_
              refine x_aldC (np := 118) (x := 0) (n := 6) (i := 4) (q := (h5245 93 4)) (by decide +kernel) (by decide +kernel) (by first | decide | omega) (by first | decide | omega) (by decide) rfl (fun l5305 => ?_)
              refine x_const (np := 119) (x := 9223372039002259456) (a := 2147483648) (by decide +kernel) (by decide) (by decide) ?_
              refine x_cV (t := 6) (mj := 248) (n := 3) (rc := 12) (ml := 4) (nr := 0) (np := 122) (as := [x_r 75, iv_c (h5245 93 4), iv_c 2147483648]) (rest := []) (lo1 := [x_r 75, iv_c (h5245 93 4), iv_c 2147483648, 147573952589676412928]) (by decide +kernel) (by decide) (by decide +kernel) (x_rb_of (by decide +kernel)) rfl rfl (x_wr (by decide) (x_wi l5259 (x_wi (by decide) x_wn))) x_wn (by decide) rfl (c248_75 j5246  (by first | decide | omega) (by first | decide | omega)) (fun h5309 q5308 => ?_)
              obtain ⟨j5310, f5311⟩ := q5308
              have f5314 := Fr.trans f5249 f5311 (by decide)
              have f5315 := Fr.trans f5250 f5311 (by decide)
              refine x_aload (np := 123) (x := 0) (by decide +kernel) rfl (x_nc_le (by decide)) ?_
              have q5316 : h5309 75 28 = 94 := by have z := jB (e := 28) 0 j5310 rg_75_28_0_1 (by decide) (by decide); omega
              refine x_getR (np := 126) (x := 732) (f := 28) (q := 94) (by decide +kernel) (by decide) (by decide +kernel) q5316 ?_
              refine x_iload (np := 127) (x := 2) (by decide +kernel) rfl (by decide) ?_
              have q5317 : h5309 94 4 = h5245 94 4 := jK 4 f5311 rg_94_0_1_6 (by first | decide | omega) (by first | decide | omega) (by decide)
              have b5318 := jB (e := 4) 4 j5246 rg_94_0_1_6 (by first | decide | omega) (by first | decide | omega)
              refine x_aldC (np := 128) (x := 0) (n := 6) (i := 4) (q := (h5245 94 4)) (by decide +kernel) (by decide +kernel) (by first | decide | omega) (by first | decide | omega) (by decide) q5317 (fun l5319 => ?_)
              refine x_ifz (k := 3) (tg := 135) (np := 131) (by decide +kernel) (by decide) l5319 (fun q5320 => ?_) (fun q5321 => ?_)
              · have q5320 : 2147483648 ≤ (h5245 94 4) := q5320
                refine x_aload (np := 136) (x := 0) (by decide +kernel) rfl (x_nc_le (by decide)) ?_
                refine x_iload (np := 137) (x := 2) (by decide +kernel) rfl (by decide) ?_
                have q5322 : h5309 94 4 = h5245 94 4 := jK 4 f5311 rg_94_0_1_6 (by first | decide | omega) (by first | decide | omega) (by decide)
                refine x_cP (t := 6) (mj := 257) (n := 2) (rc := 12) (ml := 3) (nr := 0) (np := 140) (as := [x_r 75, iv_c 2147483652]) (rest := []) (lo1 := [x_r 75, iv_c 2147483652, 147573952589676412928]) (by decide +kernel) (by decide) (by decide +kernel) (x_rb_of (by decide +kernel)) rfl rfl (x_wr (by decide) (x_wi (by decide) x_wn)) x_wn (by decide) rfl (c257_75_c4 j5310   (by first | decide | omega)) (fun v5323 l5324 q5325 => ?_)
                refine x_istore (np := 142) (x := 5) (lo' := [x_r 75, iv_c 2147483653, iv_c 2147483652, iv_c v5242, iv_c 2147483649, iv_c v5323]) (by decide +kernel) l5324 (Nat.le_of_ble_eq_true rfl) rfl ?_
                refine x_iload (np := 144) (x := 5) (by decide +kernel) rfl l5324 ?_
                refine x_ifz (k := 2) (tg := 151) (np := 147) (by decide +kernel) (by decide) l5324 (fun q5326 => ?_) (fun q5327 => ?_)
                · have q5326 : v5323 < 2147483648 := q5326
                  refine x_const (np := 152) (x := 9223372039002259456) (a := 2147483648) (by decide +kernel) (by decide) (by decide) ?_
                  refine x_istore (np := 154) (x := 4) (lo' := [x_r 75, iv_c 2147483653, iv_c 2147483652, iv_c v5242, iv_c 2147483648, iv_c v5323]) (by decide +kernel) (by decide) (Nat.le_of_ble_eq_true rfl) rfl ?_
                  refine x_iload (np := 156) (x := 4) (by decide +kernel) rfl (by decide) ?_
                  refine x_ifz (k := 0) (tg := 180) (np := 159) (by decide +kernel) (by decide) (by decide) (fun q5328 => ?_) (fun q5329 => ?_)
                  · have q5328 : 2147483648 = 2147483648 := q5328
                    refine x_iinc (np := 183) (i := 2) (j := 2147483647) (v := 2147483651) (lo' := [x_r 75, iv_c 2147483653, iv_c 2147483651, iv_c v5242, iv_c 2147483648, iv_c v5323]) (by decide +kernel) (by decide) (by decide) rfl (by decide) (by first | decide | omega) (by first | decide | omega) rfl ?_
                    refine x_goto (np := 186) (x := 12) (by decide +kernel) ?_
                    have q5330 : h5309 75 30 = h5245 75 30 := jK 0 f5311 rg_75_30_0_1 (by first | decide | omega) (by first | decide | omega) (by decide)
                    have q5331 : h5245 75 30 = h5233 75 30 := jK 0 f5247 rg_75_30_0_1 (by first | decide | omega) (by first | decide | omega) (by decide)
                    have q5332 : h5233 75 30 = (1 + (h3904 75 30)) := by rw [← e5235]; exact x_up_at
                    exact i3960 (iv_c v5242) (iv_c v5323) h5309 (by first | decide | omega) j5310 f5315 (by first | decide | omega)
                  have q5329 : ¬ (2147483648 = 2147483648) := q5329
                  exfalso; omega
                have q5327 : ¬ (v5323 < 2147483648) := q5327
                refine x_const (np := 148) (x := 9223372043297226753) (a := 2147483649) (by decide +kernel) (by decide) (by decide) ?_
                refine x_goto (np := 151) (x := 152) (by decide +kernel) ?_
                refine x_istore (np := 154) (x := 4) (lo' := [x_r 75, iv_c 2147483653, iv_c 2147483652, iv_c v5242, iv_c 2147483649, iv_c v5323]) (by decide +kernel) (by decide) (Nat.le_of_ble_eq_true rfl) rfl ?_
                refine x_iload (np := 156) (x := 4) (by decide +kernel) rfl (by decide) ?_
                refine x_ifz (k := 0) (tg := 180) (np := 159) (by decide +kernel) (by decide) (by decide) (fun q5333 => ?_) (fun q5334 => ?_)
                · have q5333 : 2147483649 = 2147483648 := q5333
                  exfalso; omega
                have q5334 : ¬ (2147483649 = 2147483648) := q5334
                refine x_aload (np := 160) (x := 0) (by decide +kernel) rfl (x_nc_le (by decide)) ?_
                have q5335 : h5309 75 27 = 93 := by have z := jB (e := 27) 0 j5310 rg_75_27_0_1 (by decide) (by decide); omega
                refine x_getR (np := 163) (x := 731) (f := 27) (q := 93) (by decide +kernel) (by decide) (by decide +kernel) q5335 ?_
                refine x_iload (np := 164) (x := 2) (by decide +kernel) rfl (by decide) ?_
                refine x_iload (np := 166) (x := 5) (by decide +kernel) rfl l5324 ?_
                refine x_ast (np := 167) (x := 0) (kd := 1) (n := 6) (i := 4) (by decide +kernel) (Or.inl rfl) (by decide +kernel) (by first | decide | omega) (by first | decide | omega) (by decide) l5324 (fun z => absurd z (by decide)) ?_
                have j5337 := jU (e := 4) (v := v5323) 4 j5310 rg_93_0_1_6 (by first | decide | omega) (by first | decide | omega) (by first | decide | omega)
                have f5339 := jF (e := 4) (v := v5323) 4 f5314 rg_93_0_1_6 (by first | decide | omega) (by first | decide | omega) (by decide)
                have f5340 := jF (e := 4) (v := v5323) 4 f5315 rg_93_0_1_6 (by first | decide | omega) (by first | decide | omega) (by decide)
                generalize e5338 : x_up h5309 93 4 v5323 = h5336 at j5337 f5339 f5340 ⊢
                refine x_aload (np := 168) (x := 0) (by decide +kernel) rfl (x_nc_le (by decide)) ?_
                refine x_iload (np := 170) (x := 5) (by decide +kernel) rfl l5324 ?_
                refine x_const (np := 171) (x := 9223372043297226753) (a := 2147483649) (by decide +kernel) (by decide) (by decide) ?_
                refine x_cV (t := 6) (mj := 248) (n := 3) (rc := 12) (ml := 4) (nr := 0) (np := 174) (as := [x_r 75, iv_c v5323, iv_c 2147483649]) (rest := []) (lo1 := [x_r 75, iv_c v5323, iv_c 2147483649, 147573952589676412928]) (by decide +kernel) (by decide) (by decide +kernel) (x_rb_of (by decide +kernel)) rfl rfl (x_wr (by decide) (x_wi l5324 (x_wi (by decide) x_wn))) x_wn (by decide) rfl (c248_75 j5337  (by first | decide | omega) (by first | decide | omega)) (fun h5344 q5343 => ?_)
                obtain ⟨j5345, f5346⟩ := q5343
                have f5349 := Fr.trans f5339 f5346 (by decide)
                have f5350 := Fr.trans f5340 f5346 (by decide)
                refine x_iinc (np := 177) (i := 2) (j := 2147483649) (v := 2147483653) (lo' := [x_r 75, iv_c 2147483653, iv_c 2147483653, iv_c v5242, iv_c 2147483649, iv_c v5323]) (by decide +kernel) (by decide) (by decide) rfl (by decide) (by first | decide | omega) (by first | decide | omega) rfl ?_
                refine x_goto (np := 180) (x := 183) (by decide +kernel) ?_
                refine x_goto (np := 186) (x := 12) (by decide +kernel) ?_
                have q5351 : h5344 75 30 = h5336 75 30 := jK 0 f5346 rg_75_30_0_1 (by first | decide | omega) (by first | decide | omega) (by decide)
                have q5352 : h5336 75 30 = h5309 75 30 := by rw [← e5338]; exact x_up_k (by decide)
                have q5353 : h5309 75 30 = h5245 75 30 := jK 0 f5311 rg_75_30_0_1 (by first | decide | omega) (by first | decide | omega) (by decide)
                have q5354 : h5245 75 30 = h5233 75 30 := jK 0 f5247 rg_75_30_0_1 (by first | decide | omega) (by first | decide | omega) (by decide)
                have q5355 : h5233 75 30 = (1 + (h3904 75 30)) := by rw [← e5235]; exact x_up_at
                exact i3955 (iv_c v5242) (iv_c v5323) h5344 (by first | decide | omega) j5345 f5350 (by first | decide | omega)
              have q5321 : ¬ (2147483648 ≤ (h5245 94 4)) := q5321
              refine x_const (np := 132) (x := 9223372034707292159) (a := 2147483647) (by decide +kernel) (by decide) (by decide) ?_
              refine x_goto (np := 135) (x := 140) (by decide +kernel) ?_
              refine x_istore (np := 142) (x := 5) (lo' := [x_r 75, iv_c 2147483653, iv_c 2147483652, iv_c v5242, iv_c 2147483649, iv_c 2147483647]) (by decide +kernel) (by decide) (Nat.le_of_ble_eq_true rfl) rfl ?_
              refine x_iload (np := 144) (x := 5) (by decide +kernel) rfl (by decide) ?_
              refine x_ifz (k := 2) (tg := 151) (np := 147) (by decide +kernel) (by decide) (by decide) (fun q5356 => ?_) (fun q5357 => ?_)
              · have q5356 : 2147483647 < 2147483648 := q5356
                refine x_const (np := 152) (x := 9223372039002259456) (a := 2147483648) (by decide +kernel) (by decide) (by decide) ?_
                refine x_istore (np := 154) (x := 4) (lo' := [x_r 75, iv_c 2147483653, iv_c 2147483652, iv_c v5242, iv_c 2147483648, iv_c 2147483647]) (by decide +kernel) (by decide) (Nat.le_of_ble_eq_true rfl) rfl ?_
                refine x_iload (np := 156) (x := 4) (by decide +kernel) rfl (by decide) ?_
                refine x_ifz (k := 0) (tg := 180) (np := 159) (by decide +kernel) (by decide) (by decide) (fun q5358 => ?_) (fun q5359 => ?_)
                · have q5358 : 2147483648 = 2147483648 := q5358
                  refine x_iinc (np := 183) (i := 2) (j := 2147483647) (v := 2147483651) (lo' := [x_r 75, iv_c 2147483653, iv_c 2147483651, iv_c v5242, iv_c 2147483648, iv_c 2147483647]) (by decide +kernel) (by decide) (by decide) rfl (by decide) (by first | decide | omega) (by first | decide | omega) rfl ?_
                  refine x_goto (np := 186) (x := 12) (by decide +kernel) ?_
                  have q5360 : h5309 75 30 = h5245 75 30 := jK 0 f5311 rg_75_30_0_1 (by first | decide | omega) (by first | decide | omega) (by decide)
                  have q5361 : h5245 75 30 = h5233 75 30 := jK 0 f5247 rg_75_30_0_1 (by first | decide | omega) (by first | decide | omega) (by decide)
                  have q5362 : h5233 75 30 = (1 + (h3904 75 30)) := by rw [← e5235]; exact x_up_at
                  exact i3960 (iv_c v5242) (iv_c 2147483647) h5309 (by first | decide | omega) j5310 f5315 (by first | decide | omega)
                have q5359 : ¬ (2147483648 = 2147483648) := q5359
                exfalso; omega
              have q5357 : ¬ (2147483647 < 2147483648) := q5357
              exfalso; omega
            have q5256 : ¬ (2147483652 ≠ 2147483653) := q5256
            exfalso; omega
          have q5252 : ¬ (v5242 ≠ 2147483649) := q5252
          refine x_aload (np := 55) (x := 0) (by decide +kernel) rfl (x_nc_le (by decide)) ?_
          have q5363 : h5245 75 34 = h5233 75 34 := jK 0 f5247 rg_75_34_0_1 (by first | decide | omega) (by first | decide | omega) (by decide)
          have q5364 : h5233 75 34 = h3904 75 34 := by rw [← e5235]; exact x_up_i (by first | decide | omega)
          refine x_getC (np := 58) (x := 738) (f := 34) (q := (h3904 75 34)) (by decide +kernel) (by decide) (by decide +kernel) (q5363.trans q5364) (fun l5365 => ?_)
          refine x_ifz (k := 1) (tg := 66) (np := 61) (by decide +kernel) (by decide) l5365 (fun q5366 => ?_) (fun q5367 => ?_)
          · have q5366 : (h3904 75 34) ≠ 2147483648 := q5366
            refine x_aload (np := 67) (x := 0) (by decide +kernel) rfl (x_nc_le (by decide)) ?_
            refine x_dup (np := 68) (x := 0) (by decide +kernel) (by have z := x_nc_le (k := 75) (by decide); unfold x_r; omega) ?_
            have q5368 : h5245 75 34 = h5233 75 34 := jK 0 f5247 rg_75_34_0_1 (by first | decide | omega) (by first | decide | omega) (by decide)
            have q5369 : h5233 75 34 = h3904 75 34 := by rw [← e5235]; exact x_up_i (by first | decide | omega)
            refine x_getC (np := 71) (x := 738) (f := 34) (q := (h3904 75 34)) (by decide +kernel) (by decide) (by decide +kernel) (q5368.trans q5369) (fun l5370 => ?_)
            refine x_const (np := 72) (x := 9223372043297226753) (a := 2147483649) (by decide +kernel) (by decide) (by decide) ?_
            refine x_addA (by rw [tb_b259]; decide +kernel) l5365 (by decide) (fun v5371 l5372 => ?_)
            refine x_putI (np := 76) (x := 738) (f := 34) (by decide +kernel) (by decide +kernel) l5372 (Or.inl (by decide)) ?_
            have j5374 := jU (e := 34) (v := v5371) 0 j5246 rg_75_34_0_1 (by first | decide | omega) (by first | decide | omega) (by first | decide | omega)
            have f5376 := jF (e := 34) (v := v5371) 0 f5249 rg_75_34_0_1 (by first | decide | omega) (by first | decide | omega) (by decide)
            have f5377 := jF (e := 34) (v := v5371) 0 f5250 rg_75_34_0_1 (by first | decide | omega) (by first | decide | omega) (by decide)
            generalize e5375 : x_up h5245 75 34 v5371 = h5373 at j5374 f5376 f5377 ⊢
            refine x_aload (np := 77) (x := 0) (by decide +kernel) rfl (x_nc_le (by decide)) ?_
            have q5378 : h5373 75 33 = h5245 75 33 := by rw [← e5375]; exact x_up_i (by first | decide | omega)
            have q5379 : h5245 75 33 = h5233 75 33 := jK 0 f5247 rg_75_33_0_1 (by first | decide | omega) (by first | decide | omega) (by decide)
            have q5380 : h5233 75 33 = h3904 75 33 := by rw [← e5235]; exact x_up_i (by first | decide | omega)
            have q5381 : h3904 75 33 = h2 75 33 := jK 0 f3906 rg_75_33_0_1 (by first | decide | omega) (by first | decide | omega) (by decide)
            have q5382 : h2 75 33 = h 75 33 := by rw [← e4]; exact x_up_i (by first | decide | omega)
            have b5383 := jB (e := 33) 0 hJ rg_75_33_0_1 (by first | decide | omega) (by first | decide | omega)
            refine x_getC (np := 80) (x := 737) (f := 33) (q := (h 75 33)) (by decide +kernel) (by decide) (by decide +kernel) ((((q5378.trans q5379).trans q5380).trans q5381).trans q5382) (fun l5384 => ?_)
            refine x_ifz (k := 0) (tg := 85) (np := 83) (by decide +kernel) (by decide) l5384 (fun q5385 => ?_) (fun q5386 => ?_)
            · have q5385 : (h 75 33) = 2147483648 := q5385
              refine x_iload (np := 86) (x := 3) (by decide +kernel) rfl l5243 ?_
              refine x_const (np := 87) (x := 9223372043297226753) (a := 2147483649) (by decide +kernel) (by decide) (by decide) ?_
              refine x_icmp (k := 0) (tg := 95) (np := 90) (by decide +kernel) (by decide) l5243 (by decide) (fun q5387 => ?_) (fun q5388 => ?_)
              · have q5387 : v5242 = 2147483649 := q5387
                refine x_aload (np := 96) (x := 0) (by decide +kernel) rfl (x_nc_le (by decide)) ?_
                have q5389 : h5373 75 28 = 94 := by have z := jB (e := 28) 0 j5374 rg_75_28_0_1 (by decide) (by decide); omega
                refine x_getR (np := 99) (x := 732) (f := 28) (q := 94) (by decide +kernel) (by decide) (by decide +kernel) q5389 ?_
                refine x_iload (np := 100) (x := 2) (by decide +kernel) rfl (by decide) ?_
                refine x_const (np := 101) (x := 9223372034707292159) (a := 2147483647) (by decide +kernel) (by decide) (by decide) ?_
                refine x_ast (np := 102) (x := 0) (kd := 1) (n := 6) (i := 4) (by decide +kernel) (Or.inl rfl) (by decide +kernel) (by first | decide | omega) (by first | decide | omega) (by decide) (by decide) (fun z => absurd z (by decide)) ?_
                have j5391 := jU (e := 4) (v := 2147483647) 4 j5374 rg_94_0_1_6 (by first | decide | omega) (by first | decide | omega) (by first | decide | omega)
                have f5393 := jF (e := 4) (v := 2147483647) 4 f5376 rg_94_0_1_6 (by first | decide | omega) (by first | decide | omega) (by decide)
                have f5394 := jF (e := 4) (v := 2147483647) 4 f5377 rg_94_0_1_6 (by first | decide | omega) (by first | decide | omega) (by decide)
                generalize e5392 : x_up h5373 94 4 2147483647 = h5390 at j5391 f5393 f5394 ⊢
                refine x_aload (np := 103) (x := 0) (by decide +kernel) rfl (x_nc_le (by decide)) ?_
                have q5395 : h5390 75 27 = 93 := by have z := jB (e := 27) 0 j5391 rg_75_27_0_1 (by decide) (by decide); omega
                refine x_getR (np := 106) (x := 731) (f := 27) (q := 93) (by decide +kernel) (by decide) (by decide +kernel) q5395 ?_
                refine x_iload (np := 107) (x := 2) (by decide +kernel) rfl (by decide) ?_
                have q5396 : h5390 93 4 = h5373 93 4 := by rw [← e5392]; exact x_up_k (by decide)
                have q5397 : h5373 93 4 = h5245 93 4 := by rw [← e5375]; exact x_up_k (by decide)
                have b5398 := jB (e := 4) 4 j5246 rg_93_0_1_6 (by first | decide | omega) (by first | decide | omega)
                refine x_aldC (np := 108) (x := 0) (n := 6) (i := 4) (q := (h5245 93 4)) (by decide +kernel) (by decide +kernel) (by first | decide | omega) (by first | decide | omega) (by decide) (q5396.trans q5397) (fun l5399 => ?_)
                refine x_ifz (k := 2) (tg := 122) (np := 111) (by decide +kernel) (by decide) l5399 (fun q5400 => ?_) (fun q5401 => ?_)
                · have q5400 : (h5245 93 4) < 2147483648 := q5400
                  refine x_aload (np := 123) (x := 0) (by decide +kernel) rfl (x_nc_le (by decide)) ?_
                  have q5402 : h5390 75 28 = 94 := by have z := jB (e := 28) 0 j5391 rg_75_28_0_1 (by decide) (by decide); omega
                  refine x_getR (np := 126) (x := 732) (f := 28) (q := 94) (by decide +kernel) (by decide) (by decide +kernel) q5402 ?_
                  refine x_iload (np := 127) (x := 2) (by decide +kernel) rfl (by decide) ?_
                  have q5403 : h5390 94 4 = 2147483647 := by rw [← e5392]; exact x_up_at
                  refine x_aldC (np := 128) (x := 0) (n := 6) (i := 4) (q := 2147483647) (by decide +kernel) (by decide +kernel) (by first | decide | omega) (by first | decide | omega) (by decide) q5403 (fun l5404 => ?_)
                  refine x_ifz (k := 3) (tg := 135) (np := 131) (by decide +kernel) (by decide) (by decide) (fun q5405 => ?_) (fun q5406 => ?_)
                  · have q5405 : 2147483648 ≤ 2147483647 := q5405
                    exfalso; omega
                  have q5406 : ¬ (2147483648 ≤ 2147483647) := q5406
                  refine x_const (np := 132) (x := 9223372034707292159) (a := 2147483647) (by decide +kernel) (by decide) (by decide) ?_
                  refine x_goto (np := 135) (x := 140) (by decide +kernel) ?_
                  refine x_istore (np := 142) (x := 5) (lo' := [x_r 75, iv_c 2147483653, iv_c 2147483652, iv_c v5242, iv_c 2147483649, iv_c 2147483647]) (by decide +kernel) (by decide) (Nat.le_of_ble_eq_true rfl) rfl ?_
                  refine x_iload (np := 144) (x := 5) (by decide +kernel) rfl (by decide) ?_
                  refine x_ifz (k := 2) (tg := 151) (np := 147) (by decide +kernel) (by decide) (by decide) (fun q5407 => ?_) (fun q5408 => ?_)
                  · have q5407 : 2147483647 < 2147483648 := q5407
                    refine x_const (np := 152) (x := 9223372039002259456) (a := 2147483648) (by decide +kernel) (by decide) (by decide) ?_
                    refine x_istore (np := 154) (x := 4) (lo' := [x_r 75, iv_c 2147483653, iv_c 2147483652, iv_c v5242, iv_c 2147483648, iv_c 2147483647]) (by decide +kernel) (by decide) (Nat.le_of_ble_eq_true rfl) rfl ?_
                    refine x_iload (np := 156) (x := 4) (by decide +kernel) rfl (by decide) ?_
                    refine x_ifz (k := 0) (tg := 180) (np := 159) (by decide +kernel) (by decide) (by decide) (fun q5409 => ?_) (fun q5410 => ?_)
                    · have q5409 : 2147483648 = 2147483648 := q5409
                      refine x_iinc (np := 183) (i := 2) (j := 2147483647) (v := 2147483651) (lo' := [x_r 75, iv_c 2147483653, iv_c 2147483651, iv_c v5242, iv_c 2147483648, iv_c 2147483647]) (by decide +kernel) (by decide) (by decide) rfl (by decide) (by first | decide | omega) (by first | decide | omega) rfl ?_
                      refine x_goto (np := 186) (x := 12) (by decide +kernel) ?_
                      have q5411 : h5390 75 30 = h5373 75 30 := by rw [← e5392]; exact x_up_k (by decide)
                      have q5412 : h5373 75 30 = h5245 75 30 := by rw [← e5375]; exact x_up_i (by first | decide | omega)
                      have q5413 : h5245 75 30 = h5233 75 30 := jK 0 f5247 rg_75_30_0_1 (by first | decide | omega) (by first | decide | omega) (by decide)
                      have q5414 : h5233 75 30 = (1 + (h3904 75 30)) := by rw [← e5235]; exact x_up_at
                      exact i3960 (iv_c v5242) (iv_c 2147483647) h5390 (by first | decide | omega) j5391 f5394 (by first | decide | omega)
                    have q5410 : ¬ (2147483648 = 2147483648) := q5410
                    exfalso; omega
                  have q5408 : ¬ (2147483647 < 2147483648) := q5408
                  exfalso; omega
                have q5401 : ¬ ((h5245 93 4) < 2147483648) := q5401
                refine x_aload (np := 112) (x := 0) (by decide +kernel) rfl (x_nc_le (by decide)) ?_
                refine x_aload (np := 113) (x := 0) (by decide +kernel) rfl (x_nc_le (by decide)) ?_
                have q5415 : h5390 75 27 = 93 := by have z := jB (e := 27) 0 j5391 rg_75_27_0_1 (by decide) (by decide); omega
                refine x_getR (np := 116) (x := 731) (f := 27) (q := 93) (by decide +kernel) (by decide) (by decide +kernel) q5415 ?_
                refine x_iload (np := 117) (x := 2) (by decide +kernel) rfl (by decide) ?_
                have q5416 : h5390 93 4 = h5373 93 4 := by rw [← e5392]; exact x_up_k (by decide)
                have q5417 : h5373 93 4 = h5245 93 4 := by rw [← e5375]; exact x_up_k (by decide)
                refine x_aldC (np := 118) (x := 0) (n := 6) (i := 4) (q := (h5245 93 4)) (by decide +kernel) (by decide +kernel) (by first | decide | omega) (by first | decide | omega) (by decide) (q5416.trans q5417) (fun l5418 => ?_)
                refine x_const (np := 119) (x := 9223372039002259456) (a := 2147483648) (by decide +kernel) (by decide) (by decide) ?_
                refine x_cV (t := 6) (mj := 248) (n := 3) (rc := 12) (ml := 4) (nr := 0) (np := 122) (as := [x_r 75, iv_c (h5245 93 4), iv_c 2147483648]) (rest := []) (lo1 := [x_r 75, iv_c (h5245 93 4), iv_c 2147483648, 147573952589676412928]) (by decide +kernel) (by decide) (by decide +kernel) (x_rb_of (by decide +kernel)) rfl rfl (x_wr (by decide) (x_wi l5399 (x_wi (by decide) x_wn))) x_wn (by decide) rfl (c248_75 j5391  (by first | decide | omega) (by first | decide | omega)) (fun h5422 q5421 => ?_)
                obtain ⟨j5423, f5424⟩ := q5421
                have f5427 := Fr.trans f5393 f5424 (by decide)
                have f5428 := Fr.trans f5394 f5424 (by decide)
                refine x_aload (np := 123) (x := 0) (by decide +kernel) rfl (x_nc_le (by decide)) ?_
                have q5429 : h5422 75 28 = 94 := by have z := jB (e := 28) 0 j5423 rg_75_28_0_1 (by decide) (by decide); omega
                refine x_getR (np := 126) (x := 732) (f := 28) (q := 94) (by decide +kernel) (by decide) (by decide +kernel) q5429 ?_
                refine x_iload (np := 127) (x := 2) (by decide +kernel) rfl (by decide) ?_
                have q5430 : h5422 94 4 = h5390 94 4 := jK 4 f5424 rg_94_0_1_6 (by first | decide | omega) (by first | decide | omega) (by decide)
                have q5431 : h5390 94 4 = 2147483647 := by rw [← e5392]; exact x_up_at
                refine x_aldC (np := 128) (x := 0) (n := 6) (i := 4) (q := 2147483647) (by decide +kernel) (by decide +kernel) (by first | decide | omega) (by first | decide | omega) (by decide) (q5430.trans q5431) (fun l5432 => ?_)
                refine x_ifz (k := 3) (tg := 135) (np := 131) (by decide +kernel) (by decide) (by decide) (fun q5433 => ?_) (fun q5434 => ?_)
                · have q5433 : 2147483648 ≤ 2147483647 := q5433
                  exfalso; omega
                have q5434 : ¬ (2147483648 ≤ 2147483647) := q5434
                refine x_const (np := 132) (x := 9223372034707292159) (a := 2147483647) (by decide +kernel) (by decide) (by decide) ?_
                refine x_goto (np := 135) (x := 140) (by decide +kernel) ?_
                refine x_istore (np := 142) (x := 5) (lo' := [x_r 75, iv_c 2147483653, iv_c 2147483652, iv_c v5242, iv_c 2147483649, iv_c 2147483647]) (by decide +kernel) (by decide) (Nat.le_of_ble_eq_true rfl) rfl ?_
                refine x_iload (np := 144) (x := 5) (by decide +kernel) rfl (by decide) ?_
                refine x_ifz (k := 2) (tg := 151) (np := 147) (by decide +kernel) (by decide) (by decide) (fun q5435 => ?_) (fun q5436 => ?_)
                · have q5435 : 2147483647 < 2147483648 := q5435
                  refine x_const (np := 152) (x := 9223372039002259456) (a := 2147483648) (by decide +kernel) (by decide) (by decide) ?_
                  refine x_istore (np := 154) (x := 4) (lo' := [x_r 75, iv_c 2147483653, iv_c 2147483652, iv_c v5242, iv_c 2147483648, iv_c 2147483647]) (by decide +kernel) (by decide) (Nat.le_of_ble_eq_true rfl) rfl ?_
                  refine x_iload (np := 156) (x := 4) (by decide +kernel) rfl (by decide) ?_
                  refine x_ifz (k := 0) (tg := 180) (np := 159) (by decide +kernel) (by decide) (by decide) (fun q5437 => ?_) (fun q5438 => ?_)
                  · have q5437 : 2147483648 = 2147483648 := q5437
                    refine x_iinc (np := 183) (i := 2) (j := 2147483647) (v := 2147483651) (lo' := [x_r 75, iv_c 2147483653, iv_c 2147483651, iv_c v5242, iv_c 2147483648, iv_c 2147483647]) (by decide +kernel) (by decide) (by decide) rfl (by decide) (by first | decide | omega) (by first | decide | omega) rfl ?_
                    refine x_goto (np := 186) (x := 12) (by decide +kernel) ?_
                    have q5439 : h5422 75 30 = h5390 75 30 := jK 0 f5424 rg_75_30_0_1 (by first | decide | omega) (by first | decide | omega) (by decide)
                    have q5440 : h5390 75 30 = h5373 75 30 := by rw [← e5392]; exact x_up_k (by decide)
                    have q5441 : h5373 75 30 = h5245 75 30 := by rw [← e5375]; exact x_up_i (by first | decide | omega)
                    have q5442 : h5245 75 30 = h5233 75 30 := jK 0 f5247 rg_75_30_0_1 (by first | decide | omega) (by first | decide | omega) (by decide)
                    have q5443 : h5233 75 30 = (1 + (h3904 75 30)) := by rw [← e5235]; exact x_up_at
                    exact i3960 (iv_c v5242) (iv_c 2147483647) h5422 (by first | decide | omega) j5423 f5428 (by first | decide | omega)
                  have q5438 : ¬ (2147483648 = 2147483648) := q5438
                  exfalso; omega
                have q5436 : ¬ (2147483647 < 2147483648) := q5436
                exfalso; omega
              have q5388 : ¬ (v5242 = 2147483649) := q5388
              exfalso; omega
            have q5386 : ¬ ((h 75 33) = 2147483648) := q5386
            refine x_const (np := 84) (x := 9223372043297226753) (a := 2147483649) (by decide +kernel) (by decide) (by decide) ?_
            have q5444 : h5373 75 30 = h5245 75 30 := by rw [← e5375]; exact x_up_i (by first | decide | omega)
            have q5445 : h5245 75 30 = h5233 75 30 := jK 0 f5247 rg_75_30_0_1 (by first | decide | omega) (by first | decide | omega) (by decide)
            have q5446 : h5233 75 30 = (1 + (h3904 75 30)) := by rw [← e5235]; exact x_up_at
            refine x_retI (np := 85) (x := 0) (by decide +kernel) (by decide) (Or.inr ⟨by decide +kernel, by first | decide | omega, by first | decide | omega⟩) ⟨_, rfl, (by decide), ?_⟩
            exact ⟨j5374, f5376, (by first | decide | omega), (fun z => by first | decide | omega)⟩
          have q5367 : ¬ ((h3904 75 34) ≠ 2147483648) := q5367
          refine x_aload (np := 62) (x := 0) (by decide +kernel) rfl (x_nc_le (by decide)) ?_
          refine x_iload (np := 63) (x := 2) (by decide +kernel) rfl (by decide) ?_
          refine x_cV (t := 6) (mj := 258) (n := 2) (rc := 12) (ml := 4) (nr := 0) (np := 66) (as := [x_r 75, iv_c 2147483652]) (rest := []) (lo1 := [x_r 75, iv_c 2147483652, 147573952589676412928, 147573952589676412928]) (by decide +kernel) (by decide) (by decide +kernel) (x_rb_of (by decide +kernel)) rfl rfl (x_wr (by decide) (x_wi (by decide) x_wn)) x_wn (by decide) rfl (c258_75 j5246  (by first | decide | omega)) (fun h5450 q5449 => ?_)
          obtain ⟨j5451, f5452⟩ := q5449
          have f5455 := Fr.trans f5249 f5452 (by decide)
          have f5456 := Fr.trans f5250 f5452 (by decide)
          refine x_aload (np := 67) (x := 0) (by decide +kernel) rfl (x_nc_le (by decide)) ?_
          refine x_dup (np := 68) (x := 0) (by decide +kernel) (by have z := x_nc_le (k := 75) (by decide); unfold x_r; omega) ?_
          have q5457 : h5450 75 34 = h5245 75 34 := jK 0 f5452 rg_75_34_0_1 (by first | decide | omega) (by first | decide | omega) (by decide)
          have q5458 : h5245 75 34 = h5233 75 34 := jK 0 f5247 rg_75_34_0_1 (by first | decide | omega) (by first | decide | omega) (by decide)
          have q5459 : h5233 75 34 = h3904 75 34 := by rw [← e5235]; exact x_up_i (by first | decide | omega)
          refine x_getC (np := 71) (x := 738) (f := 34) (q := (h3904 75 34)) (by decide +kernel) (by decide) (by decide +kernel) ((q5457.trans q5458).trans q5459) (fun l5460 => ?_)
          refine x_const (np := 72) (x := 9223372043297226753) (a := 2147483649) (by decide +kernel) (by decide) (by decide) ?_
          refine x_iadd (np := 73) (x := 0) (v := (1 + (h3904 75 34))) (by decide +kernel) l5365 (by decide) (by first | decide | omega) (by first | decide | omega) ?_
          refine x_putI (np := 76) (x := 738) (f := 34) (by decide +kernel) (by decide +kernel) (by first | decide | omega) (Or.inl (by decide)) ?_
          have j5462 := jU (e := 34) (v := (1 + (h3904 75 34))) 0 j5451 rg_75_34_0_1 (by first | decide | omega) (by first | decide | omega) (by first | decide | omega)
          have f5464 := jF (e := 34) (v := (1 + (h3904 75 34))) 0 f5455 rg_75_34_0_1 (by first | decide | omega) (by first | decide | omega) (by decide)
          have f5465 := jF (e := 34) (v := (1 + (h3904 75 34))) 0 f5456 rg_75_34_0_1 (by first | decide | omega) (by first | decide | omega) (by decide)
          generalize e5463 : x_up h5450 75 34 (1 + (h3904 75 34)) = h5461 at j5462 f5464 f5465 ⊢
          refine x_aload (np := 77) (x := 0) (by decide +kernel) rfl (x_nc_le (by decide)) ?_
          have q5466 : h5461 75 33 = h5450 75 33 := by rw [← e5463]; exact x_up_i (by first | decide | omega)
          have q5467 : h5450 75 33 = h5245 75 33 := jK 0 f5452 rg_75_33_0_1 (by first | decide | omega) (by first | decide | omega) (by decide)
          have q5468 : h5245 75 33 = h5233 75 33 := jK 0 f5247 rg_75_33_0_1 (by first | decide | omega) (by first | decide | omega) (by decide)
          have q5469 : h5233 75 33 = h3904 75 33 := by rw [← e5235]; exact x_up_i (by first | decide | omega)
          have q5470 : h3904 75 33 = h2 75 33 := jK 0 f3906 rg_75_33_0_1 (by first | decide | omega) (by first | decide | omega) (by decide)
          have q5471 : h2 75 33 = h 75 33 := by rw [← e4]; exact x_up_i (by first | decide | omega)
          have b5472 := jB (e := 33) 0 hJ rg_75_33_0_1 (by first | decide | omega) (by first | decide | omega)
          refine x_getC (np := 80) (x := 737) (f := 33) (q := (h 75 33)) (by decide +kernel) (by decide) (by decide +kernel) (((((q5466.trans q5467).trans q5468).trans q5469).trans q5470).trans q5471) (fun l5473 => ?_)
          refine x_ifz (k := 0) (tg := 85) (np := 83) (by decide +kernel) (by decide) l5473 (fun q5474 => ?_) (fun q5475 => ?_)
          · have q5474 : (h 75 33) = 2147483648 := q5474
            refine x_iload (np := 86) (x := 3) (by decide +kernel) rfl l5243 ?_
            refine x_const (np := 87) (x := 9223372043297226753) (a := 2147483649) (by decide +kernel) (by decide) (by decide) ?_
            refine x_icmp (k := 0) (tg := 95) (np := 90) (by decide +kernel) (by decide) l5243 (by decide) (fun q5476 => ?_) (fun q5477 => ?_)
            · have q5476 : v5242 = 2147483649 := q5476
              refine x_aload (np := 96) (x := 0) (by decide +kernel) rfl (x_nc_le (by decide)) ?_
              have q5478 : h5461 75 28 = 94 := by have z := jB (e := 28) 0 j5462 rg_75_28_0_1 (by decide) (by decide); omega
              refine x_getR (np := 99) (x := 732) (f := 28) (q := 94) (by decide +kernel) (by decide) (by decide +kernel) q5478 ?_
              refine x_iload (np := 100) (x := 2) (by decide +kernel) rfl (by decide) ?_
              refine x_const (np := 101) (x := 9223372034707292159) (a := 2147483647) (by decide +kernel) (by decide) (by decide) ?_
              refine x_ast (np := 102) (x := 0) (kd := 1) (n := 6) (i := 4) (by decide +kernel) (Or.inl rfl) (by decide +kernel) (by first | decide | omega) (by first | decide | omega) (by decide) (by decide) (fun z => absurd z (by decide)) ?_
              have j5480 := jU (e := 4) (v := 2147483647) 4 j5462 rg_94_0_1_6 (by first | decide | omega) (by first | decide | omega) (by first | decide | omega)
              have f5482 := jF (e := 4) (v := 2147483647) 4 f5464 rg_94_0_1_6 (by first | decide | omega) (by first | decide | omega) (by decide)
              have f5483 := jF (e := 4) (v := 2147483647) 4 f5465 rg_94_0_1_6 (by first | decide | omega) (by first | decide | omega) (by decide)
              generalize e5481 : x_up h5461 94 4 2147483647 = h5479 at j5480 f5482 f5483 ⊢
              refine x_aload (np := 103) (x := 0) (by decide +kernel) rfl (x_nc_le (by decide)) ?_
              have q5484 : h5479 75 27 = 93 := by have z := jB (e := 27) 0 j5480 rg_75_27_0_1 (by decide) (by decide); omega
              refine x_getR (np := 106) (x := 731) (f := 27) (q := 93) (by decide +kernel) (by decide) (by decide +kernel) q5484 ?_
              refine x_iload (np := 107) (x := 2) (by decide +kernel) rfl (by decide) ?_
              have q5485 : h5479 93 4 = h5461 93 4 := by rw [← e5481]; exact x_up_k (by decide)
              have q5486 : h5461 93 4 = h5450 93 4 := by rw [← e5463]; exact x_up_k (by decide)
              have q5487 : h5450 93 4 = h5245 93 4 := jK 4 f5452 rg_93_0_1_6 (by first | decide | omega) (by first | decide | omega) (by decide)
              have b5488 := jB (e := 4) 4 j5246 rg_93_0_1_6 (by first | decide | omega) (by first | decide | omega)
              refine x_aldC (np := 108) (x := 0) (n := 6) (i := 4) (q := (h5245 93 4)) (by decide +kernel) (by decide +kernel) (by first | decide | omega) (by first | decide | omega) (by decide) ((q5485.trans q5486).trans q5487) (fun l5489 => ?_)
              refine x_ifz (k := 2) (tg := 122) (np := 111) (by decide +kernel) (by decide) l5489 (fun q5490 => ?_) (fun q5491 => ?_)
              · have q5490 : (h5245 93 4) < 2147483648 := q5490
                refine x_aload (np := 123) (x := 0) (by decide +kernel) rfl (x_nc_le (by decide)) ?_
                have q5492 : h5479 75 28 = 94 := by have z := jB (e := 28) 0 j5480 rg_75_28_0_1 (by decide) (by decide); omega
                refine x_getR (np := 126) (x := 732) (f := 28) (q := 94) (by decide +kernel) (by decide) (by decide +kernel) q5492 ?_
                refine x_iload (np := 127) (x := 2) (by decide +kernel) rfl (by decide) ?_
                have q5493 : h5479 94 4 = 2147483647 := by rw [← e5481]; exact x_up_at
                refine x_aldC (np := 128) (x := 0) (n := 6) (i := 4) (q := 2147483647) (by decide +kernel) (by decide +kernel) (by first | decide | omega) (by first | decide | omega) (by decide) q5493 (fun l5494 => ?_)
                refine x_ifz (k := 3) (tg := 135) (np := 131) (by decide +kernel) (by decide) (by decide) (fun q5495 => ?_) (fun q5496 => ?_)
                · have q5495 : 2147483648 ≤ 2147483647 := q5495
                  exfalso; omega
                have q5496 : ¬ (2147483648 ≤ 2147483647) := q5496
                refine x_const (np := 132) (x := 9223372034707292159) (a := 2147483647) (by decide +kernel) (by decide) (by decide) ?_
                refine x_goto (np := 135) (x := 140) (by decide +kernel) ?_
                refine x_istore (np := 142) (x := 5) (lo' := [x_r 75, iv_c 2147483653, iv_c 2147483652, iv_c v5242, iv_c 2147483649, iv_c 2147483647]) (by decide +kernel) (by decide) (Nat.le_of_ble_eq_true rfl) rfl ?_
                refine x_iload (np := 144) (x := 5) (by decide +kernel) rfl (by decide) ?_
                refine x_ifz (k := 2) (tg := 151) (np := 147) (by decide +kernel) (by decide) (by decide) (fun q5497 => ?_) (fun q5498 => ?_)
                · have q5497 : 2147483647 < 2147483648 := q5497
                  refine x_const (np := 152) (x := 9223372039002259456) (a := 2147483648) (by decide +kernel) (by decide) (by decide) ?_
                  refine x_istore (np := 154) (x := 4) (lo' := [x_r 75, iv_c 2147483653, iv_c 2147483652, iv_c v5242, iv_c 2147483648, iv_c 2147483647]) (by decide +kernel) (by decide) (Nat.le_of_ble_eq_true rfl) rfl ?_
                  refine x_iload (np := 156) (x := 4) (by decide +kernel) rfl (by decide) ?_
                  refine x_ifz (k := 0) (tg := 180) (np := 159) (by decide +kernel) (by decide) (by decide) (fun q5499 => ?_) (fun q5500 => ?_)
                  · have q5499 : 2147483648 = 2147483648 := q5499
                    refine x_iinc (np := 183) (i := 2) (j := 2147483647) (v := 2147483651) (lo' := [x_r 75, iv_c 2147483653, iv_c 2147483651, iv_c v5242, iv_c 2147483648, iv_c 2147483647]) (by decide +kernel) (by decide) (by decide) rfl (by decide) (by first | decide | omega) (by first | decide | omega) rfl ?_
                    refine x_goto (np := 186) (x := 12) (by decide +kernel) ?_
                    have q5501 : h5479 75 30 = h5461 75 30 := by rw [← e5481]; exact x_up_k (by decide)
                    have q5502 : h5461 75 30 = h5450 75 30 := by rw [← e5463]; exact x_up_i (by first | decide | omega)
                    have q5503 : h5450 75 30 = h5245 75 30 := jK 0 f5452 rg_75_30_0_1 (by first | decide | omega) (by first | decide | omega) (by decide)
                    have q5504 : h5245 75 30 = h5233 75 30 := jK 0 f5247 rg_75_30_0_1 (by first | decide | omega) (by first | decide | omega) (by decide)
                    have q5505 : h5233 75 30 = (1 + (h3904 75 30)) := by rw [← e5235]; exact x_up_at
                    exact i3960 (iv_c v5242) (iv_c 2147483647) h5479 (by first | decide | omega) j5480 f5483 (by first | decide | omega)
                  have q5500 : ¬ (2147483648 = 2147483648) := q5500
                  exfalso; omega
                have q5498 : ¬ (2147483647 < 2147483648) := q5498
                exfalso; omega
              have q5491 : ¬ ((h5245 93 4) < 2147483648) := q5491
              refine x_aload (np := 112) (x := 0) (by decide +kernel) rfl (x_nc_le (by decide)) ?_
              refine x_aload (np := 113) (x := 0) (by decide +kernel) rfl (x_nc_le (by decide)) ?_
              have q5506 : h5479 75 27 = 93 := by have z := jB (e := 27) 0 j5480 rg_75_27_0_1 (by decide) (by decide); omega
              refine x_getR (np := 116) (x := 731) (f := 27) (q := 93) (by decide +kernel) (by decide) (by decide +kernel) q5506 ?_
              refine x_iload (np := 117) (x := 2) (by decide +kernel) rfl (by decide) ?_
              have q5507 : h5479 93 4 = h5461 93 4 := by rw [← e5481]; exact x_up_k (by decide)
              have q5508 : h5461 93 4 = h5450 93 4 := by rw [← e5463]; exact x_up_k (by decide)
              have q5509 : h5450 93 4 = h5245 93 4 := jK 4 f5452 rg_93_0_1_6 (by first | decide | omega) (by first | decide | omega) (by decide)
              refine x_aldC (np := 118) (x := 0) (n := 6) (i := 4) (q := (h5245 93 4)) (by decide +kernel) (by decide +kernel) (by first | decide | omega) (by first | decide | omega) (by decide) ((q5507.trans q5508).trans q5509) (fun l5510 => ?_)
              refine x_const (np := 119) (x := 9223372039002259456) (a := 2147483648) (by decide +kernel) (by decide) (by decide) ?_
              refine x_cV (t := 6) (mj := 248) (n := 3) (rc := 12) (ml := 4) (nr := 0) (np := 122) (as := [x_r 75, iv_c (h5245 93 4), iv_c 2147483648]) (rest := []) (lo1 := [x_r 75, iv_c (h5245 93 4), iv_c 2147483648, 147573952589676412928]) (by decide +kernel) (by decide) (by decide +kernel) (x_rb_of (by decide +kernel)) rfl rfl (x_wr (by decide) (x_wi l5489 (x_wi (by decide) x_wn))) x_wn (by decide) rfl (c248_75 j5480  (by first | decide | omega) (by first | decide | omega)) (fun h5514 q5513 => ?_)
              obtain ⟨j5515, f5516⟩ := q5513
              have f5519 := Fr.trans f5482 f5516 (by decide)
              have f5520 := Fr.trans f5483 f5516 (by decide)
              refine x_aload (np := 123) (x := 0) (by decide +kernel) rfl (x_nc_le (by decide)) ?_
              have q5521 : h5514 75 28 = 94 := by have z := jB (e := 28) 0 j5515 rg_75_28_0_1 (by decide) (by decide); omega
              refine x_getR (np := 126) (x := 732) (f := 28) (q := 94) (by decide +kernel) (by decide) (by decide +kernel) q5521 ?_
              refine x_iload (np := 127) (x := 2) (by decide +kernel) rfl (by decide) ?_
              have q5522 : h5514 94 4 = h5479 94 4 := jK 4 f5516 rg_94_0_1_6 (by first | decide | omega) (by first | decide | omega) (by decide)
              have q5523 : h5479 94 4 = 2147483647 := by rw [← e5481]; exact x_up_at
              refine x_aldC (np := 128) (x := 0) (n := 6) (i := 4) (q := 2147483647) (by decide +kernel) (by decide +kernel) (by first | decide | omega) (by first | decide | omega) (by decide) (q5522.trans q5523) (fun l5524 => ?_)
              refine x_ifz (k := 3) (tg := 135) (np := 131) (by decide +kernel) (by decide) (by decide) (fun q5525 => ?_) (fun q5526 => ?_)
              · have q5525 : 2147483648 ≤ 2147483647 := q5525
                exfalso; omega
              have q5526 : ¬ (2147483648 ≤ 2147483647) := q5526
              refine x_const (np := 132) (x := 9223372034707292159) (a := 2147483647) (by decide +kernel) (by decide) (by decide) ?_
              refine x_goto (np := 135) (x := 140) (by decide +kernel) ?_
              refine x_istore (np := 142) (x := 5) (lo' := [x_r 75, iv_c 2147483653, iv_c 2147483652, iv_c v5242, iv_c 2147483649, iv_c 2147483647]) (by decide +kernel) (by decide) (Nat.le_of_ble_eq_true rfl) rfl ?_
              refine x_iload (np := 144) (x := 5) (by decide +kernel) rfl (by decide) ?_
              refine x_ifz (k := 2) (tg := 151) (np := 147) (by decide +kernel) (by decide) (by decide) (fun q5527 => ?_) (fun q5528 => ?_)
              · have q5527 : 2147483647 < 2147483648 := q5527
                refine x_const (np := 152) (x := 9223372039002259456) (a := 2147483648) (by decide +kernel) (by decide) (by decide) ?_
                refine x_istore (np := 154) (x := 4) (lo' := [x_r 75, iv_c 2147483653, iv_c 2147483652, iv_c v5242, iv_c 2147483648, iv_c 2147483647]) (by decide +kernel) (by decide) (Nat.le_of_ble_eq_true rfl) rfl ?_
                refine x_iload (np := 156) (x := 4) (by decide +kernel) rfl (by decide) ?_
                refine x_ifz (k := 0) (tg := 180) (np := 159) (by decide +kernel) (by decide) (by decide) (fun q5529 => ?_) (fun q5530 => ?_)
                · have q5529 : 2147483648 = 2147483648 := q5529
                  refine x_iinc (np := 183) (i := 2) (j := 2147483647) (v := 2147483651) (lo' := [x_r 75, iv_c 2147483653, iv_c 2147483651, iv_c v5242, iv_c 2147483648, iv_c 2147483647]) (by decide +kernel) (by decide) (by decide) rfl (by decide) (by first | decide | omega) (by first | decide | omega) rfl ?_
                  refine x_goto (np := 186) (x := 12) (by decide +kernel) ?_
                  have q5531 : h5514 75 30 = h5479 75 30 := jK 0 f5516 rg_75_30_0_1 (by first | decide | omega) (by first | decide | omega) (by decide)
                  have q5532 : h5479 75 30 = h5461 75 30 := by rw [← e5481]; exact x_up_k (by decide)
                  have q5533 : h5461 75 30 = h5450 75 30 := by rw [← e5463]; exact x_up_i (by first | decide | omega)
                  have q5534 : h5450 75 30 = h5245 75 30 := jK 0 f5452 rg_75_30_0_1 (by first | decide | omega) (by first | decide | omega) (by decide)
                  have q5535 : h5245 75 30 = h5233 75 30 := jK 0 f5247 rg_75_30_0_1 (by first | decide | omega) (by first | decide | omega) (by decide)
                  have q5536 : h5233 75 30 = (1 + (h3904 75 30)) := by rw [← e5235]; exact x_up_at
                  exact i3960 (iv_c v5242) (iv_c 2147483647) h5514 (by first | decide | omega) j5515 f5520 (by first | decide | omega)
                have q5530 : ¬ (2147483648 = 2147483648) := q5530
                exfalso; omega
              have q5528 : ¬ (2147483647 < 2147483648) := q5528
              exfalso; omega
            have q5477 : ¬ (v5242 = 2147483649) := q5477
            exfalso; omega
          have q5475 : ¬ ((h 75 33) = 2147483648) := q5475
          refine x_const (np := 84) (x := 9223372043297226753) (a := 2147483649) (by decide +kernel) (by decide) (by decide) ?_
          have q5537 : h5461 75 30 = h5450 75 30 := by rw [← e5463]; exact x_up_i (by first | decide | omega)
          have q5538 : h5450 75 30 = h5245 75 30 := jK 0 f5452 rg_75_30_0_1 (by first | decide | omega) (by first | decide | omega) (by decide)
          have q5539 : h5245 75 30 = h5233 75 30 := jK 0 f5247 rg_75_30_0_1 (by first | decide | omega) (by first | decide | omega) (by decide)
          have q5540 : h5233 75 30 = (1 + (h3904 75 30)) := by rw [← e5235]; exact x_up_at
          refine x_retI (np := 85) (x := 0) (by decide +kernel) (by decide) (Or.inr ⟨by decide +kernel, by first | decide | omega, by first | decide | omega⟩) ⟨_, rfl, (by decide), ?_⟩
          exact ⟨j5462, f5464, (by first | decide | omega), (fun z => by first | decide | omega)⟩
        have q5241 : ¬ ((1 + (h3904 75 30)) ≤ 2147503648) := q5241
        refine x_const (np := 42) (x := 9223372039002259456) (a := 2147483648) (by decide +kernel) (by decide) (by decide) ?_
        have q5541 : h5233 75 30 = (1 + (h3904 75 30)) := by rw [← e5235]; exact x_up_at
        refine x_retI (np := 43) (x := 0) (by decide +kernel) (by decide) (Or.inr ⟨by decide +kernel, by first | decide | omega, by first | decide | omega⟩) ⟨_, rfl, (by decide), ?_⟩
        exact ⟨j5234, f5236, (by first | decide | omega), (fun z => by first | decide | omega)⟩
      · intro w3908 w3909 h3910 q5542 j3913 f3912 b3911
        have f5543 := Fr.trans f5 f3912 (by decide)
        refine x_iload (np := 13) (x := 2) (by decide +kernel) rfl (by decide) ?_
        refine x_ifz (k := 2) (tg := 186) (np := 16) (by decide +kernel) (by decide) (by decide) (fun q5544 => ?_) (fun q5545 => ?_)
        · have q5544 : 2147483653 < 2147483648 := q5544
          exfalso; omega
        have q5545 : ¬ (2147483653 < 2147483648) := q5545
        refine x_iload (np := 18) (x := 4) (by decide +kernel) rfl (by decide) ?_
        refine x_ifz (k := 0) (tg := 102) (np := 21) (by decide +kernel) (by decide) (by decide) (fun q5546 => ?_) (fun q5547 => ?_)
        · have q5546 : 2147483649 = 2147483648 := q5546
          exfalso; omega
        have q5547 : ¬ (2147483649 = 2147483648) := q5547
        refine x_aload (np := 22) (x := 0) (by decide +kernel) rfl (x_nc_le (by decide)) ?_
        refine x_dup (np := 23) (x := 0) (by decide +kernel) (by have z := x_nc_le (k := 75) (by decide); unfold x_r; omega) ?_
        refine x_getC (np := 26) (x := 734) (f := 30) (q := (h3910 75 30)) (by decide +kernel) (by decide) (by decide +kernel) rfl (fun l5548 => ?_)
        refine x_const (np := 27) (x := 9223372043297226753) (a := 2147483649) (by decide +kernel) (by decide) (by decide) ?_
        refine x_iadd (np := 28) (x := 0) (v := (1 + (h3910 75 30))) (by decide +kernel) l5548 (by decide) (by first | decide | omega) (by first | decide | omega) ?_
        refine x_putI (np := 31) (x := 734) (f := 30) (by decide +kernel) (by decide +kernel) (by first | decide | omega) (Or.inl (by decide)) ?_
        have j5550 := jU (e := 30) (v := (1 + (h3910 75 30))) 0 j3913 rg_75_30_0_1 (by first | decide | omega) (by first | decide | omega) (by first | decide | omega)
        have f5552 := jF (e := 30) (v := (1 + (h3910 75 30))) 0 f5543 rg_75_30_0_1 (by first | decide | omega) (by first | decide | omega) (by decide)
        have f5553 := jF (e := 30) (v := (1 + (h3910 75 30))) 0 f3912 rg_75_30_0_1 (by first | decide | omega) (by first | decide | omega) (by decide)
        generalize e5551 : x_up h3910 75 30 (1 + (h3910 75 30)) = h5549 at j5550 f5552 f5553 ⊢
        refine x_aload (np := 32) (x := 0) (by decide +kernel) rfl (x_nc_le (by decide)) ?_
        have q5554 : h5549 75 30 = (1 + (h3910 75 30)) := by rw [← e5551]; exact x_up_at
        refine x_getC (np := 35) (x := 734) (f := 30) (q := (1 + (h3910 75 30))) (by decide +kernel) (by decide) (by decide +kernel) q5554 (fun l5555 => ?_)
        refine x_const (np := 38) (x := 9223457938348199456) (a := 2147503648) (by decide +kernel) (by decide) (by decide) ?_
        refine x_icmp (k := 5) (tg := 43) (np := 41) (by decide +kernel) (by decide) (by first | decide | omega) (by decide) (fun q5556 => ?_) (fun q5557 => ?_)
        · have q5556 : (1 + (h3910 75 30)) ≤ 2147503648 := q5556
          refine x_aload (np := 44) (x := 0) (by decide +kernel) rfl (x_nc_le (by decide)) ?_
          refine x_iload (np := 45) (x := 2) (by decide +kernel) rfl (by decide) ?_
          refine x_cI (t := 6) (mj := 254) (n := 2) (rc := 12) (ml := 4) (nr := 0) (np := 48) (as := [x_r 75, iv_c 2147483653]) (rest := []) (lo1 := [x_r 75, iv_c 2147483653, 147573952589676412928, 147573952589676412928]) (by decide +kernel) (by decide) (by decide +kernel) (x_rb_of (by decide +kernel)) rfl rfl (x_wr (by decide) (x_wi (by decide) x_wn)) x_wn (by decide) rfl (c254_75 j5550  (by first | decide | omega)) (fun v5558 h5561 l5559 q5560 => ?_)
          obtain ⟨j5562, f5563, b5564⟩ := q5560
          have f5565 := Fr.trans f5552 f5563 (by decide)
          have f5566 := Fr.trans f5553 f5563 (by decide)
          refine x_istore (np := 49) (x := 3) (lo' := [x_r 75, iv_c 2147483653, iv_c 2147483653, iv_c v5558, iv_c 2147483649, w3909]) (by decide +kernel) l5559 (Nat.le_of_ble_eq_true rfl) rfl ?_
          refine x_iload (np := 50) (x := 3) (by decide +kernel) rfl l5559 ?_
          refine x_const (np := 51) (x := 9223372043297226753) (a := 2147483649) (by decide +kernel) (by decide) (by decide) ?_
          refine x_icmp (k := 1) (tg := 85) (np := 54) (by decide +kernel) (by decide) l5559 (by decide) (fun q5567 => ?_) (fun q5568 => ?_)
          · have q5567 : v5558 ≠ 2147483649 := q5567
            refine x_iload (np := 86) (x := 3) (by decide +kernel) rfl l5559 ?_
            refine x_const (np := 87) (x := 9223372043297226753) (a := 2147483649) (by decide +kernel) (by decide) (by decide) ?_
            refine x_icmp (k := 0) (tg := 95) (np := 90) (by decide +kernel) (by decide) l5559 (by decide) (fun q5569 => ?_) (fun q5570 => ?_)
            · have q5569 : v5558 = 2147483649 := q5569
              exfalso; omega
            have q5570 : ¬ (v5558 = 2147483649) := q5570
            refine x_iload (np := 91) (x := 2) (by decide +kernel) rfl (by decide) ?_
            refine x_iload (np := 92) (x := 1) (by decide +kernel) rfl (by decide) ?_
            refine x_icmp (k := 1) (tg := 102) (np := 95) (by decide +kernel) (by decide) (by decide) (by decide) (fun q5571 => ?_) (fun q5572 => ?_)
            · have q5571 : 2147483653 ≠ 2147483653 := q5571
              exfalso; omega
            have q5572 : ¬ (2147483653 ≠ 2147483653) := q5572
            refine x_aload (np := 96) (x := 0) (by decide +kernel) rfl (x_nc_le (by decide)) ?_
            have q5573 : h5561 75 28 = 94 := by have z := jB (e := 28) 0 j5562 rg_75_28_0_1 (by decide) (by decide); omega
            refine x_getR (np := 99) (x := 732) (f := 28) (q := 94) (by decide +kernel) (by decide) (by decide +kernel) q5573 ?_
            refine x_iload (np := 100) (x := 2) (by decide +kernel) rfl (by decide) ?_
            refine x_const (np := 101) (x := 9223372034707292159) (a := 2147483647) (by decide +kernel) (by decide) (by decide) ?_
            refine x_ast (np := 102) (x := 0) (kd := 1) (n := 6) (i := 5) (by decide +kernel) (Or.inl rfl) (by decide +kernel) (by first | decide | omega) (by first | decide | omega) (by decide) (by decide) (fun z => absurd z (by decide)) ?_
            have j5575 := jU (e := 5) (v := 2147483647) 5 j5562 rg_94_0_1_6 (by first | decide | omega) (by first | decide | omega) (by first | decide | omega)
            have f5577 := jF (e := 5) (v := 2147483647) 5 f5565 rg_94_0_1_6 (by first | decide | omega) (by first | decide | omega) (by decide)
            have f5578 := jF (e := 5) (v := 2147483647) 5 f5566 rg_94_0_1_6 (by first | decide | omega) (by first | decide | omega) (by decide)
            generalize e5576 : x_up h5561 94 5 2147483647 = h5574 at j5575 f5577 f5578 ⊢
            refine x_aload (np := 103) (x := 0) (by decide +kernel) rfl (x_nc_le (by decide)) ?_
            have q5579 : h5574 75 27 = 93 := by have z := jB (e := 27) 0 j5575 rg_75_27_0_1 (by decide) (by decide); omega
            refine x_getR (np := 106) (x := 731) (f := 27) (q := 93) (by decide +kernel) (by decide) (by decide +kernel) q5579 ?_
            refine x_iload (np := 107) (x := 2) (by decide +kernel) rfl (by decide) ?_
            have q5580 : h5574 93 5 = h5561 93 5 := by rw [← e5576]; exact x_up_k (by decide)
            have b5581 := jB (e := 5) 5 j5562 rg_93_0_1_6 (by first | decide | omega) (by first | decide | omega)
            refine x_aldC (np := 108) (x := 0) (n := 6) (i := 5) (q := (h5561 93 5)) (by decide +kernel) (by decide +kernel) (by first | decide | omega) (by first | decide | omega) (by decide) q5580 (fun l5582 => ?_)
            refine x_ifz (k := 2) (tg := 122) (np := 111) (by decide +kernel) (by decide) l5582 (fun q5583 => ?_) (fun q5584 => ?_)
            · have q5583 : (h5561 93 5) < 2147483648 := q5583
              refine x_aload (np := 123) (x := 0) (by decide +kernel) rfl (x_nc_le (by decide)) ?_
              have q5585 : h5574 75 28 = 94 := by have z := jB (e := 28) 0 j5575 rg_75_28_0_1 (by decide) (by decide); omega
              refine x_getR (np := 126) (x := 732) (f := 28) (q := 94) (by decide +kernel) (by decide) (by decide +kernel) q5585 ?_
              refine x_iload (np := 127) (x := 2) (by decide +kernel) rfl (by decide) ?_
              have q5586 : h5574 94 5 = 2147483647 := by rw [← e5576]; exact x_up_at
              refine x_aldC (np := 128) (x := 0) (n := 6) (i := 5) (q := 2147483647) (by decide +kernel) (by decide +kernel) (by first | decide | omega) (by first | decide | omega) (by decide) q5586 (fun l5587 => ?_)
              refine x_ifz (k := 3) (tg := 135) (np := 131) (by decide +kernel) (by decide) (by decide) (fun q5588 => ?_) (fun q5589 => ?_)
              · have q5588 : 2147483648 ≤ 2147483647 := q5588
                exfalso; omega
              have q5589 : ¬ (2147483648 ≤ 2147483647) := q5589
              refine x_const (np := 132) (x := 9223372034707292159) (a := 2147483647) (by decide +kernel) (by decide) (by decide) ?_
              refine x_goto (np := 135) (x := 140) (by decide +kernel) ?_
              refine x_istore (np := 142) (x := 5) (lo' := [x_r 75, iv_c 2147483653, iv_c 2147483653, iv_c v5558, iv_c 2147483649, iv_c 2147483647]) (by decide +kernel) (by decide) (Nat.le_of_ble_eq_true rfl) rfl ?_
              refine x_iload (np := 144) (x := 5) (by decide +kernel) rfl (by decide) ?_
              refine x_ifz (k := 2) (tg := 151) (np := 147) (by decide +kernel) (by decide) (by decide) (fun q5590 => ?_) (fun q5591 => ?_)
              · have q5590 : 2147483647 < 2147483648 := q5590
                refine x_const (np := 152) (x := 9223372039002259456) (a := 2147483648) (by decide +kernel) (by decide) (by decide) ?_
                refine x_istore (np := 154) (x := 4) (lo' := [x_r 75, iv_c 2147483653, iv_c 2147483653, iv_c v5558, iv_c 2147483648, iv_c 2147483647]) (by decide +kernel) (by decide) (Nat.le_of_ble_eq_true rfl) rfl ?_
                refine x_iload (np := 156) (x := 4) (by decide +kernel) rfl (by decide) ?_
                refine x_ifz (k := 0) (tg := 180) (np := 159) (by decide +kernel) (by decide) (by decide) (fun q5592 => ?_) (fun q5593 => ?_)
                · have q5592 : 2147483648 = 2147483648 := q5592
                  refine x_iinc (np := 183) (i := 2) (j := 2147483647) (v := 2147483652) (lo' := [x_r 75, iv_c 2147483653, iv_c 2147483652, iv_c v5558, iv_c 2147483648, iv_c 2147483647]) (by decide +kernel) (by decide) (by decide) rfl (by decide) (by first | decide | omega) (by first | decide | omega) rfl ?_
                  refine x_goto (np := 186) (x := 12) (by decide +kernel) ?_
                  have q5594 : h5574 75 30 = h5561 75 30 := by rw [← e5576]; exact x_up_k (by decide)
                  have q5595 : h5561 75 30 = h5549 75 30 := jK 0 f5563 rg_75_30_0_1 (by first | decide | omega) (by first | decide | omega) (by decide)
                  have q5596 : h5549 75 30 = (1 + (h3910 75 30)) := by rw [← e5551]; exact x_up_at
                  exact i3961 (iv_c v5558) (iv_c 2147483647) h5574 (by first | decide | omega) j5575 f5578 (by first | decide | omega)
                have q5593 : ¬ (2147483648 = 2147483648) := q5593
                exfalso; omega
              have q5591 : ¬ (2147483647 < 2147483648) := q5591
              exfalso; omega
            have q5584 : ¬ ((h5561 93 5) < 2147483648) := q5584
            refine x_aload (np := 112) (x := 0) (by decide +kernel) rfl (x_nc_le (by decide)) ?_
            refine x_aload (np := 113) (x := 0) (by decide +kernel) rfl (x_nc_le (by decide)) ?_
            have q5597 : h5574 75 27 = 93 := by have z := jB (e := 27) 0 j5575 rg_75_27_0_1 (by decide) (by decide); omega
            refine x_getR (np := 116) (x := 731) (f := 27) (q := 93) (by decide +kernel) (by decide) (by decide +kernel) q5597 ?_
            refine x_iload (np := 117) (x := 2) (by decide +kernel) rfl (by decide) ?_
            have q5598 : h5574 93 5 = h5561 93 5 := by rw [← e5576]; exact x_up_k (by decide)
            refine x_aldC (np := 118) (x := 0) (n := 6) (i := 5) (q := (h5561 93 5)) (by decide +kernel) (by decide +kernel) (by first | decide | omega) (by first | decide | omega) (by decide) q5598 (fun l5599 => ?_)
            refine x_const (np := 119) (x := 9223372039002259456) (a := 2147483648) (by decide +kernel) (by decide) (by decide) ?_
            refine x_cV (t := 6) (mj := 248) (n := 3) (rc := 12) (ml := 4) (nr := 0) (np := 122) (as := [x_r 75, iv_c (h5561 93 5), iv_c 2147483648]) (rest := []) (lo1 := [x_r 75, iv_c (h5561 93 5), iv_c 2147483648, 147573952589676412928]) (by decide +kernel) (by decide) (by decide +kernel) (x_rb_of (by decide +kernel)) rfl rfl (x_wr (by decide) (x_wi l5582 (x_wi (by decide) x_wn))) x_wn (by decide) rfl (c248_75 j5575  (by first | decide | omega) (by first | decide | omega)) (fun h5603 q5602 => ?_)
            obtain ⟨j5604, f5605⟩ := q5602
            have f5608 := Fr.trans f5577 f5605 (by decide)
            have f5609 := Fr.trans f5578 f5605 (by decide)
            refine x_aload (np := 123) (x := 0) (by decide +kernel) rfl (x_nc_le (by decide)) ?_
            have q5610 : h5603 75 28 = 94 := by have z := jB (e := 28) 0 j5604 rg_75_28_0_1 (by decide) (by decide); omega
            refine x_getR (np := 126) (x := 732) (f := 28) (q := 94) (by decide +kernel) (by decide) (by decide +kernel) q5610 ?_
            refine x_iload (np := 127) (x := 2) (by decide +kernel) rfl (by decide) ?_
            have q5611 : h5603 94 5 = h5574 94 5 := jK 5 f5605 rg_94_0_1_6 (by first | decide | omega) (by first | decide | omega) (by decide)
            have q5612 : h5574 94 5 = 2147483647 := by rw [← e5576]; exact x_up_at
            refine x_aldC (np := 128) (x := 0) (n := 6) (i := 5) (q := 2147483647) (by decide +kernel) (by decide +kernel) (by first | decide | omega) (by first | decide | omega) (by decide) (q5611.trans q5612) (fun l5613 => ?_)
            refine x_ifz (k := 3) (tg := 135) (np := 131) (by decide +kernel) (by decide) (by decide) (fun q5614 => ?_) (fun q5615 => ?_)
            · have q5614 : 2147483648 ≤ 2147483647 := q5614
              exfalso; omega
            have q5615 : ¬ (2147483648 ≤ 2147483647) := q5615
            refine x_const (np := 132) (x := 9223372034707292159) (a := 2147483647) (by decide +kernel) (by decide) (by decide) ?_
            refine x_goto (np := 135) (x := 140) (by decide +kernel) ?_
            refine x_istore (np := 142) (x := 5) (lo' := [x_r 75, iv_c 2147483653, iv_c 2147483653, iv_c v5558, iv_c 2147483649, iv_c 2147483647]) (by decide +kernel) (by decide) (Nat.le_of_ble_eq_true rfl) rfl ?_
            refine x_iload (np := 144) (x := 5) (by decide +kernel) rfl (by decide) ?_
            refine x_ifz (k := 2) (tg := 151) (np := 147) (by decide +kernel) (by decide) (by decide) (fun q5616 => ?_) (fun q5617 => ?_)
            · have q5616 : 2147483647 < 2147483648 := q5616
              refine x_const (np := 152) (x := 9223372039002259456) (a := 2147483648) (by decide +kernel) (by decide) (by decide) ?_
              refine x_istore (np := 154) (x := 4) (lo' := [x_r 75, iv_c 2147483653, iv_c 2147483653, iv_c v5558, iv_c 2147483648, iv_c 2147483647]) (by decide +kernel) (by decide) (Nat.le_of_ble_eq_true rfl) rfl ?_
              refine x_iload (np := 156) (x := 4) (by decide +kernel) rfl (by decide) ?_
              refine x_ifz (k := 0) (tg := 180) (np := 159) (by decide +kernel) (by decide) (by decide) (fun q5618 => ?_) (fun q5619 => ?_)
              · have q5618 : 2147483648 = 2147483648 := q5618
                refine x_iinc (np := 183) (i := 2) (j := 2147483647) (v := 2147483652) (lo' := [x_r 75, iv_c 2147483653, iv_c 2147483652, iv_c v5558, iv_c 2147483648, iv_c 2147483647]) (by decide +kernel) (by decide) (by decide) rfl (by decide) (by first | decide | omega) (by first | decide | omega) rfl ?_
                refine x_goto (np := 186) (x := 12) (by decide +kernel) ?_
                have q5620 : h5603 75 30 = h5574 75 30 := jK 0 f5605 rg_75_30_0_1 (by first | decide | omega) (by first | decide | omega) (by decide)
                have q5621 : h5574 75 30 = h5561 75 30 := by rw [← e5576]; exact x_up_k (by decide)
                have q5622 : h5561 75 30 = h5549 75 30 := jK 0 f5563 rg_75_30_0_1 (by first | decide | omega) (by first | decide | omega) (by decide)
                have q5623 : h5549 75 30 = (1 + (h3910 75 30)) := by rw [← e5551]; exact x_up_at
                exact i3961 (iv_c v5558) (iv_c 2147483647) h5603 (by first | decide | omega) j5604 f5609 (by first | decide | omega)
              have q5619 : ¬ (2147483648 = 2147483648) := q5619
              exfalso; omega
            have q5617 : ¬ (2147483647 < 2147483648) := q5617
            exfalso; omega
          have q5568 : ¬ (v5558 ≠ 2147483649) := q5568
          refine x_aload (np := 55) (x := 0) (by decide +kernel) rfl (x_nc_le (by decide)) ?_
          have q5624 : h5561 75 34 = h5549 75 34 := jK 0 f5563 rg_75_34_0_1 (by first | decide | omega) (by first | decide | omega) (by decide)
          have q5625 : h5549 75 34 = h3910 75 34 := by rw [← e5551]; exact x_up_i (by first | decide | omega)
          refine x_getC (np := 58) (x := 738) (f := 34) (q := (h3910 75 34)) (by decide +kernel) (by decide) (by decide +kernel) (q5624.trans q5625) (fun l5626 => ?_)
          refine x_ifz (k := 1) (tg := 66) (np := 61) (by decide +kernel) (by decide) l5626 (fun q5627 => ?_) (fun q5628 => ?_)
          · have q5627 : (h3910 75 34) ≠ 2147483648 := q5627
            refine x_aload (np := 67) (x := 0) (by decide +kernel) rfl (x_nc_le (by decide)) ?_
            refine x_dup (np := 68) (x := 0) (by decide +kernel) (by have z := x_nc_le (k := 75) (by decide); unfold x_r; omega) ?_
            have q5629 : h5561 75 34 = h5549 75 34 := jK 0 f5563 rg_75_34_0_1 (by first | decide | omega) (by first | decide | omega) (by decide)
            have q5630 : h5549 75 34 = h3910 75 34 := by rw [← e5551]; exact x_up_i (by first | decide | omega)
            refine x_getC (np := 71) (x := 738) (f := 34) (q := (h3910 75 34)) (by decide +kernel) (by decide) (by decide +kernel) (q5629.trans q5630) (fun l5631 => ?_)
            refine x_const (np := 72) (x := 9223372043297226753) (a := 2147483649) (by decide +kernel) (by decide) (by decide) ?_
            refine x_addA (by rw [tb_b259]; decide +kernel) l5626 (by decide) (fun v5632 l5633 => ?_)
            refine x_putI (np := 76) (x := 738) (f := 34) (by decide +kernel) (by decide +kernel) l5633 (Or.inl (by decide)) ?_
            have j5635 := jU (e := 34) (v := v5632) 0 j5562 rg_75_34_0_1 (by first | decide | omega) (by first | decide | omega) (by first | decide | omega)
            have f5637 := jF (e := 34) (v := v5632) 0 f5565 rg_75_34_0_1 (by first | decide | omega) (by first | decide | omega) (by decide)
            have f5638 := jF (e := 34) (v := v5632) 0 f5566 rg_75_34_0_1 (by first | decide | omega) (by first | decide | omega) (by decide)
            generalize e5636 : x_up h5561 75 34 v5632 = h5634 at j5635 f5637 f5638 ⊢
            refine x_aload (np := 77) (x := 0) (by decide +kernel) rfl (x_nc_le (by decide)) ?_
            have q5639 : h5634 75 33 = h5561 75 33 := by rw [← e5636]; exact x_up_i (by first | decide | omega)
            have q5640 : h5561 75 33 = h5549 75 33 := jK 0 f5563 rg_75_33_0_1 (by first | decide | omega) (by first | decide | omega) (by decide)
            have q5641 : h5549 75 33 = h3910 75 33 := by rw [← e5551]; exact x_up_i (by first | decide | omega)
            have q5642 : h3910 75 33 = h2 75 33 := jK 0 f3912 rg_75_33_0_1 (by first | decide | omega) (by first | decide | omega) (by decide)
            have q5643 : h2 75 33 = h 75 33 := by rw [← e4]; exact x_up_i (by first | decide | omega)
            have b5644 := jB (e := 33) 0 hJ rg_75_33_0_1 (by first | decide | omega) (by first | decide | omega)
            refine x_getC (np := 80) (x := 737) (f := 33) (q := (h 75 33)) (by decide +kernel) (by decide) (by decide +kernel) ((((q5639.trans q5640).trans q5641).trans q5642).trans q5643) (fun l5645 => ?_)
            refine x_ifz (k := 0) (tg := 85) (np := 83) (by decide +kernel) (by decide) l5645 (fun q5646 => ?_) (fun q5647 => ?_)
            · have q5646 : (h 75 33) = 2147483648 := q5646
              refine x_iload (np := 86) (x := 3) (by decide +kernel) rfl l5559 ?_
              refine x_const (np := 87) (x := 9223372043297226753) (a := 2147483649) (by decide +kernel) (by decide) (by decide) ?_
              refine x_icmp (k := 0) (tg := 95) (np := 90) (by decide +kernel) (by decide) l5559 (by decide) (fun q5648 => ?_) (fun q5649 => ?_)
              · have q5648 : v5558 = 2147483649 := q5648
                refine x_aload (np := 96) (x := 0) (by decide +kernel) rfl (x_nc_le (by decide)) ?_
                have q5650 : h5634 75 28 = 94 := by have z := jB (e := 28) 0 j5635 rg_75_28_0_1 (by decide) (by decide); omega
                refine x_getR (np := 99) (x := 732) (f := 28) (q := 94) (by decide +kernel) (by decide) (by decide +kernel) q5650 ?_
                refine x_iload (np := 100) (x := 2) (by decide +kernel) rfl (by decide) ?_
                refine x_const (np := 101) (x := 9223372034707292159) (a := 2147483647) (by decide +kernel) (by decide) (by decide) ?_
                refine x_ast (np := 102) (x := 0) (kd := 1) (n := 6) (i := 5) (by decide +kernel) (Or.inl rfl) (by decide +kernel) (by first | decide | omega) (by first | decide | omega) (by decide) (by decide) (fun z => absurd z (by decide)) ?_
                have j5652 := jU (e := 5) (v := 2147483647) 5 j5635 rg_94_0_1_6 (by first | decide | omega) (by first | decide | omega) (by first | decide | omega)
                have f5654 := jF (e := 5) (v := 2147483647) 5 f5637 rg_94_0_1_6 (by first | decide | omega) (by first | decide | omega) (by decide)
                have f5655 := jF (e := 5) (v := 2147483647) 5 f5638 rg_94_0_1_6 (by first | decide | omega) (by first | decide | omega) (by decide)
                generalize e5653 : x_up h5634 94 5 2147483647 = h5651 at j5652 f5654 f5655 ⊢
                refine x_aload (np := 103) (x := 0) (by decide +kernel) rfl (x_nc_le (by decide)) ?_
                have q5656 : h5651 75 27 = 93 := by have z := jB (e := 27) 0 j5652 rg_75_27_0_1 (by decide) (by decide); omega
                refine x_getR (np := 106) (x := 731) (f := 27) (q := 93) (by decide +kernel) (by decide) (by decide +kernel) q5656 ?_
                refine x_iload (np := 107) (x := 2) (by decide +kernel) rfl (by decide) ?_
                have q5657 : h5651 93 5 = h5634 93 5 := by rw [← e5653]; exact x_up_k (by decide)
                have q5658 : h5634 93 5 = h5561 93 5 := by rw [← e5636]; exact x_up_k (by decide)
                have b5659 := jB (e := 5) 5 j5562 rg_93_0_1_6 (by first | decide | omega) (by first | decide | omega)
                refine x_aldC (np := 108) (x := 0) (n := 6) (i := 5) (q := (h5561 93 5)) (by decide +kernel) (by decide +kernel) (by first | decide | omega) (by first | decide | omega) (by decide) (q5657.trans q5658) (fun l5660 => ?_)
                refine x_ifz (k := 2) (tg := 122) (np := 111) (by decide +kernel) (by decide) l5660 (fun q5661 => ?_) (fun q5662 => ?_)
                · have q5661 : (h5561 93 5) < 2147483648 := q5661
                  refine x_aload (np := 123) (x := 0) (by decide +kernel) rfl (x_nc_le (by decide)) ?_
                  have q5663 : h5651 75 28 = 94 := by have z := jB (e := 28) 0 j5652 rg_75_28_0_1 (by decide) (by decide); omega
                  refine x_getR (np := 126) (x := 732) (f := 28) (q := 94) (by decide +kernel) (by decide) (by decide +kernel) q5663 ?_
                  refine x_iload (np := 127) (x := 2) (by decide +kernel) rfl (by decide) ?_
                  have q5664 : h5651 94 5 = 2147483647 := by rw [← e5653]; exact x_up_at
                  refine x_aldC (np := 128) (x := 0) (n := 6) (i := 5) (q := 2147483647) (by decide +kernel) (by decide +kernel) (by first | decide | omega) (by first | decide | omega) (by decide) q5664 (fun l5665 => ?_)
                  refine x_ifz (k := 3) (tg := 135) (np := 131) (by decide +kernel) (by decide) (by decide) (fun q5666 => ?_) (fun q5667 => ?_)
                  · have q5666 : 2147483648 ≤ 2147483647 := q5666
                    exfalso; omega
                  have q5667 : ¬ (2147483648 ≤ 2147483647) := q5667
                  refine x_const (np := 132) (x := 9223372034707292159) (a := 2147483647) (by decide +kernel) (by decide) (by decide) ?_
                  refine x_goto (np := 135) (x := 140) (by decide +kernel) ?_
                  refine x_istore (np := 142) (x := 5) (lo' := [x_r 75, iv_c 2147483653, iv_c 2147483653, iv_c v5558, iv_c 2147483649, iv_c 2147483647]) (by decide +kernel) (by decide) (Nat.le_of_ble_eq_true rfl) rfl ?_
                  refine x_iload (np := 144) (x := 5) (by decide +kernel) rfl (by decide) ?_
                  refine x_ifz (k := 2) (tg := 151) (np := 147) (by decide +kernel) (by decide) (by decide) (fun q5668 => ?_) (fun q5669 => ?_)
                  · have q5668 : 2147483647 < 2147483648 := q5668
                    refine x_const (np := 152) (x := 9223372039002259456) (a := 2147483648) (by decide +kernel) (by decide) (by decide) ?_
                    refine x_istore (np := 154) (x := 4) (lo' := [x_r 75, iv_c 2147483653, iv_c 2147483653, iv_c v5558, iv_c 2147483648, iv_c 2147483647]) (by decide +kernel) (by decide) (Nat.le_of_ble_eq_true rfl) rfl ?_
                    refine x_iload (np := 156) (x := 4) (by decide +kernel) rfl (by decide) ?_
                    refine x_ifz (k := 0) (tg := 180) (np := 159) (by decide +kernel) (by decide) (by decide) (fun q5670 => ?_) (fun q5671 => ?_)
                    · have q5670 : 2147483648 = 2147483648 := q5670
                      refine x_iinc (np := 183) (i := 2) (j := 2147483647) (v := 2147483652) (lo' := [x_r 75, iv_c 2147483653, iv_c 2147483652, iv_c v5558, iv_c 2147483648, iv_c 2147483647]) (by decide +kernel) (by decide) (by decide) rfl (by decide) (by first | decide | omega) (by first | decide | omega) rfl ?_
                      refine x_goto (np := 186) (x := 12) (by decide +kernel) ?_
                      have q5672 : h5651 75 30 = h5634 75 30 := by rw [← e5653]; exact x_up_k (by decide)
                      have q5673 : h5634 75 30 = h5561 75 30 := by rw [← e5636]; exact x_up_i (by first | decide | omega)
                      have q5674 : h5561 75 30 = h5549 75 30 := jK 0 f5563 rg_75_30_0_1 (by first | decide | omega) (by first | decide | omega) (by decide)
                      have q5675 : h5549 75 30 = (1 + (h3910 75 30)) := by rw [← e5551]; exact x_up_at
                      exact i3961 (iv_c v5558) (iv_c 2147483647) h5651 (by first | decide | omega) j5652 f5655 (by first | decide | omega)
                    have q5671 : ¬ (2147483648 = 2147483648) := q5671
                    exfalso; omega
                  have q5669 : ¬ (2147483647 < 2147483648) := q5669
                  exfalso; omega
                have q5662 : ¬ ((h5561 93 5) < 2147483648) := q5662
                refine x_aload (np := 112) (x := 0) (by decide +kernel) rfl (x_nc_le (by decide)) ?_
                refine x_aload (np := 113) (x := 0) (by decide +kernel) rfl (x_nc_le (by decide)) ?_
                have q5676 : h5651 75 27 = 93 := by have z := jB (e := 27) 0 j5652 rg_75_27_0_1 (by decide) (by decide); omega
                refine x_getR (np := 116) (x := 731) (f := 27) (q := 93) (by decide +kernel) (by decide) (by decide +kernel) q5676 ?_
                refine x_iload (np := 117) (x := 2) (by decide +kernel) rfl (by decide) ?_
                have q5677 : h5651 93 5 = h5634 93 5 := by rw [← e5653]; exact x_up_k (by decide)
                have q5678 : h5634 93 5 = h5561 93 5 := by rw [← e5636]; exact x_up_k (by decide)
                refine x_aldC (np := 118) (x := 0) (n := 6) (i := 5) (q := (h5561 93 5)) (by decide +kernel) (by decide +kernel) (by first | decide | omega) (by first | decide | omega) (by decide) (q5677.trans q5678) (fun l5679 => ?_)
                refine x_const (np := 119) (x := 9223372039002259456) (a := 2147483648) (by decide +kernel) (by decide) (by decide) ?_
                refine x_cV (t := 6) (mj := 248) (n := 3) (rc := 12) (ml := 4) (nr := 0) (np := 122) (as := [x_r 75, iv_c (h5561 93 5), iv_c 2147483648]) (rest := []) (lo1 := [x_r 75, iv_c (h5561 93 5), iv_c 2147483648, 147573952589676412928]) (by decide +kernel) (by decide) (by decide +kernel) (x_rb_of (by decide +kernel)) rfl rfl (x_wr (by decide) (x_wi l5660 (x_wi (by decide) x_wn))) x_wn (by decide) rfl (c248_75 j5652  (by first | decide | omega) (by first | decide | omega)) (fun h5683 q5682 => ?_)
                obtain ⟨j5684, f5685⟩ := q5682
                have f5688 := Fr.trans f5654 f5685 (by decide)
                have f5689 := Fr.trans f5655 f5685 (by decide)
                refine x_aload (np := 123) (x := 0) (by decide +kernel) rfl (x_nc_le (by decide)) ?_
                have q5690 : h5683 75 28 = 94 := by have z := jB (e := 28) 0 j5684 rg_75_28_0_1 (by decide) (by decide); omega
                refine x_getR (np := 126) (x := 732) (f := 28) (q := 94) (by decide +kernel) (by decide) (by decide +kernel) q5690 ?_
                refine x_iload (np := 127) (x := 2) (by decide +kernel) rfl (by decide) ?_
                have q5691 : h5683 94 5 = h5651 94 5 := jK 5 f5685 rg_94_0_1_6 (by first | decide | omega) (by first | decide | omega) (by decide)
                have q5692 : h5651 94 5 = 2147483647 := by rw [← e5653]; exact x_up_at
                refine x_aldC (np := 128) (x := 0) (n := 6) (i := 5) (q := 2147483647) (by decide +kernel) (by decide +kernel) (by first | decide | omega) (by first | decide | omega) (by decide) (q5691.trans q5692) (fun l5693 => ?_)
                refine x_ifz (k := 3) (tg := 135) (np := 131) (by decide +kernel) (by decide) (by decide) (fun q5694 => ?_) (fun q5695 => ?_)
                · have q5694 : 2147483648 ≤ 2147483647 := q5694
                  exfalso; omega
                have q5695 : ¬ (2147483648 ≤ 2147483647) := q5695
                refine x_const (np := 132) (x := 9223372034707292159) (a := 2147483647) (by decide +kernel) (by decide) (by decide) ?_
                refine x_goto (np := 135) (x := 140) (by decide +kernel) ?_
                refine x_istore (np := 142) (x := 5) (lo' := [x_r 75, iv_c 2147483653, iv_c 2147483653, iv_c v5558, iv_c 2147483649, iv_c 2147483647]) (by decide +kernel) (by decide) (Nat.le_of_ble_eq_true rfl) rfl ?_
                refine x_iload (np := 144) (x := 5) (by decide +kernel) rfl (by decide) ?_
                refine x_ifz (k := 2) (tg := 151) (np := 147) (by decide +kernel) (by decide) (by decide) (fun q5696 => ?_) (fun q5697 => ?_)
                · have q5696 : 2147483647 < 2147483648 := q5696
                  refine x_const (np := 152) (x := 9223372039002259456) (a := 2147483648) (by decide +kernel) (by decide) (by decide) ?_
                  refine x_istore (np := 154) (x := 4) (lo' := [x_r 75, iv_c 2147483653, iv_c 2147483653, iv_c v5558, iv_c 2147483648, iv_c 2147483647]) (by decide +kernel) (by decide) (Nat.le_of_ble_eq_true rfl) rfl ?_
                  refine x_iload (np := 156) (x := 4) (by decide +kernel) rfl (by decide) ?_
                  refine x_ifz (k := 0) (tg := 180) (np := 159) (by decide +kernel) (by decide) (by decide) (fun q5698 => ?_) (fun q5699 => ?_)
                  · have q5698 : 2147483648 = 2147483648 := q5698
                    refine x_iinc (np := 183) (i := 2) (j := 2147483647) (v := 2147483652) (lo' := [x_r 75, iv_c 2147483653, iv_c 2147483652, iv_c v5558, iv_c 2147483648, iv_c 2147483647]) (by decide +kernel) (by decide) (by decide) rfl (by decide) (by first | decide | omega) (by first | decide | omega) rfl ?_
                    refine x_goto (np := 186) (x := 12) (by decide +kernel) ?_
                    have q5700 : h5683 75 30 = h5651 75 30 := jK 0 f5685 rg_75_30_0_1 (by first | decide | omega) (by first | decide | omega) (by decide)
                    have q5701 : h5651 75 30 = h5634 75 30 := by rw [← e5653]; exact x_up_k (by decide)
                    have q5702 : h5634 75 30 = h5561 75 30 := by rw [← e5636]; exact x_up_i (by first | decide | omega)
                    have q5703 : h5561 75 30 = h5549 75 30 := jK 0 f5563 rg_75_30_0_1 (by first | decide | omega) (by first | decide | omega) (by decide)
                    have q5704 : h5549 75 30 = (1 + (h3910 75 30)) := by rw [← e5551]; exact x_up_at
                    exact i3961 (iv_c v5558) (iv_c 2147483647) h5683 (by first | decide | omega) j5684 f5689 (by first | decide | omega)
                  have q5699 : ¬ (2147483648 = 2147483648) := q5699
                  exfalso; omega
                have q5697 : ¬ (2147483647 < 2147483648) := q5697
                exfalso; omega
              have q5649 : ¬ (v5558 = 2147483649) := q5649
              exfalso; omega
            have q5647 : ¬ ((h 75 33) = 2147483648) := q5647
            refine x_const (np := 84) (x := 9223372043297226753) (a := 2147483649) (by decide +kernel) (by decide) (by decide) ?_
            have q5705 : h5634 75 30 = h5561 75 30 := by rw [← e5636]; exact x_up_i (by first | decide | omega)
            have q5706 : h5561 75 30 = h5549 75 30 := jK 0 f5563 rg_75_30_0_1 (by first | decide | omega) (by first | decide | omega) (by decide)
            have q5707 : h5549 75 30 = (1 + (h3910 75 30)) := by rw [← e5551]; exact x_up_at
            refine x_retI (np := 85) (x := 0) (by decide +kernel) (by decide) (Or.inr ⟨by decide +kernel, by first | decide | omega, by first | decide | omega⟩) ⟨_, rfl, (by decide), ?_⟩
            exact ⟨j5635, f5637, (by first | decide | omega), (fun z => by first | decide | omega)⟩
          have q5628 : ¬ ((h3910 75 34) ≠ 2147483648) := q5628
          refine x_aload (np := 62) (x := 0) (by decide +kernel) rfl (x_nc_le (by decide)) ?_
          refine x_iload (np := 63) (x := 2) (by decide +kernel) rfl (by decide) ?_
          refine x_cV (t := 6) (mj := 258) (n := 2) (rc := 12) (ml := 4) (nr := 0) (np := 66) (as := [x_r 75, iv_c 2147483653]) (rest := []) (lo1 := [x_r 75, iv_c 2147483653, 147573952589676412928, 147573952589676412928]) (by decide +kernel) (by decide) (by decide +kernel) (x_rb_of (by decide +kernel)) rfl rfl (x_wr (by decide) (x_wi (by decide) x_wn)) x_wn (by decide) rfl (c258_75 j5562  (by first | decide | omega)) (fun h5711 q5710 => ?_)
          obtain ⟨j5712, f5713⟩ := q5710
          have f5716 := Fr.trans f5565 f5713 (by decide)
          have f5717 := Fr.trans f5566 f5713 (by decide)
          refine x_aload (np := 67) (x := 0) (by decide +kernel) rfl (x_nc_le (by decide)) ?_
          refine x_dup (np := 68) (x := 0) (by decide +kernel) (by have z := x_nc_le (k := 75) (by decide); unfold x_r; omega) ?_
          have q5718 : h5711 75 34 = h5561 75 34 := jK 0 f5713 rg_75_34_0_1 (by first | decide | omega) (by first | decide | omega) (by decide)
          have q5719 : h5561 75 34 = h5549 75 34 := jK 0 f5563 rg_75_34_0_1 (by first | decide | omega) (by first | decide | omega) (by decide)
          have q5720 : h5549 75 34 = h3910 75 34 := by rw [← e5551]; exact x_up_i (by first | decide | omega)
          refine x_getC (np := 71) (x := 738) (f := 34) (q := (h3910 75 34)) (by decide +kernel) (by decide) (by decide +kernel) ((q5718.trans q5719).trans q5720) (fun l5721 => ?_)
          refine x_const (np := 72) (x := 9223372043297226753) (a := 2147483649) (by decide +kernel) (by decide) (by decide) ?_
          refine x_iadd (np := 73) (x := 0) (v := (1 + (h3910 75 34))) (by decide +kernel) l5626 (by decide) (by first | decide | omega) (by first | decide | omega) ?_
          refine x_putI (np := 76) (x := 738) (f := 34) (by decide +kernel) (by decide +kernel) (by first | decide | omega) (Or.inl (by decide)) ?_
          have j5723 := jU (e := 34) (v := (1 + (h3910 75 34))) 0 j5712 rg_75_34_0_1 (by first | decide | omega) (by first | decide | omega) (by first | decide | omega)
          have f5725 := jF (e := 34) (v := (1 + (h3910 75 34))) 0 f5716 rg_75_34_0_1 (by first | decide | omega) (by first | decide | omega) (by decide)
          have f5726 := jF (e := 34) (v := (1 + (h3910 75 34))) 0 f5717 rg_75_34_0_1 (by first | decide | omega) (by first | decide | omega) (by decide)
          generalize e5724 : x_up h5711 75 34 (1 + (h3910 75 34)) = h5722 at j5723 f5725 f5726 ⊢
          refine x_aload (np := 77) (x := 0) (by decide +kernel) rfl (x_nc_le (by decide)) ?_
          have q5727 : h5722 75 33 = h5711 75 33 := by rw [← e5724]; exact x_up_i (by first | decide | omega)
          have q5728 : h5711 75 33 = h5561 75 33 := jK 0 f5713 rg_75_33_0_1 (by first | decide | omega) (by first | decide | omega) (by decide)
          have q5729 : h5561 75 33 = h5549 75 33 := jK 0 f5563 rg_75_33_0_1 (by first | decide | omega) (by first | decide | omega) (by decide)
          have q5730 : h5549 75 33 = h3910 75 33 := by rw [← e5551]; exact x_up_i (by first | decide | omega)
          have q5731 : h3910 75 33 = h2 75 33 := jK 0 f3912 rg_75_33_0_1 (by first | decide | omega) (by first | decide | omega) (by decide)
          have q5732 : h2 75 33 = h 75 33 := by rw [← e4]; exact x_up_i (by first | decide | omega)
          have b5733 := jB (e := 33) 0 hJ rg_75_33_0_1 (by first | decide | omega) (by first | decide | omega)
          refine x_getC (np := 80) (x := 737) (f := 33) (q := (h 75 33)) (by decide +kernel) (by decide) (by decide +kernel) (((((q5727.trans q5728).trans q5729).trans q5730).trans q5731).trans q5732) (fun l5734 => ?_)
          refine x_ifz (k := 0) (tg := 85) (np := 83) (by decide +kernel) (by decide) l5734 (fun q5735 => ?_) (fun q5736 => ?_)
          · have q5735 : (h 75 33) = 2147483648 := q5735
            refine x_iload (np := 86) (x := 3) (by decide +kernel) rfl l5559 ?_
            refine x_const (np := 87) (x := 9223372043297226753) (a := 2147483649) (by decide +kernel) (by decide) (by decide) ?_
            refine x_icmp (k := 0) (tg := 95) (np := 90) (by decide +kernel) (by decide) l5559 (by decide) (fun q5737 => ?_) (fun q5738 => ?_)
            · have q5737 : v5558 = 2147483649 := q5737
              refine x_aload (np := 96) (x := 0) (by decide +kernel) rfl (x_nc_le (by decide)) ?_
              have q5739 : h5722 75 28 = 94 := by have z := jB (e := 28) 0 j5723 rg_75_28_0_1 (by decide) (by decide); omega
              refine x_getR (np := 99) (x := 732) (f := 28) (q := 94) (by decide +kernel) (by decide) (by decide +kernel) q5739 ?_
              refine x_iload (np := 100) (x := 2) (by decide +kernel) rfl (by decide) ?_
              refine x_const (np := 101) (x := 9223372034707292159) (a := 2147483647) (by decide +kernel) (by decide) (by decide) ?_
              refine x_ast (np := 102) (x := 0) (kd := 1) (n := 6) (i := 5) (by decide +kernel) (Or.inl rfl) (by decide +kernel) (by first | decide | omega) (by first | decide | omega) (by decide) (by decide) (fun z => absurd z (by decide)) ?_
              have j5741 := jU (e := 5) (v := 2147483647) 5 j5723 rg_94_0_1_6 (by first | decide | omega) (by first | decide | omega) (by first | decide | omega)
              have f5743 := jF (e := 5) (v := 2147483647) 5 f5725 rg_94_0_1_6 (by first | decide | omega) (by first | decide | omega) (by decide)
              have f5744 := jF (e := 5) (v := 2147483647) 5 f5726 rg_94_0_1_6 (by first | decide | omega) (by first | decide | omega) (by decide)
              generalize e5742 : x_up h5722 94 5 2147483647 = h5740 at j5741 f5743 f5744 ⊢
              refine x_aload (np := 103) (x := 0) (by decide +kernel) rfl (x_nc_le (by decide)) ?_
              have q5745 : h5740 75 27 = 93 := by have z := jB (e := 27) 0 j5741 rg_75_27_0_1 (by decide) (by decide); omega
              refine x_getR (np := 106) (x := 731) (f := 27) (q := 93) (by decide +kernel) (by decide) (by decide +kernel) q5745 ?_
              refine x_iload (np := 107) (x := 2) (by decide +kernel) rfl (by decide) ?_
              have q5746 : h5740 93 5 = h5722 93 5 := by rw [← e5742]; exact x_up_k (by decide)
              have q5747 : h5722 93 5 = h5711 93 5 := by rw [← e5724]; exact x_up_k (by decide)
              have q5748 : h5711 93 5 = h5561 93 5 := jK 5 f5713 rg_93_0_1_6 (by first | decide | omega) (by first | decide | omega) (by decide)
              have b5749 := jB (e := 5) 5 j5562 rg_93_0_1_6 (by first | decide | omega) (by first | decide | omega)
              refine x_aldC (np := 108) (x := 0) (n := 6) (i := 5) (q := (h5561 93 5)) (by decide +kernel) (by decide +kernel) (by first | decide | omega) (by first | decide | omega) (by decide) ((q5746.trans q5747).trans q5748) (fun l5750 => ?_)
              refine x_ifz (k := 2) (tg := 122) (np := 111) (by decide +kernel) (by decide) l5750 (fun q5751 => ?_) (fun q5752 => ?_)
              · have q5751 : (h5561 93 5) < 2147483648 := q5751
                refine x_aload (np := 123) (x := 0) (by decide +kernel) rfl (x_nc_le (by decide)) ?_
                have q5753 : h5740 75 28 = 94 := by have z := jB (e := 28) 0 j5741 rg_75_28_0_1 (by decide) (by decide); omega
                refine x_getR (np := 126) (x := 732) (f := 28) (q := 94) (by decide +kernel) (by decide) (by decide +kernel) q5753 ?_
                refine x_iload (np := 127) (x := 2) (by decide +kernel) rfl (by decide) ?_
                have q5754 : h5740 94 5 = 2147483647 := by rw [← e5742]; exact x_up_at
                refine x_aldC (np := 128) (x := 0) (n := 6) (i := 5) (q := 2147483647) (by decide +kernel) (by decide +kernel) (by first | decide | omega) (by first | decide | omega) (by decide) q5754 (fun l5755 => ?_)
                refine x_ifz (k := 3) (tg := 135) (np := 131) (by decide +kernel) (by decide) (by decide) (fun q5756 => ?_) (fun q5757 => ?_)
                · have q5756 : 2147483648 ≤ 2147483647 := q5756
                  exfalso; omega
                have q5757 : ¬ (2147483648 ≤ 2147483647) := q5757
                refine x_const (np := 132) (x := 9223372034707292159) (a := 2147483647) (by decide +kernel) (by decide) (by decide) ?_
                refine x_goto (np := 135) (x := 140) (by decide +kernel) ?_
                refine x_istore (np := 142) (x := 5) (lo' := [x_r 75, iv_c 2147483653, iv_c 2147483653, iv_c v5558, iv_c 2147483649, iv_c 2147483647]) (by decide +kernel) (by decide) (Nat.le_of_ble_eq_true rfl) rfl ?_
                refine x_iload (np := 144) (x := 5) (by decide +kernel) rfl (by decide) ?_
                refine x_ifz (k := 2) (tg := 151) (np := 147) (by decide +kernel) (by decide) (by decide) (fun q5758 => ?_) (fun q5759 => ?_)
                · have q5758 : 2147483647 < 2147483648 := q5758
                  refine x_const (np := 152) (x := 9223372039002259456) (a := 2147483648) (by decide +kernel) (by decide) (by decide) ?_
                  refine x_istore (np := 154) (x := 4) (lo' := [x_r 75, iv_c 2147483653, iv_c 2147483653, iv_c v5558, iv_c 2147483648, iv_c 2147483647]) (by decide +kernel) (by decide) (Nat.le_of_ble_eq_true rfl) rfl ?_
                  refine x_iload (np := 156) (x := 4) (by decide +kernel) rfl (by decide) ?_
                  refine x_ifz (k := 0) (tg := 180) (np := 159) (by decide +kernel) (by decide) (by decide) (fun q5760 => ?_) (fun q5761 => ?_)
                  · have q5760 : 2147483648 = 2147483648 := q5760
                    refine x_iinc (np := 183) (i := 2) (j := 2147483647) (v := 2147483652) (lo' := [x_r 75, iv_c 2147483653, iv_c 2147483652, iv_c v5558, iv_c 2147483648, iv_c 2147483647]) (by decide +kernel) (by decide) (by decide) rfl (by decide) (by first | decide | omega) (by first | decide | omega) rfl ?_
                    refine x_goto (np := 186) (x := 12) (by decide +kernel) ?_
                    have q5762 : h5740 75 30 = h5722 75 30 := by rw [← e5742]; exact x_up_k (by decide)
                    have q5763 : h5722 75 30 = h5711 75 30 := by rw [← e5724]; exact x_up_i (by first | decide | omega)
                    have q5764 : h5711 75 30 = h5561 75 30 := jK 0 f5713 rg_75_30_0_1 (by first | decide | omega) (by first | decide | omega) (by decide)
                    have q5765 : h5561 75 30 = h5549 75 30 := jK 0 f5563 rg_75_30_0_1 (by first | decide | omega) (by first | decide | omega) (by decide)
                    have q5766 : h5549 75 30 = (1 + (h3910 75 30)) := by rw [← e5551]; exact x_up_at
                    exact i3961 (iv_c v5558) (iv_c 2147483647) h5740 (by first | decide | omega) j5741 f5744 (by first | decide | omega)
                  have q5761 : ¬ (2147483648 = 2147483648) := q5761
                  exfalso; omega
                have q5759 : ¬ (2147483647 < 2147483648) := q5759
                exfalso; omega
              have q5752 : ¬ ((h5561 93 5) < 2147483648) := q5752
              refine x_aload (np := 112) (x := 0) (by decide +kernel) rfl (x_nc_le (by decide)) ?_
              refine x_aload (np := 113) (x := 0) (by decide +kernel) rfl (x_nc_le (by decide)) ?_
              have q5767 : h5740 75 27 = 93 := by have z := jB (e := 27) 0 j5741 rg_75_27_0_1 (by decide) (by decide); omega
              refine x_getR (np := 116) (x := 731) (f := 27) (q := 93) (by decide +kernel) (by decide) (by decide +kernel) q5767 ?_
              refine x_iload (np := 117) (x := 2) (by decide +kernel) rfl (by decide) ?_
              have q5768 : h5740 93 5 = h5722 93 5 := by rw [← e5742]; exact x_up_k (by decide)
              have q5769 : h5722 93 5 = h5711 93 5 := by rw [← e5724]; exact x_up_k (by decide)
              have q5770 : h5711 93 5 = h5561 93 5 := jK 5 f5713 rg_93_0_1_6 (by first | decide | omega) (by first | decide | omega) (by decide)
              refine x_aldC (np := 118) (x := 0) (n := 6) (i := 5) (q := (h5561 93 5)) (by decide +kernel) (by decide +kernel) (by first | decide | omega) (by first | decide | omega) (by decide) ((q5768.trans q5769).trans q5770) (fun l5771 => ?_)
              refine x_const (np := 119) (x := 9223372039002259456) (a := 2147483648) (by decide +kernel) (by decide) (by decide) ?_
              refine x_cV (t := 6) (mj := 248) (n := 3) (rc := 12) (ml := 4) (nr := 0) (np := 122) (as := [x_r 75, iv_c (h5561 93 5), iv_c 2147483648]) (rest := []) (lo1 := [x_r 75, iv_c (h5561 93 5), iv_c 2147483648, 147573952589676412928]) (by decide +kernel) (by decide) (by decide +kernel) (x_rb_of (by decide +kernel)) rfl rfl (x_wr (by decide) (x_wi l5750 (x_wi (by decide) x_wn))) x_wn (by decide) rfl (c248_75 j5741  (by first | decide | omega) (by first | decide | omega)) (fun h5775 q5774 => ?_)
              obtain ⟨j5776, f5777⟩ := q5774
              have f5780 := Fr.trans f5743 f5777 (by decide)
              have f5781 := Fr.trans f5744 f5777 (by decide)
              refine x_aload (np := 123) (x := 0) (by decide +kernel) rfl (x_nc_le (by decide)) ?_
              have q5782 : h5775 75 28 = 94 := by have z := jB (e := 28) 0 j5776 rg_75_28_0_1 (by decide) (by decide); omega
              refine x_getR (np := 126) (x := 732) (f := 28) (q := 94) (by decide +kernel) (by decide) (by decide +kernel) q5782 ?_
              refine x_iload (np := 127) (x := 2) (by decide +kernel) rfl (by decide) ?_
              have q5783 : h5775 94 5 = h5740 94 5 := jK 5 f5777 rg_94_0_1_6 (by first | decide | omega) (by first | decide | omega) (by decide)
              have q5784 : h5740 94 5 = 2147483647 := by rw [← e5742]; exact x_up_at
              refine x_aldC (np := 128) (x := 0) (n := 6) (i := 5) (q := 2147483647) (by decide +kernel) (by decide +kernel) (by first | decide | omega) (by first | decide | omega) (by decide) (q5783.trans q5784) (fun l5785 => ?_)
              refine x_ifz (k := 3) (tg := 135) (np := 131) (by decide +kernel) (by decide) (by decide) (fun q5786 => ?_) (fun q5787 => ?_)
              · have q5786 : 2147483648 ≤ 2147483647 := q5786
                exfalso; omega
              have q5787 : ¬ (2147483648 ≤ 2147483647) := q5787
              refine x_const (np := 132) (x := 9223372034707292159) (a := 2147483647) (by decide +kernel) (by decide) (by decide) ?_
              refine x_goto (np := 135) (x := 140) (by decide +kernel) ?_
              refine x_istore (np := 142) (x := 5) (lo' := [x_r 75, iv_c 2147483653, iv_c 2147483653, iv_c v5558, iv_c 2147483649, iv_c 2147483647]) (by decide +kernel) (by decide) (Nat.le_of_ble_eq_true rfl) rfl ?_
              refine x_iload (np := 144) (x := 5) (by decide +kernel) rfl (by decide) ?_
              refine x_ifz (k := 2) (tg := 151) (np := 147) (by decide +kernel) (by decide) (by decide) (fun q5788 => ?_) (fun q5789 => ?_)
              · have q5788 : 2147483647 < 2147483648 := q5788
                refine x_const (np := 152) (x := 9223372039002259456) (a := 2147483648) (by decide +kernel) (by decide) (by decide) ?_
                refine x_istore (np := 154) (x := 4) (lo' := [x_r 75, iv_c 2147483653, iv_c 2147483653, iv_c v5558, iv_c 2147483648, iv_c 2147483647]) (by decide +kernel) (by decide) (Nat.le_of_ble_eq_true rfl) rfl ?_
                refine x_iload (np := 156) (x := 4) (by decide +kernel) rfl (by decide) ?_
                refine x_ifz (k := 0) (tg := 180) (np := 159) (by decide +kernel) (by decide) (by decide) (fun q5790 => ?_) (fun q5791 => ?_)
                · have q5790 : 2147483648 = 2147483648 := q5790
                  refine x_iinc (np := 183) (i := 2) (j := 2147483647) (v := 2147483652) (lo' := [x_r 75, iv_c 2147483653, iv_c 2147483652, iv_c v5558, iv_c 2147483648, iv_c 2147483647]) (by decide +kernel) (by decide) (by decide) rfl (by decide) (by first | decide | omega) (by first | decide | omega) rfl ?_
                  refine x_goto (np := 186) (x := 12) (by decide +kernel) ?_
                  have q5792 : h5775 75 30 = h5740 75 30 := jK 0 f5777 rg_75_30_0_1 (by first | decide | omega) (by first | decide | omega) (by decide)
                  have q5793 : h5740 75 30 = h5722 75 30 := by rw [← e5742]; exact x_up_k (by decide)
                  have q5794 : h5722 75 30 = h5711 75 30 := by rw [← e5724]; exact x_up_i (by first | decide | omega)
                  have q5795 : h5711 75 30 = h5561 75 30 := jK 0 f5713 rg_75_30_0_1 (by first | decide | omega) (by first | decide | omega) (by decide)
                  have q5796 : h5561 75 30 = h5549 75 30 := jK 0 f5563 rg_75_30_0_1 (by first | decide | omega) (by first | decide | omega) (by decide)
                  have q5797 : h5549 75 30 = (1 + (h3910 75 30)) := by rw [← e5551]; exact x_up_at
                  exact i3961 (iv_c v5558) (iv_c 2147483647) h5775 (by first | decide | omega) j5776 f5781 (by first | decide | omega)
                have q5791 : ¬ (2147483648 = 2147483648) := q5791
                exfalso; omega
              have q5789 : ¬ (2147483647 < 2147483648) := q5789
              exfalso; omega
            have q5738 : ¬ (v5558 = 2147483649) := q5738
            exfalso; omega
          have q5736 : ¬ ((h 75 33) = 2147483648) := q5736
          refine x_const (np := 84) (x := 9223372043297226753) (a := 2147483649) (by decide +kernel) (by decide) (by decide) ?_
          have q5798 : h5722 75 30 = h5711 75 30 := by rw [← e5724]; exact x_up_i (by first | decide | omega)
          have q5799 : h5711 75 30 = h5561 75 30 := jK 0 f5713 rg_75_30_0_1 (by first | decide | omega) (by first | decide | omega) (by decide)
          have q5800 : h5561 75 30 = h5549 75 30 := jK 0 f5563 rg_75_30_0_1 (by first | decide | omega) (by first | decide | omega) (by decide)
          have q5801 : h5549 75 30 = (1 + (h3910 75 30)) := by rw [← e5551]; exact x_up_at
          refine x_retI (np := 85) (x := 0) (by decide +kernel) (by decide) (Or.inr ⟨by decide +kernel, by first | decide | omega, by first | decide | omega⟩) ⟨_, rfl, (by decide), ?_⟩
          exact ⟨j5723, f5725, (by first | decide | omega), (fun z => by first | decide | omega)⟩
        have q5557 : ¬ ((1 + (h3910 75 30)) ≤ 2147503648) := q5557
        refine x_const (np := 42) (x := 9223372039002259456) (a := 2147483648) (by decide +kernel) (by decide) (by decide) ?_
        have q5802 : h5549 75 30 = (1 + (h3910 75 30)) := by rw [← e5551]; exact x_up_at
        refine x_retI (np := 43) (x := 0) (by decide +kernel) (by decide) (Or.inr ⟨by decide +kernel, by first | decide | omega, by first | decide | omega⟩) ⟨_, rfl, (by decide), ?_⟩
        exact ⟨j5550, f5552, (by first | decide | omega), (fun z => by first | decide | omega)⟩
      · intro w3914 w3915 h3916 q5803 j3919 f3918 b3917
        have f5804 := Fr.trans f5 f3918 (by decide)
        refine x_iload (np := 13) (x := 2) (by decide +kernel) rfl (by decide) ?_
        refine x_ifz (k := 2) (tg := 186) (np := 16) (by decide +kernel) (by decide) (by decide) (fun q5805 => ?_) (fun q5806 => ?_)
        · have q5805 : 2147483647 < 2147483648 := q5805
          refine x_const (np := 187) (x := 9223372043297226753) (a := 2147483649) (by decide +kernel) (by decide) (by decide) ?_
          refine x_retI (np := 188) (x := 0) (by decide +kernel) (by decide) (Or.inr ⟨by decide +kernel, by first | decide | omega, by first | decide | omega⟩) ⟨_, rfl, (by decide), ?_⟩
          exact ⟨j3919, f5804, (by first | decide | omega), (fun z => by first | decide | omega)⟩
        have q5806 : ¬ (2147483647 < 2147483648) := q5806
        exfalso; omega
      · intro w3920 w3921 h3922 q5807 j3925 f3924 b3923
        have f5808 := Fr.trans f5 f3924 (by decide)
        refine x_iload (np := 13) (x := 2) (by decide +kernel) rfl (by decide) ?_
        refine x_ifz (k := 2) (tg := 186) (np := 16) (by decide +kernel) (by decide) (by decide) (fun q5809 => ?_) (fun q5810 => ?_)
        · have q5809 : 2147483648 < 2147483648 := q5809
          exfalso; omega
        have q5810 : ¬ (2147483648 < 2147483648) := q5810
        refine x_iload (np := 18) (x := 4) (by decide +kernel) rfl (by decide) ?_
        refine x_ifz (k := 0) (tg := 102) (np := 21) (by decide +kernel) (by decide) (by decide) (fun q5811 => ?_) (fun q5812 => ?_)
        · have q5811 : 2147483648 = 2147483648 := q5811
          refine x_aload (np := 103) (x := 0) (by decide +kernel) rfl (x_nc_le (by decide)) ?_
          have q5813 : h3922 75 27 = 93 := by have z := jB (e := 27) 0 j3925 rg_75_27_0_1 (by decide) (by decide); omega
          refine x_getR (np := 106) (x := 731) (f := 27) (q := 93) (by decide +kernel) (by decide) (by decide +kernel) q5813 ?_
          refine x_iload (np := 107) (x := 2) (by decide +kernel) rfl (by decide) ?_
          have b5814 := jB (e := 0) 0 j3925 rg_93_0_1_6 (by first | decide | omega) (by first | decide | omega)
          refine x_aldC (np := 108) (x := 0) (n := 6) (i := 0) (q := (h3922 93 0)) (by decide +kernel) (by decide +kernel) (by first | decide | omega) (by first | decide | omega) (by decide) rfl (fun l5815 => ?_)
          refine x_ifz (k := 2) (tg := 122) (np := 111) (by decide +kernel) (by decide) l5815 (fun q5816 => ?_) (fun q5817 => ?_)
          · have q5816 : (h3922 93 0) < 2147483648 := q5816
            refine x_aload (np := 123) (x := 0) (by decide +kernel) rfl (x_nc_le (by decide)) ?_
            have q5818 : h3922 75 28 = 94 := by have z := jB (e := 28) 0 j3925 rg_75_28_0_1 (by decide) (by decide); omega
            refine x_getR (np := 126) (x := 732) (f := 28) (q := 94) (by decide +kernel) (by decide) (by decide +kernel) q5818 ?_
            refine x_iload (np := 127) (x := 2) (by decide +kernel) rfl (by decide) ?_
            have b5819 := jB (e := 0) 0 j3925 rg_94_0_1_6 (by first | decide | omega) (by first | decide | omega)
            refine x_aldC (np := 128) (x := 0) (n := 6) (i := 0) (q := (h3922 94 0)) (by decide +kernel) (by decide +kernel) (by first | decide | omega) (by first | decide | omega) (by decide) rfl (fun l5820 => ?_)
            refine x_ifz (k := 3) (tg := 135) (np := 131) (by decide +kernel) (by decide) l5820 (fun q5821 => ?_) (fun q5822 => ?_)
            · have q5821 : 2147483648 ≤ (h3922 94 0) := q5821
              refine x_aload (np := 136) (x := 0) (by decide +kernel) rfl (x_nc_le (by decide)) ?_
              refine x_iload (np := 137) (x := 2) (by decide +kernel) rfl (by decide) ?_
              refine x_cP (t := 6) (mj := 257) (n := 2) (rc := 12) (ml := 3) (nr := 0) (np := 140) (as := [x_r 75, iv_c 2147483648]) (rest := []) (lo1 := [x_r 75, iv_c 2147483648, 147573952589676412928]) (by decide +kernel) (by decide) (by decide +kernel) (x_rb_of (by decide +kernel)) rfl rfl (x_wr (by decide) (x_wi (by decide) x_wn)) x_wn (by decide) rfl (c257_75_c0 j3925   (by first | decide | omega)) (fun v5823 l5824 q5825 => ?_)
              refine x_istore (np := 142) (x := 5) (lo' := [x_r 75, iv_c 2147483653, iv_c 2147483648, w3920, iv_c 2147483648, iv_c v5823]) (by decide +kernel) l5824 (Nat.le_of_ble_eq_true rfl) rfl ?_
              refine x_iload (np := 144) (x := 5) (by decide +kernel) rfl l5824 ?_
              refine x_ifz (k := 2) (tg := 151) (np := 147) (by decide +kernel) (by decide) l5824 (fun q5826 => ?_) (fun q5827 => ?_)
              · have q5826 : v5823 < 2147483648 := q5826
                refine x_const (np := 152) (x := 9223372039002259456) (a := 2147483648) (by decide +kernel) (by decide) (by decide) ?_
                refine x_istore (np := 154) (x := 4) (lo' := [x_r 75, iv_c 2147483653, iv_c 2147483648, w3920, iv_c 2147483648, iv_c v5823]) (by decide +kernel) (by decide) (Nat.le_of_ble_eq_true rfl) rfl ?_
                refine x_iload (np := 156) (x := 4) (by decide +kernel) rfl (by decide) ?_
                refine x_ifz (k := 0) (tg := 180) (np := 159) (by decide +kernel) (by decide) (by decide) (fun q5828 => ?_) (fun q5829 => ?_)
                · have q5828 : 2147483648 = 2147483648 := q5828
                  refine x_iinc (np := 183) (i := 2) (j := 2147483647) (v := 2147483647) (lo' := [x_r 75, iv_c 2147483653, iv_c 2147483647, w3920, iv_c 2147483648, iv_c v5823]) (by decide +kernel) (by decide) (by decide) rfl (by decide) (by first | decide | omega) (by first | decide | omega) rfl ?_
                  refine x_goto (np := 186) (x := 12) (by decide +kernel) ?_
                  exact i3956 w3920 (iv_c v5823) h3922 (by first | decide | omega) j3925 f3924 (by first | decide | omega)
                have q5829 : ¬ (2147483648 = 2147483648) := q5829
                exfalso; omega
              have q5827 : ¬ (v5823 < 2147483648) := q5827
              refine x_const (np := 148) (x := 9223372043297226753) (a := 2147483649) (by decide +kernel) (by decide) (by decide) ?_
              refine x_goto (np := 151) (x := 152) (by decide +kernel) ?_
              refine x_istore (np := 154) (x := 4) (lo' := [x_r 75, iv_c 2147483653, iv_c 2147483648, w3920, iv_c 2147483649, iv_c v5823]) (by decide +kernel) (by decide) (Nat.le_of_ble_eq_true rfl) rfl ?_
              refine x_iload (np := 156) (x := 4) (by decide +kernel) rfl (by decide) ?_
              refine x_ifz (k := 0) (tg := 180) (np := 159) (by decide +kernel) (by decide) (by decide) (fun q5830 => ?_) (fun q5831 => ?_)
              · have q5830 : 2147483649 = 2147483648 := q5830
                exfalso; omega
              have q5831 : ¬ (2147483649 = 2147483648) := q5831
              refine x_aload (np := 160) (x := 0) (by decide +kernel) rfl (x_nc_le (by decide)) ?_
              have q5832 : h3922 75 27 = 93 := by have z := jB (e := 27) 0 j3925 rg_75_27_0_1 (by decide) (by decide); omega
              refine x_getR (np := 163) (x := 731) (f := 27) (q := 93) (by decide +kernel) (by decide) (by decide +kernel) q5832 ?_
              refine x_iload (np := 164) (x := 2) (by decide +kernel) rfl (by decide) ?_
              refine x_iload (np := 166) (x := 5) (by decide +kernel) rfl l5824 ?_
              refine x_ast (np := 167) (x := 0) (kd := 1) (n := 6) (i := 0) (by decide +kernel) (Or.inl rfl) (by decide +kernel) (by first | decide | omega) (by first | decide | omega) (by decide) l5824 (fun z => absurd z (by decide)) ?_
              have j5834 := jU (e := 0) (v := v5823) 0 j3925 rg_93_0_1_6 (by first | decide | omega) (by first | decide | omega) (by first | decide | omega)
              have f5836 := jF (e := 0) (v := v5823) 0 f5808 rg_93_0_1_6 (by first | decide | omega) (by first | decide | omega) (by decide)
              have f5837 := jF (e := 0) (v := v5823) 0 f3924 rg_93_0_1_6 (by first | decide | omega) (by first | decide | omega) (by decide)
              generalize e5835 : x_up h3922 93 0 v5823 = h5833 at j5834 f5836 f5837 ⊢
              refine x_aload (np := 168) (x := 0) (by decide +kernel) rfl (x_nc_le (by decide)) ?_
              refine x_iload (np := 170) (x := 5) (by decide +kernel) rfl l5824 ?_
              refine x_const (np := 171) (x := 9223372043297226753) (a := 2147483649) (by decide +kernel) (by decide) (by decide) ?_
              refine x_cV (t := 6) (mj := 248) (n := 3) (rc := 12) (ml := 4) (nr := 0) (np := 174) (as := [x_r 75, iv_c v5823, iv_c 2147483649]) (rest := []) (lo1 := [x_r 75, iv_c v5823, iv_c 2147483649, 147573952589676412928]) (by decide +kernel) (by decide) (by decide +kernel) (x_rb_of (by decide +kernel)) rfl rfl (x_wr (by decide) (x_wi l5824 (x_wi (by decide) x_wn))) x_wn (by decide) rfl (c248_75 j5834  (by first | decide | omega) (by first | decide | omega)) (fun h5841 q5840 => ?_)
              obtain ⟨j5842, f5843⟩ := q5840
              have f5846 := Fr.trans f5836 f5843 (by decide)
              have f5847 := Fr.trans f5837 f5843 (by decide)
              refine x_iinc (np := 177) (i := 2) (j := 2147483649) (v := 2147483649) (lo' := [x_r 75, iv_c 2147483653, iv_c 2147483649, w3920, iv_c 2147483649, iv_c v5823]) (by decide +kernel) (by decide) (by decide) rfl (by decide) (by first | decide | omega) (by first | decide | omega) rfl ?_
              refine x_goto (np := 180) (x := 183) (by decide +kernel) ?_
              refine x_goto (np := 186) (x := 12) (by decide +kernel) ?_
              have q5848 : h5841 75 30 = h5833 75 30 := jK 0 f5843 rg_75_30_0_1 (by first | decide | omega) (by first | decide | omega) (by decide)
              have q5849 : h5833 75 30 = h3922 75 30 := by rw [← e5835]; exact x_up_k (by decide)
              exact i3951 w3920 (iv_c v5823) h5841 (by first | decide | omega) j5842 f5847 (by first | decide | omega)
            have q5822 : ¬ (2147483648 ≤ (h3922 94 0)) := q5822
            refine x_const (np := 132) (x := 9223372034707292159) (a := 2147483647) (by decide +kernel) (by decide) (by decide) ?_
            refine x_goto (np := 135) (x := 140) (by decide +kernel) ?_
            refine x_istore (np := 142) (x := 5) (lo' := [x_r 75, iv_c 2147483653, iv_c 2147483648, w3920, iv_c 2147483648, iv_c 2147483647]) (by decide +kernel) (by decide) (Nat.le_of_ble_eq_true rfl) rfl ?_
            refine x_iload (np := 144) (x := 5) (by decide +kernel) rfl (by decide) ?_
            refine x_ifz (k := 2) (tg := 151) (np := 147) (by decide +kernel) (by decide) (by decide) (fun q5850 => ?_) (fun q5851 => ?_)
            · have q5850 : 2147483647 < 2147483648 := q5850
              refine x_const (np := 152) (x := 9223372039002259456) (a := 2147483648) (by decide +kernel) (by decide) (by decide) ?_
              refine x_istore (np := 154) (x := 4) (lo' := [x_r 75, iv_c 2147483653, iv_c 2147483648, w3920, iv_c 2147483648, iv_c 2147483647]) (by decide +kernel) (by decide) (Nat.le_of_ble_eq_true rfl) rfl ?_
              refine x_iload (np := 156) (x := 4) (by decide +kernel) rfl (by decide) ?_
              refine x_ifz (k := 0) (tg := 180) (np := 159) (by decide +kernel) (by decide) (by decide) (fun q5852 => ?_) (fun q5853 => ?_)
              · have q5852 : 2147483648 = 2147483648 := q5852
                refine x_iinc (np := 183) (i := 2) (j := 2147483647) (v := 2147483647) (lo' := [x_r 75, iv_c 2147483653, iv_c 2147483647, w3920, iv_c 2147483648, iv_c 2147483647]) (by decide +kernel) (by decide) (by decide) rfl (by decide) (by first | decide | omega) (by first | decide | omega) rfl ?_
                refine x_goto (np := 186) (x := 12) (by decide +kernel) ?_
                exact i3956 w3920 (iv_c 2147483647) h3922 (by first | decide | omega) j3925 f3924 (by first | decide | omega)
              have q5853 : ¬ (2147483648 = 2147483648) := q5853
              exfalso; omega
            have q5851 : ¬ (2147483647 < 2147483648) := q5851
            exfalso; omega
          have q5817 : ¬ ((h3922 93 0) < 2147483648) := q5817
          refine x_aload (np := 112) (x := 0) (by decide +kernel) rfl (x_nc_le (by decide)) ?_
          refine x_aload (np := 113) (x := 0) (by decide +kernel) rfl (x_nc_le (by decide)) ?_
          have q5854 : h3922 75 27 = 93 := by have z := jB (e := 27) 0 j3925 rg_75_27_0_1 (by decide) (by decide); omega
          refine x_getR (np := 116) (x := 731) (f := 27) (q := 93) (by decide +kernel) (by decide) (by decide +kernel) q5854 ?_
          refine x_iload (np := 117) (x := 2) (by decide +kernel) rfl (by decide) ?_
          refine x_aldC (np := 118) (x := 0) (n := 6) (i := 0) (q := (h3922 93 0)) (by decide +kernel) (by decide +kernel) (by first | decide | omega) (by first | decide | omega) (by decide) rfl (fun l5855 => ?_)
          refine x_const (np := 119) (x := 9223372039002259456) (a := 2147483648) (by decide +kernel) (by decide) (by decide) ?_
          refine x_cV (t := 6) (mj := 248) (n := 3) (rc := 12) (ml := 4) (nr := 0) (np := 122) (as := [x_r 75, iv_c (h3922 93 0), iv_c 2147483648]) (rest := []) (lo1 := [x_r 75, iv_c (h3922 93 0), iv_c 2147483648, 147573952589676412928]) (by decide +kernel) (by decide) (by decide +kernel) (x_rb_of (by decide +kernel)) rfl rfl (x_wr (by decide) (x_wi l5815 (x_wi (by decide) x_wn))) x_wn (by decide) rfl (c248_75 j3925  (by first | decide | omega) (by first | decide | omega)) (fun h5859 q5858 => ?_)
          obtain ⟨j5860, f5861⟩ := q5858
          have f5864 := Fr.trans f5808 f5861 (by decide)
          have f5865 := Fr.trans f3924 f5861 (by decide)
          refine x_aload (np := 123) (x := 0) (by decide +kernel) rfl (x_nc_le (by decide)) ?_
          have q5866 : h5859 75 28 = 94 := by have z := jB (e := 28) 0 j5860 rg_75_28_0_1 (by decide) (by decide); omega
          refine x_getR (np := 126) (x := 732) (f := 28) (q := 94) (by decide +kernel) (by decide) (by decide +kernel) q5866 ?_
          refine x_iload (np := 127) (x := 2) (by decide +kernel) rfl (by decide) ?_
          have q5867 : h5859 94 0 = h3922 94 0 := jK 0 f5861 rg_94_0_1_6 (by first | decide | omega) (by first | decide | omega) (by decide)
          have b5868 := jB (e := 0) 0 j3925 rg_94_0_1_6 (by first | decide | omega) (by first | decide | omega)
          refine x_aldC (np := 128) (x := 0) (n := 6) (i := 0) (q := (h3922 94 0)) (by decide +kernel) (by decide +kernel) (by first | decide | omega) (by first | decide | omega) (by decide) q5867 (fun l5869 => ?_)
          refine x_ifz (k := 3) (tg := 135) (np := 131) (by decide +kernel) (by decide) l5869 (fun q5870 => ?_) (fun q5871 => ?_)
          · have q5870 : 2147483648 ≤ (h3922 94 0) := q5870
            refine x_aload (np := 136) (x := 0) (by decide +kernel) rfl (x_nc_le (by decide)) ?_
            refine x_iload (np := 137) (x := 2) (by decide +kernel) rfl (by decide) ?_
            have q5872 : h5859 94 0 = h3922 94 0 := jK 0 f5861 rg_94_0_1_6 (by first | decide | omega) (by first | decide | omega) (by decide)
            refine x_cP (t := 6) (mj := 257) (n := 2) (rc := 12) (ml := 3) (nr := 0) (np := 140) (as := [x_r 75, iv_c 2147483648]) (rest := []) (lo1 := [x_r 75, iv_c 2147483648, 147573952589676412928]) (by decide +kernel) (by decide) (by decide +kernel) (x_rb_of (by decide +kernel)) rfl rfl (x_wr (by decide) (x_wi (by decide) x_wn)) x_wn (by decide) rfl (c257_75_c0 j5860   (by first | decide | omega)) (fun v5873 l5874 q5875 => ?_)
            refine x_istore (np := 142) (x := 5) (lo' := [x_r 75, iv_c 2147483653, iv_c 2147483648, w3920, iv_c 2147483648, iv_c v5873]) (by decide +kernel) l5874 (Nat.le_of_ble_eq_true rfl) rfl ?_
            refine x_iload (np := 144) (x := 5) (by decide +kernel) rfl l5874 ?_
            refine x_ifz (k := 2) (tg := 151) (np := 147) (by decide +kernel) (by decide) l5874 (fun q5876 => ?_) (fun q5877 => ?_)
            · have q5876 : v5873 < 2147483648 := q5876
              refine x_const (np := 152) (x := 9223372039002259456) (a := 2147483648) (by decide +kernel) (by decide) (by decide) ?_
              refine x_istore (np := 154) (x := 4) (lo' := [x_r 75, iv_c 2147483653, iv_c 2147483648, w3920, iv_c 2147483648, iv_c v5873]) (by decide +kernel) (by decide) (Nat.le_of_ble_eq_true rfl) rfl ?_
              refine x_iload (np := 156) (x := 4) (by decide +kernel) rfl (by decide) ?_
              refine x_ifz (k := 0) (tg := 180) (np := 159) (by decide +kernel) (by decide) (by decide) (fun q5878 => ?_) (fun q5879 => ?_)
              · have q5878 : 2147483648 = 2147483648 := q5878
                refine x_iinc (np := 183) (i := 2) (j := 2147483647) (v := 2147483647) (lo' := [x_r 75, iv_c 2147483653, iv_c 2147483647, w3920, iv_c 2147483648, iv_c v5873]) (by decide +kernel) (by decide) (by decide) rfl (by decide) (by first | decide | omega) (by first | decide | omega) rfl ?_
                refine x_goto (np := 186) (x := 12) (by decide +kernel) ?_
                have q5880 : h5859 75 30 = h3922 75 30 := jK 0 f5861 rg_75_30_0_1 (by first | decide | omega) (by first | decide | omega) (by decide)
                exact i3956 w3920 (iv_c v5873) h5859 (by first | decide | omega) j5860 f5865 (by first | decide | omega)
              have q5879 : ¬ (2147483648 = 2147483648) := q5879
              exfalso; omega
            have q5877 : ¬ (v5873 < 2147483648) := q5877
            refine x_const (np := 148) (x := 9223372043297226753) (a := 2147483649) (by decide +kernel) (by decide) (by decide) ?_
            refine x_goto (np := 151) (x := 152) (by decide +kernel) ?_
            refine x_istore (np := 154) (x := 4) (lo' := [x_r 75, iv_c 2147483653, iv_c 2147483648, w3920, iv_c 2147483649, iv_c v5873]) (by decide +kernel) (by decide) (Nat.le_of_ble_eq_true rfl) rfl ?_
            refine x_iload (np := 156) (x := 4) (by decide +kernel) rfl (by decide) ?_
            refine x_ifz (k := 0) (tg := 180) (np := 159) (by decide +kernel) (by decide) (by decide) (fun q5881 => ?_) (fun q5882 => ?_)
            · have q5881 : 2147483649 = 2147483648 := q5881
              exfalso; omega
            have q5882 : ¬ (2147483649 = 2147483648) := q5882
            refine x_aload (np := 160) (x := 0) (by decide +kernel) rfl (x_nc_le (by decide)) ?_
            have q5883 : h5859 75 27 = 93 := by have z := jB (e := 27) 0 j5860 rg_75_27_0_1 (by decide) (by decide); omega
            refine x_getR (np := 163) (x := 731) (f := 27) (q := 93) (by decide +kernel) (by decide) (by decide +kernel) q5883 ?_
            refine x_iload (np := 164) (x := 2) (by decide +kernel) rfl (by decide) ?_
            refine x_iload (np := 166) (x := 5) (by decide +kernel) rfl l5874 ?_
            refine x_ast (np := 167) (x := 0) (kd := 1) (n := 6) (i := 0) (by decide +kernel) (Or.inl rfl) (by decide +kernel) (by first | decide | omega) (by first | decide | omega) (by decide) l5874 (fun z => absurd z (by decide)) ?_
            have j5885 := jU (e := 0) (v := v5873) 0 j5860 rg_93_0_1_6 (by first | decide | omega) (by first | decide | omega) (by first | decide | omega)
            have f5887 := jF (e := 0) (v := v5873) 0 f5864 rg_93_0_1_6 (by first | decide | omega) (by first | decide | omega) (by decide)
            have f5888 := jF (e := 0) (v := v5873) 0 f5865 rg_93_0_1_6 (by first | decide | omega) (by first | decide | omega) (by decide)
            generalize e5886 : x_up h5859 93 0 v5873 = h5884 at j5885 f5887 f5888 ⊢
            refine x_aload (np := 168) (x := 0) (by decide +kernel) rfl (x_nc_le (by decide)) ?_
            refine x_iload (np := 170) (x := 5) (by decide +kernel) rfl l5874 ?_
            refine x_const (np := 171) (x := 9223372043297226753) (a := 2147483649) (by decide +kernel) (by decide) (by decide) ?_
            refine x_cV (t := 6) (mj := 248) (n := 3) (rc := 12) (ml := 4) (nr := 0) (np := 174) (as := [x_r 75, iv_c v5873, iv_c 2147483649]) (rest := []) (lo1 := [x_r 75, iv_c v5873, iv_c 2147483649, 147573952589676412928]) (by decide +kernel) (by decide) (by decide +kernel) (x_rb_of (by decide +kernel)) rfl rfl (x_wr (by decide) (x_wi l5874 (x_wi (by decide) x_wn))) x_wn (by decide) rfl (c248_75 j5885  (by first | decide | omega) (by first | decide | omega)) (fun h5892 q5891 => ?_)
            obtain ⟨j5893, f5894⟩ := q5891
            have f5897 := Fr.trans f5887 f5894 (by decide)
            have f5898 := Fr.trans f5888 f5894 (by decide)
            refine x_iinc (np := 177) (i := 2) (j := 2147483649) (v := 2147483649) (lo' := [x_r 75, iv_c 2147483653, iv_c 2147483649, w3920, iv_c 2147483649, iv_c v5873]) (by decide +kernel) (by decide) (by decide) rfl (by decide) (by first | decide | omega) (by first | decide | omega) rfl ?_
            refine x_goto (np := 180) (x := 183) (by decide +kernel) ?_
            refine x_goto (np := 186) (x := 12) (by decide +kernel) ?_
            have q5899 : h5892 75 30 = h5884 75 30 := jK 0 f5894 rg_75_30_0_1 (by first | decide | omega) (by first | decide | omega) (by decide)
            have q5900 : h5884 75 30 = h5859 75 30 := by rw [← e5886]; exact x_up_k (by decide)
            have q5901 : h5859 75 30 = h3922 75 30 := jK 0 f5861 rg_75_30_0_1 (by first | decide | omega) (by first | decide | omega) (by decide)
            exact i3951 w3920 (iv_c v5873) h5892 (by first | decide | omega) j5893 f5898 (by first | decide | omega)
          have q5871 : ¬ (2147483648 ≤ (h3922 94 0)) := q5871
          refine x_const (np := 132) (x := 9223372034707292159) (a := 2147483647) (by decide +kernel) (by decide) (by decide) ?_
          refine x_goto (np := 135) (x := 140) (by decide +kernel) ?_
          refine x_istore (np := 142) (x := 5) (lo' := [x_r 75, iv_c 2147483653, iv_c 2147483648, w3920, iv_c 2147483648, iv_c 2147483647]) (by decide +kernel) (by decide) (Nat.le_of_ble_eq_true rfl) rfl ?_
          refine x_iload (np := 144) (x := 5) (by decide +kernel) rfl (by decide) ?_
          refine x_ifz (k := 2) (tg := 151) (np := 147) (by decide +kernel) (by decide) (by decide) (fun q5902 => ?_) (fun q5903 => ?_)
          · have q5902 : 2147483647 < 2147483648 := q5902
            refine x_const (np := 152) (x := 9223372039002259456) (a := 2147483648) (by decide +kernel) (by decide) (by decide) ?_
            refine x_istore (np := 154) (x := 4) (lo' := [x_r 75, iv_c 2147483653, iv_c 2147483648, w3920, iv_c 2147483648, iv_c 2147483647]) (by decide +kernel) (by decide) (Nat.le_of_ble_eq_true rfl) rfl ?_
            refine x_iload (np := 156) (x := 4) (by decide +kernel) rfl (by decide) ?_
            refine x_ifz (k := 0) (tg := 180) (np := 159) (by decide +kernel) (by decide) (by decide) (fun q5904 => ?_) (fun q5905 => ?_)
            · have q5904 : 2147483648 = 2147483648 := q5904
              refine x_iinc (np := 183) (i := 2) (j := 2147483647) (v := 2147483647) (lo' := [x_r 75, iv_c 2147483653, iv_c 2147483647, w3920, iv_c 2147483648, iv_c 2147483647]) (by decide +kernel) (by decide) (by decide) rfl (by decide) (by first | decide | omega) (by first | decide | omega) rfl ?_
              refine x_goto (np := 186) (x := 12) (by decide +kernel) ?_
              have q5906 : h5859 75 30 = h3922 75 30 := jK 0 f5861 rg_75_30_0_1 (by first | decide | omega) (by first | decide | omega) (by decide)
              exact i3956 w3920 (iv_c 2147483647) h5859 (by first | decide | omega) j5860 f5865 (by first | decide | omega)
            have q5905 : ¬ (2147483648 = 2147483648) := q5905
            exfalso; omega
          have q5903 : ¬ (2147483647 < 2147483648) := q5903
          exfalso; omega
        have q5812 : ¬ (2147483648 = 2147483648) := q5812
        exfalso; omega
      · intro w3926 w3927 h3928 q5907 j3931 f3930 b3929
        have f5908 := Fr.trans f5 f3930 (by decide)
        refine x_iload (np := 13) (x := 2) (by decide +kernel) rfl (by decide) ?_
        refine x_ifz (k := 2) (tg := 186) (np := 16) (by decide +kernel) (by decide) (by decide) (fun q5909 => ?_) (fun q5910 => ?_)
        · have q5909 : 2147483649 < 2147483648 := q5909
          exfalso; omega
        have q5910 : ¬ (2147483649 < 2147483648) := q5910
        refine x_iload (np := 18) (x := 4) (by decide +kernel) rfl (by decide) ?_
        refine x_ifz (k := 0) (tg := 102) (np := 21) (by decide +kernel) (by decide) (by decide) (fun q5911 => ?_) (fun q5912 => ?_)
        · have q5911 : 2147483648 = 2147483648 := q5911
          refine x_aload (np := 103) (x := 0) (by decide +kernel) rfl (x_nc_le (by decide)) ?_
          have q5913 : h3928 75 27 = 93 := by have z := jB (e := 27) 0 j3931 rg_75_27_0_1 (by decide) (by decide); omega
          refine x_getR (np := 106) (x := 731) (f := 27) (q := 93) (by decide +kernel) (by decide) (by decide +kernel) q5913 ?_
          refine x_iload (np := 107) (x := 2) (by decide +kernel) rfl (by decide) ?_
          have b5914 := jB (e := 1) 1 j3931 rg_93_0_1_6 (by first | decide | omega) (by first | decide | omega)
          refine x_aldC (np := 108) (x := 0) (n := 6) (i := 1) (q := (h3928 93 1)) (by decide +kernel) (by decide +kernel) (by first | decide | omega) (by first | decide | omega) (by decide) rfl (fun l5915 => ?_)
          refine x_ifz (k := 2) (tg := 122) (np := 111) (by decide +kernel) (by decide) l5915 (fun q5916 => ?_) (fun q5917 => ?_)
          · have q5916 : (h3928 93 1) < 2147483648 := q5916
            refine x_aload (np := 123) (x := 0) (by decide +kernel) rfl (x_nc_le (by decide)) ?_
            have q5918 : h3928 75 28 = 94 := by have z := jB (e := 28) 0 j3931 rg_75_28_0_1 (by decide) (by decide); omega
            refine x_getR (np := 126) (x := 732) (f := 28) (q := 94) (by decide +kernel) (by decide) (by decide +kernel) q5918 ?_
            refine x_iload (np := 127) (x := 2) (by decide +kernel) rfl (by decide) ?_
            have b5919 := jB (e := 1) 1 j3931 rg_94_0_1_6 (by first | decide | omega) (by first | decide | omega)
            refine x_aldC (np := 128) (x := 0) (n := 6) (i := 1) (q := (h3928 94 1)) (by decide +kernel) (by decide +kernel) (by first | decide | omega) (by first | decide | omega) (by decide) rfl (fun l5920 => ?_)
            refine x_ifz (k := 3) (tg := 135) (np := 131) (by decide +kernel) (by decide) l5920 (fun q5921 => ?_) (fun q5922 => ?_)
            · have q5921 : 2147483648 ≤ (h3928 94 1) := q5921
              refine x_aload (np := 136) (x := 0) (by decide +kernel) rfl (x_nc_le (by decide)) ?_
              refine x_iload (np := 137) (x := 2) (by decide +kernel) rfl (by decide) ?_
              refine x_cP (t := 6) (mj := 257) (n := 2) (rc := 12) (ml := 3) (nr := 0) (np := 140) (as := [x_r 75, iv_c 2147483649]) (rest := []) (lo1 := [x_r 75, iv_c 2147483649, 147573952589676412928]) (by decide +kernel) (by decide) (by decide +kernel) (x_rb_of (by decide +kernel)) rfl rfl (x_wr (by decide) (x_wi (by decide) x_wn)) x_wn (by decide) rfl (c257_75_c1 j3931   (by first | decide | omega)) (fun v5923 l5924 q5925 => ?_)
              refine x_istore (np := 142) (x := 5) (lo' := [x_r 75, iv_c 2147483653, iv_c 2147483649, w3926, iv_c 2147483648, iv_c v5923]) (by decide +kernel) l5924 (Nat.le_of_ble_eq_true rfl) rfl ?_
              refine x_iload (np := 144) (x := 5) (by decide +kernel) rfl l5924 ?_
              refine x_ifz (k := 2) (tg := 151) (np := 147) (by decide +kernel) (by decide) l5924 (fun q5926 => ?_) (fun q5927 => ?_)
              · have q5926 : v5923 < 2147483648 := q5926
                refine x_const (np := 152) (x := 9223372039002259456) (a := 2147483648) (by decide +kernel) (by decide) (by decide) ?_
                refine x_istore (np := 154) (x := 4) (lo' := [x_r 75, iv_c 2147483653, iv_c 2147483649, w3926, iv_c 2147483648, iv_c v5923]) (by decide +kernel) (by decide) (Nat.le_of_ble_eq_true rfl) rfl ?_
                refine x_iload (np := 156) (x := 4) (by decide +kernel) rfl (by decide) ?_
                refine x_ifz (k := 0) (tg := 180) (np := 159) (by decide +kernel) (by decide) (by decide) (fun q5928 => ?_) (fun q5929 => ?_)
                · have q5928 : 2147483648 = 2147483648 := q5928
                  refine x_iinc (np := 183) (i := 2) (j := 2147483647) (v := 2147483648) (lo' := [x_r 75, iv_c 2147483653, iv_c 2147483648, w3926, iv_c 2147483648, iv_c v5923]) (by decide +kernel) (by decide) (by decide) rfl (by decide) (by first | decide | omega) (by first | decide | omega) rfl ?_
                  refine x_goto (np := 186) (x := 12) (by decide +kernel) ?_
                  exact i3957 w3926 (iv_c v5923) h3928 (by first | decide | omega) j3931 f3930 (by first | decide | omega)
                have q5929 : ¬ (2147483648 = 2147483648) := q5929
                exfalso; omega
              have q5927 : ¬ (v5923 < 2147483648) := q5927
              refine x_const (np := 148) (x := 9223372043297226753) (a := 2147483649) (by decide +kernel) (by decide) (by decide) ?_
              refine x_goto (np := 151) (x := 152) (by decide +kernel) ?_
              refine x_istore (np := 154) (x := 4) (lo' := [x_r 75, iv_c 2147483653, iv_c 2147483649, w3926, iv_c 2147483649, iv_c v5923]) (by decide +kernel) (by decide) (Nat.le_of_ble_eq_true rfl) rfl ?_
              refine x_iload (np := 156) (x := 4) (by decide +kernel) rfl (by decide) ?_
              refine x_ifz (k := 0) (tg := 180) (np := 159) (by decide +kernel) (by decide) (by decide) (fun q5930 => ?_) (fun q5931 => ?_)
              · have q5930 : 2147483649 = 2147483648 := q5930
                exfalso; omega
              have q5931 : ¬ (2147483649 = 2147483648) := q5931
              refine x_aload (np := 160) (x := 0) (by decide +kernel) rfl (x_nc_le (by decide)) ?_
              have q5932 : h3928 75 27 = 93 := by have z := jB (e := 27) 0 j3931 rg_75_27_0_1 (by decide) (by decide); omega
              refine x_getR (np := 163) (x := 731) (f := 27) (q := 93) (by decide +kernel) (by decide) (by decide +kernel) q5932 ?_
              refine x_iload (np := 164) (x := 2) (by decide +kernel) rfl (by decide) ?_
              refine x_iload (np := 166) (x := 5) (by decide +kernel) rfl l5924 ?_
              refine x_ast (np := 167) (x := 0) (kd := 1) (n := 6) (i := 1) (by decide +kernel) (Or.inl rfl) (by decide +kernel) (by first | decide | omega) (by first | decide | omega) (by decide) l5924 (fun z => absurd z (by decide)) ?_
              have j5934 := jU (e := 1) (v := v5923) 1 j3931 rg_93_0_1_6 (by first | decide | omega) (by first | decide | omega) (by first | decide | omega)
              have f5936 := jF (e := 1) (v := v5923) 1 f5908 rg_93_0_1_6 (by first | decide | omega) (by first | decide | omega) (by decide)
              have f5937 := jF (e := 1) (v := v5923) 1 f3930 rg_93_0_1_6 (by first | decide | omega) (by first | decide | omega) (by decide)
              generalize e5935 : x_up h3928 93 1 v5923 = h5933 at j5934 f5936 f5937 ⊢
              refine x_aload (np := 168) (x := 0) (by decide +kernel) rfl (x_nc_le (by decide)) ?_
              refine x_iload (np := 170) (x := 5) (by decide +kernel) rfl l5924 ?_
              refine x_const (np := 171) (x := 9223372043297226753) (a := 2147483649) (by decide +kernel) (by decide) (by decide) ?_
              refine x_cV (t := 6) (mj := 248) (n := 3) (rc := 12) (ml := 4) (nr := 0) (np := 174) (as := [x_r 75, iv_c v5923, iv_c 2147483649]) (rest := []) (lo1 := [x_r 75, iv_c v5923, iv_c 2147483649, 147573952589676412928]) (by decide +kernel) (by decide) (by decide +kernel) (x_rb_of (by decide +kernel)) rfl rfl (x_wr (by decide) (x_wi l5924 (x_wi (by decide) x_wn))) x_wn (by decide) rfl (c248_75 j5934  (by first | decide | omega) (by first | decide | omega)) (fun h5941 q5940 => ?_)
              obtain ⟨j5942, f5943⟩ := q5940
              have f5946 := Fr.trans f5936 f5943 (by decide)
              have f5947 := Fr.trans f5937 f5943 (by decide)
              refine x_iinc (np := 177) (i := 2) (j := 2147483649) (v := 2147483650) (lo' := [x_r 75, iv_c 2147483653, iv_c 2147483650, w3926, iv_c 2147483649, iv_c v5923]) (by decide +kernel) (by decide) (by decide) rfl (by decide) (by first | decide | omega) (by first | decide | omega) rfl ?_
              refine x_goto (np := 180) (x := 183) (by decide +kernel) ?_
              refine x_goto (np := 186) (x := 12) (by decide +kernel) ?_
              have q5948 : h5941 75 30 = h5933 75 30 := jK 0 f5943 rg_75_30_0_1 (by first | decide | omega) (by first | decide | omega) (by decide)
              have q5949 : h5933 75 30 = h3928 75 30 := by rw [← e5935]; exact x_up_k (by decide)
              exact i3952 w3926 (iv_c v5923) h5941 (by first | decide | omega) j5942 f5947 (by first | decide | omega)
            have q5922 : ¬ (2147483648 ≤ (h3928 94 1)) := q5922
            refine x_const (np := 132) (x := 9223372034707292159) (a := 2147483647) (by decide +kernel) (by decide) (by decide) ?_
            refine x_goto (np := 135) (x := 140) (by decide +kernel) ?_
            refine x_istore (np := 142) (x := 5) (lo' := [x_r 75, iv_c 2147483653, iv_c 2147483649, w3926, iv_c 2147483648, iv_c 2147483647]) (by decide +kernel) (by decide) (Nat.le_of_ble_eq_true rfl) rfl ?_
            refine x_iload (np := 144) (x := 5) (by decide +kernel) rfl (by decide) ?_
            refine x_ifz (k := 2) (tg := 151) (np := 147) (by decide +kernel) (by decide) (by decide) (fun q5950 => ?_) (fun q5951 => ?_)
            · have q5950 : 2147483647 < 2147483648 := q5950
              refine x_const (np := 152) (x := 9223372039002259456) (a := 2147483648) (by decide +kernel) (by decide) (by decide) ?_
              refine x_istore (np := 154) (x := 4) (lo' := [x_r 75, iv_c 2147483653, iv_c 2147483649, w3926, iv_c 2147483648, iv_c 2147483647]) (by decide +kernel) (by decide) (Nat.le_of_ble_eq_true rfl) rfl ?_
              refine x_iload (np := 156) (x := 4) (by decide +kernel) rfl (by decide) ?_
              refine x_ifz (k := 0) (tg := 180) (np := 159) (by decide +kernel) (by decide) (by decide) (fun q5952 => ?_) (fun q5953 => ?_)
              · have q5952 : 2147483648 = 2147483648 := q5952
                refine x_iinc (np := 183) (i := 2) (j := 2147483647) (v := 2147483648) (lo' := [x_r 75, iv_c 2147483653, iv_c 2147483648, w3926, iv_c 2147483648, iv_c 2147483647]) (by decide +kernel) (by decide) (by decide) rfl (by decide) (by first | decide | omega) (by first | decide | omega) rfl ?_
                refine x_goto (np := 186) (x := 12) (by decide +kernel) ?_
                exact i3957 w3926 (iv_c 2147483647) h3928 (by first | decide | omega) j3931 f3930 (by first | decide | omega)
              have q5953 : ¬ (2147483648 = 2147483648) := q5953
              exfalso; omega
            have q5951 : ¬ (2147483647 < 2147483648) := q5951
            exfalso; omega
          have q5917 : ¬ ((h3928 93 1) < 2147483648) := q5917
          refine x_aload (np := 112) (x := 0) (by decide +kernel) rfl (x_nc_le (by decide)) ?_
          refine x_aload (np := 113) (x := 0) (by decide +kernel) rfl (x_nc_le (by decide)) ?_
          have q5954 : h3928 75 27 = 93 := by have z := jB (e := 27) 0 j3931 rg_75_27_0_1 (by decide) (by decide); omega
          refine x_getR (np := 116) (x := 731) (f := 27) (q := 93) (by decide +kernel) (by decide) (by decide +kernel) q5954 ?_
          refine x_iload (np := 117) (x := 2) (by decide +kernel) rfl (by decide) ?_
          refine x_aldC (np := 118) (x := 0) (n := 6) (i := 1) (q := (h3928 93 1)) (by decide +kernel) (by decide +kernel) (by first | decide | omega) (by first | decide | omega) (by decide) rfl (fun l5955 => ?_)
          refine x_const (np := 119) (x := 9223372039002259456) (a := 2147483648) (by decide +kernel) (by decide) (by decide) ?_
          refine x_cV (t := 6) (mj := 248) (n := 3) (rc := 12) (ml := 4) (nr := 0) (np := 122) (as := [x_r 75, iv_c (h3928 93 1), iv_c 2147483648]) (rest := []) (lo1 := [x_r 75, iv_c (h3928 93 1), iv_c 2147483648, 147573952589676412928]) (by decide +kernel) (by decide) (by decide +kernel) (x_rb_of (by decide +kernel)) rfl rfl (x_wr (by decide) (x_wi l5915 (x_wi (by decide) x_wn))) x_wn (by decide) rfl (c248_75 j3931  (by first | decide | omega) (by first | decide | omega)) (fun h5959 q5958 => ?_)
          obtain ⟨j5960, f5961⟩ := q5958
          have f5964 := Fr.trans f5908 f5961 (by decide)
          have f5965 := Fr.trans f3930 f5961 (by decide)
          refine x_aload (np := 123) (x := 0) (by decide +kernel) rfl (x_nc_le (by decide)) ?_
          have q5966 : h5959 75 28 = 94 := by have z := jB (e := 28) 0 j5960 rg_75_28_0_1 (by decide) (by decide); omega
          refine x_getR (np := 126) (x := 732) (f := 28) (q := 94) (by decide +kernel) (by decide) (by decide +kernel) q5966 ?_
          refine x_iload (np := 127) (x := 2) (by decide +kernel) rfl (by decide) ?_
          have q5967 : h5959 94 1 = h3928 94 1 := jK 1 f5961 rg_94_0_1_6 (by first | decide | omega) (by first | decide | omega) (by decide)
          have b5968 := jB (e := 1) 1 j3931 rg_94_0_1_6 (by first | decide | omega) (by first | decide | omega)
          refine x_aldC (np := 128) (x := 0) (n := 6) (i := 1) (q := (h3928 94 1)) (by decide +kernel) (by decide +kernel) (by first | decide | omega) (by first | decide | omega) (by decide) q5967 (fun l5969 => ?_)
          refine x_ifz (k := 3) (tg := 135) (np := 131) (by decide +kernel) (by decide) l5969 (fun q5970 => ?_) (fun q5971 => ?_)
          · have q5970 : 2147483648 ≤ (h3928 94 1) := q5970
            refine x_aload (np := 136) (x := 0) (by decide +kernel) rfl (x_nc_le (by decide)) ?_
            refine x_iload (np := 137) (x := 2) (by decide +kernel) rfl (by decide) ?_
            have q5972 : h5959 94 1 = h3928 94 1 := jK 1 f5961 rg_94_0_1_6 (by first | decide | omega) (by first | decide | omega) (by decide)
            refine x_cP (t := 6) (mj := 257) (n := 2) (rc := 12) (ml := 3) (nr := 0) (np := 140) (as := [x_r 75, iv_c 2147483649]) (rest := []) (lo1 := [x_r 75, iv_c 2147483649, 147573952589676412928]) (by decide +kernel) (by decide) (by decide +kernel) (x_rb_of (by decide +kernel)) rfl rfl (x_wr (by decide) (x_wi (by decide) x_wn)) x_wn (by decide) rfl (c257_75_c1 j5960   (by first | decide | omega)) (fun v5973 l5974 q5975 => ?_)
            refine x_istore (np := 142) (x := 5) (lo' := [x_r 75, iv_c 2147483653, iv_c 2147483649, w3926, iv_c 2147483648, iv_c v5973]) (by decide +kernel) l5974 (Nat.le_of_ble_eq_true rfl) rfl ?_
            refine x_iload (np := 144) (x := 5) (by decide +kernel) rfl l5974 ?_
            refine x_ifz (k := 2) (tg := 151) (np := 147) (by decide +kernel) (by decide) l5974 (fun q5976 => ?_) (fun q5977 => ?_)
            · have q5976 : v5973 < 2147483648 := q5976
              refine x_const (np := 152) (x := 9223372039002259456) (a := 2147483648) (by decide +kernel) (by decide) (by decide) ?_
              refine x_istore (np := 154) (x := 4) (lo' := [x_r 75, iv_c 2147483653, iv_c 2147483649, w3926, iv_c 2147483648, iv_c v5973]) (by decide +kernel) (by decide) (Nat.le_of_ble_eq_true rfl) rfl ?_
              refine x_iload (np := 156) (x := 4) (by decide +kernel) rfl (by decide) ?_
              refine x_ifz (k := 0) (tg := 180) (np := 159) (by decide +kernel) (by decide) (by decide) (fun q5978 => ?_) (fun q5979 => ?_)
              · have q5978 : 2147483648 = 2147483648 := q5978
                refine x_iinc (np := 183) (i := 2) (j := 2147483647) (v := 2147483648) (lo' := [x_r 75, iv_c 2147483653, iv_c 2147483648, w3926, iv_c 2147483648, iv_c v5973]) (by decide +kernel) (by decide) (by decide) rfl (by decide) (by first | decide | omega) (by first | decide | omega) rfl ?_
                refine x_goto (np := 186) (x := 12) (by decide +kernel) ?_
                have q5980 : h5959 75 30 = h3928 75 30 := jK 0 f5961 rg_75_30_0_1 (by first | decide | omega) (by first | decide | omega) (by decide)
                exact i3957 w3926 (iv_c v5973) h5959 (by first | decide | omega) j5960 f5965 (by first | decide | omega)
              have q5979 : ¬ (2147483648 = 2147483648) := q5979
              exfalso; omega
            have q5977 : ¬ (v5973 < 2147483648) := q5977
            refine x_const (np := 148) (x := 9223372043297226753) (a := 2147483649) (by decide +kernel) (by decide) (by decide) ?_
            refine x_goto (np := 151) (x := 152) (by decide +kernel) ?_
            refine x_istore (np := 154) (x := 4) (lo' := [x_r 75, iv_c 2147483653, iv_c 2147483649, w3926, iv_c 2147483649, iv_c v5973]) (by decide +kernel) (by decide) (Nat.le_of_ble_eq_true rfl) rfl ?_
            refine x_iload (np := 156) (x := 4) (by decide +kernel) rfl (by decide) ?_
            refine x_ifz (k := 0) (tg := 180) (np := 159) (by decide +kernel) (by decide) (by decide) (fun q5981 => ?_) (fun q5982 => ?_)
            · have q5981 : 2147483649 = 2147483648 := q5981
              exfalso; omega
            have q5982 : ¬ (2147483649 = 2147483648) := q5982
            refine x_aload (np := 160) (x := 0) (by decide +kernel) rfl (x_nc_le (by decide)) ?_
            have q5983 : h5959 75 27 = 93 := by have z := jB (e := 27) 0 j5960 rg_75_27_0_1 (by decide) (by decide); omega
            refine x_getR (np := 163) (x := 731) (f := 27) (q := 93) (by decide +kernel) (by decide) (by decide +kernel) q5983 ?_
            refine x_iload (np := 164) (x := 2) (by decide +kernel) rfl (by decide) ?_
            refine x_iload (np := 166) (x := 5) (by decide +kernel) rfl l5974 ?_
            refine x_ast (np := 167) (x := 0) (kd := 1) (n := 6) (i := 1) (by decide +kernel) (Or.inl rfl) (by decide +kernel) (by first | decide | omega) (by first | decide | omega) (by decide) l5974 (fun z => absurd z (by decide)) ?_
            have j5985 := jU (e := 1) (v := v5973) 1 j5960 rg_93_0_1_6 (by first | decide | omega) (by first | decide | omega) (by first | decide | omega)
            have f5987 := jF (e := 1) (v := v5973) 1 f5964 rg_93_0_1_6 (by first | decide | omega) (by first | decide | omega) (by decide)
            have f5988 := jF (e := 1) (v := v5973) 1 f5965 rg_93_0_1_6 (by first | decide | omega) (by first | decide | omega) (by decide)
            generalize e5986 : x_up h5959 93 1 v5973 = h5984 at j5985 f5987 f5988 ⊢
            refine x_aload (np := 168) (x := 0) (by decide +kernel) rfl (x_nc_le (by decide)) ?_
            refine x_iload (np := 170) (x := 5) (by decide +kernel) rfl l5974 ?_
            refine x_const (np := 171) (x := 9223372043297226753) (a := 2147483649) (by decide +kernel) (by decide) (by decide) ?_
            refine x_cV (t := 6) (mj := 248) (n := 3) (rc := 12) (ml := 4) (nr := 0) (np := 174) (as := [x_r 75, iv_c v5973, iv_c 2147483649]) (rest := []) (lo1 := [x_r 75, iv_c v5973, iv_c 2147483649, 147573952589676412928]) (by decide +kernel) (by decide) (by decide +kernel) (x_rb_of (by decide +kernel)) rfl rfl (x_wr (by decide) (x_wi l5974 (x_wi (by decide) x_wn))) x_wn (by decide) rfl (c248_75 j5985  (by first | decide | omega) (by first | decide | omega)) (fun h5992 q5991 => ?_)
            obtain ⟨j5993, f5994⟩ := q5991
            have f5997 := Fr.trans f5987 f5994 (by decide)
            have f5998 := Fr.trans f5988 f5994 (by decide)
            refine x_iinc (np := 177) (i := 2) (j := 2147483649) (v := 2147483650) (lo' := [x_r 75, iv_c 2147483653, iv_c 2147483650, w3926, iv_c 2147483649, iv_c v5973]) (by decide +kernel) (by decide) (by decide) rfl (by decide) (by first | decide | omega) (by first | decide | omega) rfl ?_
            refine x_goto (np := 180) (x := 183) (by decide +kernel) ?_
            refine x_goto (np := 186) (x := 12) (by decide +kernel) ?_
            have q5999 : h5992 75 30 = h5984 75 30 := jK 0 f5994 rg_75_30_0_1 (by first | decide | omega) (by first | decide | omega) (by decide)
            have q6000 : h5984 75 30 = h5959 75 30 := by rw [← e5986]; exact x_up_k (by decide)
            have q6001 : h5959 75 30 = h3928 75 30 := jK 0 f5961 rg_75_30_0_1 (by first | decide | omega) (by first | decide | omega) (by decide)
            exact i3952 w3926 (iv_c v5973) h5992 (by first | decide | omega) j5993 f5998 (by first | decide | omega)
          have q5971 : ¬ (2147483648 ≤ (h3928 94 1)) := q5971
          refine x_const (np := 132) (x := 9223372034707292159) (a := 2147483647) (by decide +kernel) (by decide) (by decide) ?_
          refine x_goto (np := 135) (x := 140) (by decide +kernel) ?_
          refine x_istore (np := 142) (x := 5) (lo' := [x_r 75, iv_c 2147483653, iv_c 2147483649, w3926, iv_c 2147483648, iv_c 2147483647]) (by decide +kernel) (by decide) (Nat.le_of_ble_eq_true rfl) rfl ?_
          refine x_iload (np := 144) (x := 5) (by decide +kernel) rfl (by decide) ?_
          refine x_ifz (k := 2) (tg := 151) (np := 147) (by decide +kernel) (by decide) (by decide) (fun q6002 => ?_) (fun q6003 => ?_)
          · have q6002 : 2147483647 < 2147483648 := q6002
            refine x_const (np := 152) (x := 9223372039002259456) (a := 2147483648) (by decide +kernel) (by decide) (by decide) ?_
            refine x_istore (np := 154) (x := 4) (lo' := [x_r 75, iv_c 2147483653, iv_c 2147483649, w3926, iv_c 2147483648, iv_c 2147483647]) (by decide +kernel) (by decide) (Nat.le_of_ble_eq_true rfl) rfl ?_
            refine x_iload (np := 156) (x := 4) (by decide +kernel) rfl (by decide) ?_
            refine x_ifz (k := 0) (tg := 180) (np := 159) (by decide +kernel) (by decide) (by decide) (fun q6004 => ?_) (fun q6005 => ?_)
            · have q6004 : 2147483648 = 2147483648 := q6004
              refine x_iinc (np := 183) (i := 2) (j := 2147483647) (v := 2147483648) (lo' := [x_r 75, iv_c 2147483653, iv_c 2147483648, w3926, iv_c 2147483648, iv_c 2147483647]) (by decide +kernel) (by decide) (by decide) rfl (by decide) (by first | decide | omega) (by first | decide | omega) rfl ?_
              refine x_goto (np := 186) (x := 12) (by decide +kernel) ?_
              have q6006 : h5959 75 30 = h3928 75 30 := jK 0 f5961 rg_75_30_0_1 (by first | decide | omega) (by first | decide | omega) (by decide)
              exact i3957 w3926 (iv_c 2147483647) h5959 (by first | decide | omega) j5960 f5965 (by first | decide | omega)
            have q6005 : ¬ (2147483648 = 2147483648) := q6005
            exfalso; omega
          have q6003 : ¬ (2147483647 < 2147483648) := q6003
          exfalso; omega
        have q5912 : ¬ (2147483648 = 2147483648) := q5912
        exfalso; omega
      · intro w3932 w3933 h3934 q6007 j3937 f3936 b3935
        have f6008 := Fr.trans f5 f3936 (by decide)
        refine x_iload (np := 13) (x := 2) (by decide +kernel) rfl (by decide) ?_
        refine x_ifz (k := 2) (tg := 186) (np := 16) (by decide +kernel) (by decide) (by decide) (fun q6009 => ?_) (fun q6010 => ?_)
        · have q6009 : 2147483650 < 2147483648 := q6009
          exfalso; omega
        have q6010 : ¬ (2147483650 < 2147483648) := q6010
        refine x_iload (np := 18) (x := 4) (by decide +kernel) rfl (by decide) ?_
        refine x_ifz (k := 0) (tg := 102) (np := 21) (by decide +kernel) (by decide) (by decide) (fun q6011 => ?_) (fun q6012 => ?_)
        · have q6011 : 2147483648 = 2147483648 := q6011
          refine x_aload (np := 103) (x := 0) (by decide +kernel) rfl (x_nc_le (by decide)) ?_
          have q6013 : h3934 75 27 = 93 := by have z := jB (e := 27) 0 j3937 rg_75_27_0_1 (by decide) (by decide); omega
          refine x_getR (np := 106) (x := 731) (f := 27) (q := 93) (by decide +kernel) (by decide) (by decide +kernel) q6013 ?_
          refine x_iload (np := 107) (x := 2) (by decide +kernel) rfl (by decide) ?_
          have b6014 := jB (e := 2) 2 j3937 rg_93_0_1_6 (by first | decide | omega) (by first | decide | omega)
          refine x_aldC (np := 108) (x := 0) (n := 6) (i := 2) (q := (h3934 93 2)) (by decide +kernel) (by decide +kernel) (by first | decide | omega) (by first | decide | omega) (by decide) rfl (fun l6015 => ?_)
          refine x_ifz (k := 2) (tg := 122) (np := 111) (by decide +kernel) (by decide) l6015 (fun q6016 => ?_) (fun q6017 => ?_)
          · have q6016 : (h3934 93 2) < 2147483648 := q6016
            refine x_aload (np := 123) (x := 0) (by decide +kernel) rfl (x_nc_le (by decide)) ?_
            have q6018 : h3934 75 28 = 94 := by have z := jB (e := 28) 0 j3937 rg_75_28_0_1 (by decide) (by decide); omega
            refine x_getR (np := 126) (x := 732) (f := 28) (q := 94) (by decide +kernel) (by decide) (by decide +kernel) q6018 ?_
            refine x_iload (np := 127) (x := 2) (by decide +kernel) rfl (by decide) ?_
            have b6019 := jB (e := 2) 2 j3937 rg_94_0_1_6 (by first | decide | omega) (by first | decide | omega)
            refine x_aldC (np := 128) (x := 0) (n := 6) (i := 2) (q := (h3934 94 2)) (by decide +kernel) (by decide +kernel) (by first | decide | omega) (by first | decide | omega) (by decide) rfl (fun l6020 => ?_)
            refine x_ifz (k := 3) (tg := 135) (np := 131) (by decide +kernel) (by decide) l6020 (fun q6021 => ?_) (fun q6022 => ?_)
            · have q6021 : 2147483648 ≤ (h3934 94 2) := q6021
              refine x_aload (np := 136) (x := 0) (by decide +kernel) rfl (x_nc_le (by decide)) ?_
              refine x_iload (np := 137) (x := 2) (by decide +kernel) rfl (by decide) ?_
              refine x_cP (t := 6) (mj := 257) (n := 2) (rc := 12) (ml := 3) (nr := 0) (np := 140) (as := [x_r 75, iv_c 2147483650]) (rest := []) (lo1 := [x_r 75, iv_c 2147483650, 147573952589676412928]) (by decide +kernel) (by decide) (by decide +kernel) (x_rb_of (by decide +kernel)) rfl rfl (x_wr (by decide) (x_wi (by decide) x_wn)) x_wn (by decide) rfl (c257_75_c2 j3937   (by first | decide | omega)) (fun v6023 l6024 q6025 => ?_)
              refine x_istore (np := 142) (x := 5) (lo' := [x_r 75, iv_c 2147483653, iv_c 2147483650, w3932, iv_c 2147483648, iv_c v6023]) (by decide +kernel) l6024 (Nat.le_of_ble_eq_true rfl) rfl ?_
              refine x_iload (np := 144) (x := 5) (by decide +kernel) rfl l6024 ?_
              refine x_ifz (k := 2) (tg := 151) (np := 147) (by decide +kernel) (by decide) l6024 (fun q6026 => ?_) (fun q6027 => ?_)
              · have q6026 : v6023 < 2147483648 := q6026
                refine x_const (np := 152) (x := 9223372039002259456) (a := 2147483648) (by decide +kernel) (by decide) (by decide) ?_
                refine x_istore (np := 154) (x := 4) (lo' := [x_r 75, iv_c 2147483653, iv_c 2147483650, w3932, iv_c 2147483648, iv_c v6023]) (by decide +kernel) (by decide) (Nat.le_of_ble_eq_true rfl) rfl ?_
                refine x_iload (np := 156) (x := 4) (by decide +kernel) rfl (by decide) ?_
                refine x_ifz (k := 0) (tg := 180) (np := 159) (by decide +kernel) (by decide) (by decide) (fun q6028 => ?_) (fun q6029 => ?_)
                · have q6028 : 2147483648 = 2147483648 := q6028
                  refine x_iinc (np := 183) (i := 2) (j := 2147483647) (v := 2147483649) (lo' := [x_r 75, iv_c 2147483653, iv_c 2147483649, w3932, iv_c 2147483648, iv_c v6023]) (by decide +kernel) (by decide) (by decide) rfl (by decide) (by first | decide | omega) (by first | decide | omega) rfl ?_
                  refine x_goto (np := 186) (x := 12) (by decide +kernel) ?_
                  exact i3958 w3932 (iv_c v6023) h3934 (by first | decide | omega) j3937 f3936 (by first | decide | omega)
                have q6029 : ¬ (2147483648 = 2147483648) := q6029
                exfalso; omega
              have q6027 : ¬ (v6023 < 2147483648) := q6027
              refine x_const (np := 148) (x := 9223372043297226753) (a := 2147483649) (by decide +kernel) (by decide) (by decide) ?_
              refine x_goto (np := 151) (x := 152) (by decide +kernel) ?_
              refine x_istore (np := 154) (x := 4) (lo' := [x_r 75, iv_c 2147483653, iv_c 2147483650, w3932, iv_c 2147483649, iv_c v6023]) (by decide +kernel) (by decide) (Nat.le_of_ble_eq_true rfl) rfl ?_
              refine x_iload (np := 156) (x := 4) (by decide +kernel) rfl (by decide) ?_
              refine x_ifz (k := 0) (tg := 180) (np := 159) (by decide +kernel) (by decide) (by decide) (fun q6030 => ?_) (fun q6031 => ?_)
              · have q6030 : 2147483649 = 2147483648 := q6030
                exfalso; omega
              have q6031 : ¬ (2147483649 = 2147483648) := q6031
              refine x_aload (np := 160) (x := 0) (by decide +kernel) rfl (x_nc_le (by decide)) ?_
              have q6032 : h3934 75 27 = 93 := by have z := jB (e := 27) 0 j3937 rg_75_27_0_1 (by decide) (by decide); omega
              refine x_getR (np := 163) (x := 731) (f := 27) (q := 93) (by decide +kernel) (by decide) (by decide +kernel) q6032 ?_
              refine x_iload (np := 164) (x := 2) (by decide +kernel) rfl (by decide) ?_
              refine x_iload (np := 166) (x := 5) (by decide +kernel) rfl l6024 ?_
              refine x_ast (np := 167) (x := 0) (kd := 1) (n := 6) (i := 2) (by decide +kernel) (Or.inl rfl) (by decide +kernel) (by first | decide | omega) (by first | decide | omega) (by decide) l6024 (fun z => absurd z (by decide)) ?_
              have j6034 := jU (e := 2) (v := v6023) 2 j3937 rg_93_0_1_6 (by first | decide | omega) (by first | decide | omega) (by first | decide | omega)
              have f6036 := jF (e := 2) (v := v6023) 2 f6008 rg_93_0_1_6 (by first | decide | omega) (by first | decide | omega) (by decide)
              have f6037 := jF (e := 2) (v := v6023) 2 f3936 rg_93_0_1_6 (by first | decide | omega) (by first | decide | omega) (by decide)
              generalize e6035 : x_up h3934 93 2 v6023 = h6033 at j6034 f6036 f6037 ⊢
              refine x_aload (np := 168) (x := 0) (by decide +kernel) rfl (x_nc_le (by decide)) ?_
              refine x_iload (np := 170) (x := 5) (by decide +kernel) rfl l6024 ?_
              refine x_const (np := 171) (x := 9223372043297226753) (a := 2147483649) (by decide +kernel) (by decide) (by decide) ?_
              refine x_cV (t := 6) (mj := 248) (n := 3) (rc := 12) (ml := 4) (nr := 0) (np := 174) (as := [x_r 75, iv_c v6023, iv_c 2147483649]) (rest := []) (lo1 := [x_r 75, iv_c v6023, iv_c 2147483649, 147573952589676412928]) (by decide +kernel) (by decide) (by decide +kernel) (x_rb_of (by decide +kernel)) rfl rfl (x_wr (by decide) (x_wi l6024 (x_wi (by decide) x_wn))) x_wn (by decide) rfl (c248_75 j6034  (by first | decide | omega) (by first | decide | omega)) (fun h6041 q6040 => ?_)
              obtain ⟨j6042, f6043⟩ := q6040
              have f6046 := Fr.trans f6036 f6043 (by decide)
              have f6047 := Fr.trans f6037 f6043 (by decide)
              refine x_iinc (np := 177) (i := 2) (j := 2147483649) (v := 2147483651) (lo' := [x_r 75, iv_c 2147483653, iv_c 2147483651, w3932, iv_c 2147483649, iv_c v6023]) (by decide +kernel) (by decide) (by decide) rfl (by decide) (by first | decide | omega) (by first | decide | omega) rfl ?_
              refine x_goto (np := 180) (x := 183) (by decide +kernel) ?_
              refine x_goto (np := 186) (x := 12) (by decide +kernel) ?_
              have q6048 : h6041 75 30 = h6033 75 30 := jK 0 f6043 rg_75_30_0_1 (by first | decide | omega) (by first | decide | omega) (by decide)
              have q6049 : h6033 75 30 = h3934 75 30 := by rw [← e6035]; exact x_up_k (by decide)
              exact i3953 w3932 (iv_c v6023) h6041 (by first | decide | omega) j6042 f6047 (by first | decide | omega)
            have q6022 : ¬ (2147483648 ≤ (h3934 94 2)) := q6022
            refine x_const (np := 132) (x := 9223372034707292159) (a := 2147483647) (by decide +kernel) (by decide) (by decide) ?_
            refine x_goto (np := 135) (x := 140) (by decide +kernel) ?_
            refine x_istore (np := 142) (x := 5) (lo' := [x_r 75, iv_c 2147483653, iv_c 2147483650, w3932, iv_c 2147483648, iv_c 2147483647]) (by decide +kernel) (by decide) (Nat.le_of_ble_eq_true rfl) rfl ?_
            refine x_iload (np := 144) (x := 5) (by decide +kernel) rfl (by decide) ?_
            refine x_ifz (k := 2) (tg := 151) (np := 147) (by decide +kernel) (by decide) (by decide) (fun q6050 => ?_) (fun q6051 => ?_)
            · have q6050 : 2147483647 < 2147483648 := q6050
              refine x_const (np := 152) (x := 9223372039002259456) (a := 2147483648) (by decide +kernel) (by decide) (by decide) ?_
              refine x_istore (np := 154) (x := 4) (lo' := [x_r 75, iv_c 2147483653, iv_c 2147483650, w3932, iv_c 2147483648, iv_c 2147483647]) (by decide +kernel) (by decide) (Nat.le_of_ble_eq_true rfl) rfl ?_
              refine x_iload (np := 156) (x := 4) (by decide +kernel) rfl (by decide) ?_
              refine x_ifz (k := 0) (tg := 180) (np := 159) (by decide +kernel) (by decide) (by decide) (fun q6052 => ?_) (fun q6053 => ?_)
              · have q6052 : 2147483648 = 2147483648 := q6052
                refine x_iinc (np := 183) (i := 2) (j := 2147483647) (v := 2147483649) (lo' := [x_r 75, iv_c 2147483653, iv_c 2147483649, w3932, iv_c 2147483648, iv_c 2147483647]) (by decide +kernel) (by decide) (by decide) rfl (by decide) (by first | decide | omega) (by first | decide | omega) rfl ?_
                refine x_goto (np := 186) (x := 12) (by decide +kernel) ?_
                exact i3958 w3932 (iv_c 2147483647) h3934 (by first | decide | omega) j3937 f3936 (by first | decide | omega)
              have q6053 : ¬ (2147483648 = 2147483648) := q6053
              exfalso; omega
            have q6051 : ¬ (2147483647 < 2147483648) := q6051
            exfalso; omega
          have q6017 : ¬ ((h3934 93 2) < 2147483648) := q6017
          refine x_aload (np := 112) (x := 0) (by decide +kernel) rfl (x_nc_le (by decide)) ?_
          refine x_aload (np := 113) (x := 0) (by decide +kernel) rfl (x_nc_le (by decide)) ?_
          have q6054 : h3934 75 27 = 93 := by have z := jB (e := 27) 0 j3937 rg_75_27_0_1 (by decide) (by decide); omega
          refine x_getR (np := 116) (x := 731) (f := 27) (q := 93) (by decide +kernel) (by decide) (by decide +kernel) q6054 ?_
          refine x_iload (np := 117) (x := 2) (by decide +kernel) rfl (by decide) ?_
          refine x_aldC (np := 118) (x := 0) (n := 6) (i := 2) (q := (h3934 93 2)) (by decide +kernel) (by decide +kernel) (by first | decide | omega) (by first | decide | omega) (by decide) rfl (fun l6055 => ?_)
          refine x_const (np := 119) (x := 9223372039002259456) (a := 2147483648) (by decide +kernel) (by decide) (by decide) ?_
          refine x_cV (t := 6) (mj := 248) (n := 3) (rc := 12) (ml := 4) (nr := 0) (np := 122) (as := [x_r 75, iv_c (h3934 93 2), iv_c 2147483648]) (rest := []) (lo1 := [x_r 75, iv_c (h3934 93 2), iv_c 2147483648, 147573952589676412928]) (by decide +kernel) (by decide) (by decide +kernel) (x_rb_of (by decide +kernel)) rfl rfl (x_wr (by decide) (x_wi l6015 (x_wi (by decide) x_wn))) x_wn (by decide) rfl (c248_75 j3937  (by first | decide | omega) (by first | decide | omega)) (fun h6059 q6058 => ?_)
          obtain ⟨j6060, f6061⟩ := q6058
          have f6064 := Fr.trans f6008 f6061 (by decide)
          have f6065 := Fr.trans f3936 f6061 (by decide)
          refine x_aload (np := 123) (x := 0) (by decide +kernel) rfl (x_nc_le (by decide)) ?_
          have q6066 : h6059 75 28 = 94 := by have z := jB (e := 28) 0 j6060 rg_75_28_0_1 (by decide) (by decide); omega
          refine x_getR (np := 126) (x := 732) (f := 28) (q := 94) (by decide +kernel) (by decide) (by decide +kernel) q6066 ?_
          refine x_iload (np := 127) (x := 2) (by decide +kernel) rfl (by decide) ?_
          have q6067 : h6059 94 2 = h3934 94 2 := jK 2 f6061 rg_94_0_1_6 (by first | decide | omega) (by first | decide | omega) (by decide)
          have b6068 := jB (e := 2) 2 j3937 rg_94_0_1_6 (by first | decide | omega) (by first | decide | omega)
          refine x_aldC (np := 128) (x := 0) (n := 6) (i := 2) (q := (h3934 94 2)) (by decide +kernel) (by decide +kernel) (by first | decide | omega) (by first | decide | omega) (by decide) q6067 (fun l6069 => ?_)
          refine x_ifz (k := 3) (tg := 135) (np := 131) (by decide +kernel) (by decide) l6069 (fun q6070 => ?_) (fun q6071 => ?_)
          · have q6070 : 2147483648 ≤ (h3934 94 2) := q6070
            refine x_aload (np := 136) (x := 0) (by decide +kernel) rfl (x_nc_le (by decide)) ?_
            refine x_iload (np := 137) (x := 2) (by decide +kernel) rfl (by decide) ?_
            have q6072 : h6059 94 2 = h3934 94 2 := jK 2 f6061 rg_94_0_1_6 (by first | decide | omega) (by first | decide | omega) (by decide)
            refine x_cP (t := 6) (mj := 257) (n := 2) (rc := 12) (ml := 3) (nr := 0) (np := 140) (as := [x_r 75, iv_c 2147483650]) (rest := []) (lo1 := [x_r 75, iv_c 2147483650, 147573952589676412928]) (by decide +kernel) (by decide) (by decide +kernel) (x_rb_of (by decide +kernel)) rfl rfl (x_wr (by decide) (x_wi (by decide) x_wn)) x_wn (by decide) rfl (c257_75_c2 j6060   (by first | decide | omega)) (fun v6073 l6074 q6075 => ?_)
            refine x_istore (np := 142) (x := 5) (lo' := [x_r 75, iv_c 2147483653, iv_c 2147483650, w3932, iv_c 2147483648, iv_c v6073]) (by decide +kernel) l6074 (Nat.le_of_ble_eq_true rfl) rfl ?_
            refine x_iload (np := 144) (x := 5) (by decide +kernel) rfl l6074 ?_
            refine x_ifz (k := 2) (tg := 151) (np := 147) (by decide +kernel) (by decide) l6074 (fun q6076 => ?_) (fun q6077 => ?_)
            · have q6076 : v6073 < 2147483648 := q6076
              refine x_const (np := 152) (x := 9223372039002259456) (a := 2147483648) (by decide +kernel) (by decide) (by decide) ?_
              refine x_istore (np := 154) (x := 4) (lo' := [x_r 75, iv_c 2147483653, iv_c 2147483650, w3932, iv_c 2147483648, iv_c v6073]) (by decide +kernel) (by decide) (Nat.le_of_ble_eq_true rfl) rfl ?_
              refine x_iload (np := 156) (x := 4) (by decide +kernel) rfl (by decide) ?_
              refine x_ifz (k := 0) (tg := 180) (np := 159) (by decide +kernel) (by decide) (by decide) (fun q6078 => ?_) (fun q6079 => ?_)
              · have q6078 : 2147483648 = 2147483648 := q6078
                refine x_iinc (np := 183) (i := 2) (j := 2147483647) (v := 2147483649) (lo' := [x_r 75, iv_c 2147483653, iv_c 2147483649, w3932, iv_c 2147483648, iv_c v6073]) (by decide +kernel) (by decide) (by decide) rfl (by decide) (by first | decide | omega) (by first | decide | omega) rfl ?_
                refine x_goto (np := 186) (x := 12) (by decide +kernel) ?_
                have q6080 : h6059 75 30 = h3934 75 30 := jK 0 f6061 rg_75_30_0_1 (by first | decide | omega) (by first | decide | omega) (by decide)
                exact i3958 w3932 (iv_c v6073) h6059 (by first | decide | omega) j6060 f6065 (by first | decide | omega)
              have q6079 : ¬ (2147483648 = 2147483648) := q6079
              exfalso; omega
            have q6077 : ¬ (v6073 < 2147483648) := q6077
            refine x_const (np := 148) (x := 9223372043297226753) (a := 2147483649) (by decide +kernel) (by decide) (by decide) ?_
            refine x_goto (np := 151) (x := 152) (by decide +kernel) ?_
            refine x_istore (np := 154) (x := 4) (lo' := [x_r 75, iv_c 2147483653, iv_c 2147483650, w3932, iv_c 2147483649, iv_c v6073]) (by decide +kernel) (by decide) (Nat.le_of_ble_eq_true rfl) rfl ?_
            refine x_iload (np := 156) (x := 4) (by decide +kernel) rfl (by decide) ?_
            refine x_ifz (k := 0) (tg := 180) (np := 159) (by decide +kernel) (by decide) (by decide) (fun q6081 => ?_) (fun q6082 => ?_)
            · have q6081 : 2147483649 = 2147483648 := q6081
              exfalso; omega
            have q6082 : ¬ (2147483649 = 2147483648) := q6082
            refine x_aload (np := 160) (x := 0) (by decide +kernel) rfl (x_nc_le (by decide)) ?_
            have q6083 : h6059 75 27 = 93 := by have z := jB (e := 27) 0 j6060 rg_75_27_0_1 (by decide) (by decide); omega
            refine x_getR (np := 163) (x := 731) (f := 27) (q := 93) (by decide +kernel) (by decide) (by decide +kernel) q6083 ?_
            refine x_iload (np := 164) (x := 2) (by decide +kernel) rfl (by decide) ?_
            refine x_iload (np := 166) (x := 5) (by decide +kernel) rfl l6074 ?_
            refine x_ast (np := 167) (x := 0) (kd := 1) (n := 6) (i := 2) (by decide +kernel) (Or.inl rfl) (by decide +kernel) (by first | decide | omega) (by first | decide | omega) (by decide) l6074 (fun z => absurd z (by decide)) ?_
            have j6085 := jU (e := 2) (v := v6073) 2 j6060 rg_93_0_1_6 (by first | decide | omega) (by first | decide | omega) (by first | decide | omega)
            have f6087 := jF (e := 2) (v := v6073) 2 f6064 rg_93_0_1_6 (by first | decide | omega) (by first | decide | omega) (by decide)
            have f6088 := jF (e := 2) (v := v6073) 2 f6065 rg_93_0_1_6 (by first | decide | omega) (by first | decide | omega) (by decide)
            generalize e6086 : x_up h6059 93 2 v6073 = h6084 at j6085 f6087 f6088 ⊢
            refine x_aload (np := 168) (x := 0) (by decide +kernel) rfl (x_nc_le (by decide)) ?_
            refine x_iload (np := 170) (x := 5) (by decide +kernel) rfl l6074 ?_
            refine x_const (np := 171) (x := 9223372043297226753) (a := 2147483649) (by decide +kernel) (by decide) (by decide) ?_
            refine x_cV (t := 6) (mj := 248) (n := 3) (rc := 12) (ml := 4) (nr := 0) (np := 174) (as := [x_r 75, iv_c v6073, iv_c 2147483649]) (rest := []) (lo1 := [x_r 75, iv_c v6073, iv_c 2147483649, 147573952589676412928]) (by decide +kernel) (by decide) (by decide +kernel) (x_rb_of (by decide +kernel)) rfl rfl (x_wr (by decide) (x_wi l6074 (x_wi (by decide) x_wn))) x_wn (by decide) rfl (c248_75 j6085  (by first | decide | omega) (by first | decide | omega)) (fun h6092 q6091 => ?_)
            obtain ⟨j6093, f6094⟩ := q6091
            have f6097 := Fr.trans f6087 f6094 (by decide)
            have f6098 := Fr.trans f6088 f6094 (by decide)
            refine x_iinc (np := 177) (i := 2) (j := 2147483649) (v := 2147483651) (lo' := [x_r 75, iv_c 2147483653, iv_c 2147483651, w3932, iv_c 2147483649, iv_c v6073]) (by decide +kernel) (by decide) (by decide) rfl (by decide) (by first | decide | omega) (by first | decide | omega) rfl ?_
            refine x_goto (np := 180) (x := 183) (by decide +kernel) ?_
            refine x_goto (np := 186) (x := 12) (by decide +kernel) ?_
            have q6099 : h6092 75 30 = h6084 75 30 := jK 0 f6094 rg_75_30_0_1 (by first | decide | omega) (by first | decide | omega) (by decide)
            have q6100 : h6084 75 30 = h6059 75 30 := by rw [← e6086]; exact x_up_k (by decide)
            have q6101 : h6059 75 30 = h3934 75 30 := jK 0 f6061 rg_75_30_0_1 (by first | decide | omega) (by first | decide | omega) (by decide)
            exact i3953 w3932 (iv_c v6073) h6092 (by first | decide | omega) j6093 f6098 (by first | decide | omega)
          have q6071 : ¬ (2147483648 ≤ (h3934 94 2)) := q6071
          refine x_const (np := 132) (x := 9223372034707292159) (a := 2147483647) (by decide +kernel) (by decide) (by decide) ?_
          refine x_goto (np := 135) (x := 140) (by decide +kernel) ?_
          refine x_istore (np := 142) (x := 5) (lo' := [x_r 75, iv_c 2147483653, iv_c 2147483650, w3932, iv_c 2147483648, iv_c 2147483647]) (by decide +kernel) (by decide) (Nat.le_of_ble_eq_true rfl) rfl ?_
          refine x_iload (np := 144) (x := 5) (by decide +kernel) rfl (by decide) ?_
          refine x_ifz (k := 2) (tg := 151) (np := 147) (by decide +kernel) (by decide) (by decide) (fun q6102 => ?_) (fun q6103 => ?_)
          · have q6102 : 2147483647 < 2147483648 := q6102
            refine x_const (np := 152) (x := 9223372039002259456) (a := 2147483648) (by decide +kernel) (by decide) (by decide) ?_
            refine x_istore (np := 154) (x := 4) (lo' := [x_r 75, iv_c 2147483653, iv_c 2147483650, w3932, iv_c 2147483648, iv_c 2147483647]) (by decide +kernel) (by decide) (Nat.le_of_ble_eq_true rfl) rfl ?_
            refine x_iload (np := 156) (x := 4) (by decide +kernel) rfl (by decide) ?_
            refine x_ifz (k := 0) (tg := 180) (np := 159) (by decide +kernel) (by decide) (by decide) (fun q6104 => ?_) (fun q6105 => ?_)
            · have q6104 : 2147483648 = 2147483648 := q6104
              refine x_iinc (np := 183) (i := 2) (j := 2147483647) (v := 2147483649) (lo' := [x_r 75, iv_c 2147483653, iv_c 2147483649, w3932, iv_c 2147483648, iv_c 2147483647]) (by decide +kernel) (by decide) (by decide) rfl (by decide) (by first | decide | omega) (by first | decide | omega) rfl ?_
              refine x_goto (np := 186) (x := 12) (by decide +kernel) ?_
              have q6106 : h6059 75 30 = h3934 75 30 := jK 0 f6061 rg_75_30_0_1 (by first | decide | omega) (by first | decide | omega) (by decide)
              exact i3958 w3932 (iv_c 2147483647) h6059 (by first | decide | omega) j6060 f6065 (by first | decide | omega)
            have q6105 : ¬ (2147483648 = 2147483648) := q6105
            exfalso; omega
          have q6103 : ¬ (2147483647 < 2147483648) := q6103
          exfalso; omega
        have q6012 : ¬ (2147483648 = 2147483648) := q6012
        exfalso; omega
      · intro w3938 w3939 h3940 q6107 j3943 f3942 b3941
        have f6108 := Fr.trans f5 f3942 (by decide)
        refine x_iload (np := 13) (x := 2) (by decide +kernel) rfl (by decide) ?_
        refine x_ifz (k := 2) (tg := 186) (np := 16) (by decide +kernel) (by decide) (by decide) (fun q6109 => ?_) (fun q6110 => ?_)
        · have q6109 : 2147483651 < 2147483648 := q6109
          exfalso; omega
        have q6110 : ¬ (2147483651 < 2147483648) := q6110
        refine x_iload (np := 18) (x := 4) (by decide +kernel) rfl (by decide) ?_
        refine x_ifz (k := 0) (tg := 102) (np := 21) (by decide +kernel) (by decide) (by decide) (fun q6111 => ?_) (fun q6112 => ?_)
        · have q6111 : 2147483648 = 2147483648 := q6111
          refine x_aload (np := 103) (x := 0) (by decide +kernel) rfl (x_nc_le (by decide)) ?_
          have q6113 : h3940 75 27 = 93 := by have z := jB (e := 27) 0 j3943 rg_75_27_0_1 (by decide) (by decide); omega
          refine x_getR (np := 106) (x := 731) (f := 27) (q := 93) (by decide +kernel) (by decide) (by decide +kernel) q6113 ?_
          refine x_iload (np := 107) (x := 2) (by decide +kernel) rfl (by decide) ?_
          have b6114 := jB (e := 3) 3 j3943 rg_93_0_1_6 (by first | decide | omega) (by first | decide | omega)
          refine x_aldC (np := 108) (x := 0) (n := 6) (i := 3) (q := (h3940 93 3)) (by decide +kernel) (by decide +kernel) (by first | decide | omega) (by first | decide | omega) (by decide) rfl (fun l6115 => ?_)
          refine x_ifz (k := 2) (tg := 122) (np := 111) (by decide +kernel) (by decide) l6115 (fun q6116 => ?_) (fun q6117 => ?_)
          · have q6116 : (h3940 93 3) < 2147483648 := q6116
            refine x_aload (np := 123) (x := 0) (by decide +kernel) rfl (x_nc_le (by decide)) ?_
            have q6118 : h3940 75 28 = 94 := by have z := jB (e := 28) 0 j3943 rg_75_28_0_1 (by decide) (by decide); omega
            refine x_getR (np := 126) (x := 732) (f := 28) (q := 94) (by decide +kernel) (by decide) (by decide +kernel) q6118 ?_
            refine x_iload (np := 127) (x := 2) (by decide +kernel) rfl (by decide) ?_
            have b6119 := jB (e := 3) 3 j3943 rg_94_0_1_6 (by first | decide | omega) (by first | decide | omega)
            refine x_aldC (np := 128) (x := 0) (n := 6) (i := 3) (q := (h3940 94 3)) (by decide +kernel) (by decide +kernel) (by first | decide | omega) (by first | decide | omega) (by decide) rfl (fun l6120 => ?_)
            refine x_ifz (k := 3) (tg := 135) (np := 131) (by decide +kernel) (by decide) l6120 (fun q6121 => ?_) (fun q6122 => ?_)
            · have q6121 : 2147483648 ≤ (h3940 94 3) := q6121
              refine x_aload (np := 136) (x := 0) (by decide +kernel) rfl (x_nc_le (by decide)) ?_
              refine x_iload (np := 137) (x := 2) (by decide +kernel) rfl (by decide) ?_
              refine x_cP (t := 6) (mj := 257) (n := 2) (rc := 12) (ml := 3) (nr := 0) (np := 140) (as := [x_r 75, iv_c 2147483651]) (rest := []) (lo1 := [x_r 75, iv_c 2147483651, 147573952589676412928]) (by decide +kernel) (by decide) (by decide +kernel) (x_rb_of (by decide +kernel)) rfl rfl (x_wr (by decide) (x_wi (by decide) x_wn)) x_wn (by decide) rfl (c257_75_c3 j3943   (by first | decide | omega)) (fun v6123 l6124 q6125 => ?_)
              refine x_istore (np := 142) (x := 5) (lo' := [x_r 75, iv_c 2147483653, iv_c 2147483651, w3938, iv_c 2147483648, iv_c v6123]) (by decide +kernel) l6124 (Nat.le_of_ble_eq_true rfl) rfl ?_
              refine x_iload (np := 144) (x := 5) (by decide +kernel) rfl l6124 ?_
              refine x_ifz (k := 2) (tg := 151) (np := 147) (by decide +kernel) (by decide) l6124 (fun q6126 => ?_) (fun q6127 => ?_)
              · have q6126 : v6123 < 2147483648 := q6126
                refine x_const (np := 152) (x := 9223372039002259456) (a := 2147483648) (by decide +kernel) (by decide) (by decide) ?_
                refine x_istore (np := 154) (x := 4) (lo' := [x_r 75, iv_c 2147483653, iv_c 2147483651, w3938, iv_c 2147483648, iv_c v6123]) (by decide +kernel) (by decide) (Nat.le_of_ble_eq_true rfl) rfl ?_
                refine x_iload (np := 156) (x := 4) (by decide +kernel) rfl (by decide) ?_
                refine x_ifz (k := 0) (tg := 180) (np := 159) (by decide +kernel) (by decide) (by decide) (fun q6128 => ?_) (fun q6129 => ?_)
                · have q6128 : 2147483648 = 2147483648 := q6128
                  refine x_iinc (np := 183) (i := 2) (j := 2147483647) (v := 2147483650) (lo' := [x_r 75, iv_c 2147483653, iv_c 2147483650, w3938, iv_c 2147483648, iv_c v6123]) (by decide +kernel) (by decide) (by decide) rfl (by decide) (by first | decide | omega) (by first | decide | omega) rfl ?_
                  refine x_goto (np := 186) (x := 12) (by decide +kernel) ?_
                  exact i3959 w3938 (iv_c v6123) h3940 (by first | decide | omega) j3943 f3942 (by first | decide | omega)
                have q6129 : ¬ (2147483648 = 2147483648) := q6129
                exfalso; omega
              have q6127 : ¬ (v6123 < 2147483648) := q6127
              refine x_const (np := 148) (x := 9223372043297226753) (a := 2147483649) (by decide +kernel) (by decide) (by decide) ?_
              refine x_goto (np := 151) (x := 152) (by decide +kernel) ?_
              refine x_istore (np := 154) (x := 4) (lo' := [x_r 75, iv_c 2147483653, iv_c 2147483651, w3938, iv_c 2147483649, iv_c v6123]) (by decide +kernel) (by decide) (Nat.le_of_ble_eq_true rfl) rfl ?_
              refine x_iload (np := 156) (x := 4) (by decide +kernel) rfl (by decide) ?_
              refine x_ifz (k := 0) (tg := 180) (np := 159) (by decide +kernel) (by decide) (by decide) (fun q6130 => ?_) (fun q6131 => ?_)
              · have q6130 : 2147483649 = 2147483648 := q6130
                exfalso; omega
              have q6131 : ¬ (2147483649 = 2147483648) := q6131
              refine x_aload (np := 160) (x := 0) (by decide +kernel) rfl (x_nc_le (by decide)) ?_
              have q6132 : h3940 75 27 = 93 := by have z := jB (e := 27) 0 j3943 rg_75_27_0_1 (by decide) (by decide); omega
              refine x_getR (np := 163) (x := 731) (f := 27) (q := 93) (by decide +kernel) (by decide) (by decide +kernel) q6132 ?_
              refine x_iload (np := 164) (x := 2) (by decide +kernel) rfl (by decide) ?_
              refine x_iload (np := 166) (x := 5) (by decide +kernel) rfl l6124 ?_
              refine x_ast (np := 167) (x := 0) (kd := 1) (n := 6) (i := 3) (by decide +kernel) (Or.inl rfl) (by decide +kernel) (by first | decide | omega) (by first | decide | omega) (by decide) l6124 (fun z => absurd z (by decide)) ?_
              have j6134 := jU (e := 3) (v := v6123) 3 j3943 rg_93_0_1_6 (by first | decide | omega) (by first | decide | omega) (by first | decide | omega)
              have f6136 := jF (e := 3) (v := v6123) 3 f6108 rg_93_0_1_6 (by first | decide | omega) (by first | decide | omega) (by decide)
              have f6137 := jF (e := 3) (v := v6123) 3 f3942 rg_93_0_1_6 (by first | decide | omega) (by first | decide | omega) (by decide)
              generalize e6135 : x_up h3940 93 3 v6123 = h6133 at j6134 f6136 f6137 ⊢
              refine x_aload (np := 168) (x := 0) (by decide +kernel) rfl (x_nc_le (by decide)) ?_
              refine x_iload (np := 170) (x := 5) (by decide +kernel) rfl l6124 ?_
              refine x_const (np := 171) (x := 9223372043297226753) (a := 2147483649) (by decide +kernel) (by decide) (by decide) ?_
              refine x_cV (t := 6) (mj := 248) (n := 3) (rc := 12) (ml := 4) (nr := 0) (np := 174) (as := [x_r 75, iv_c v6123, iv_c 2147483649]) (rest := []) (lo1 := [x_r 75, iv_c v6123, iv_c 2147483649, 147573952589676412928]) (by decide +kernel) (by decide) (by decide +kernel) (x_rb_of (by decide +kernel)) rfl rfl (x_wr (by decide) (x_wi l6124 (x_wi (by decide) x_wn))) x_wn (by decide) rfl (c248_75 j6134  (by first | decide | omega) (by first | decide | omega)) (fun h6141 q6140 => ?_)
              obtain ⟨j6142, f6143⟩ := q6140
              have f6146 := Fr.trans f6136 f6143 (by decide)
              have f6147 := Fr.trans f6137 f6143 (by decide)
              refine x_iinc (np := 177) (i := 2) (j := 2147483649) (v := 2147483652) (lo' := [x_r 75, iv_c 2147483653, iv_c 2147483652, w3938, iv_c 2147483649, iv_c v6123]) (by decide +kernel) (by decide) (by decide) rfl (by decide) (by first | decide | omega) (by first | decide | omega) rfl ?_
              refine x_goto (np := 180) (x := 183) (by decide +kernel) ?_
              refine x_goto (np := 186) (x := 12) (by decide +kernel) ?_
              have q6148 : h6141 75 30 = h6133 75 30 := jK 0 f6143 rg_75_30_0_1 (by first | decide | omega) (by first | decide | omega) (by decide)
              have q6149 : h6133 75 30 = h3940 75 30 := by rw [← e6135]; exact x_up_k (by decide)
              exact i3954 w3938 (iv_c v6123) h6141 (by first | decide | omega) j6142 f6147 (by first | decide | omega)
            have q6122 : ¬ (2147483648 ≤ (h3940 94 3)) := q6122
            refine x_const (np := 132) (x := 9223372034707292159) (a := 2147483647) (by decide +kernel) (by decide) (by decide) ?_
            refine x_goto (np := 135) (x := 140) (by decide +kernel) ?_
            refine x_istore (np := 142) (x := 5) (lo' := [x_r 75, iv_c 2147483653, iv_c 2147483651, w3938, iv_c 2147483648, iv_c 2147483647]) (by decide +kernel) (by decide) (Nat.le_of_ble_eq_true rfl) rfl ?_
            refine x_iload (np := 144) (x := 5) (by decide +kernel) rfl (by decide) ?_
            refine x_ifz (k := 2) (tg := 151) (np := 147) (by decide +kernel) (by decide) (by decide) (fun q6150 => ?_) (fun q6151 => ?_)
            · have q6150 : 2147483647 < 2147483648 := q6150
              refine x_const (np := 152) (x := 9223372039002259456) (a := 2147483648) (by decide +kernel) (by decide) (by decide) ?_
              refine x_istore (np := 154) (x := 4) (lo' := [x_r 75, iv_c 2147483653, iv_c 2147483651, w3938, iv_c 2147483648, iv_c 2147483647]) (by decide +kernel) (by decide) (Nat.le_of_ble_eq_true rfl) rfl ?_
              refine x_iload (np := 156) (x := 4) (by decide +kernel) rfl (by decide) ?_
              refine x_ifz (k := 0) (tg := 180) (np := 159) (by decide +kernel) (by decide) (by decide) (fun q6152 => ?_) (fun q6153 => ?_)
              · have q6152 : 2147483648 = 2147483648 := q6152
                refine x_iinc (np := 183) (i := 2) (j := 2147483647) (v := 2147483650) (lo' := [x_r 75, iv_c 2147483653, iv_c 2147483650, w3938, iv_c 2147483648, iv_c 2147483647]) (by decide +kernel) (by decide) (by decide) rfl (by decide) (by first | decide | omega) (by first | decide | omega) rfl ?_
                refine x_goto (np := 186) (x := 12) (by decide +kernel) ?_
                exact i3959 w3938 (iv_c 2147483647) h3940 (by first | decide | omega) j3943 f3942 (by first | decide | omega)
              have q6153 : ¬ (2147483648 = 2147483648) := q6153
              exfalso; omega
            have q6151 : ¬ (2147483647 < 2147483648) := q6151
            exfalso; omega
          have q6117 : ¬ ((h3940 93 3) < 2147483648) := q6117
          refine x_aload (np := 112) (x := 0) (by decide +kernel) rfl (x_nc_le (by decide)) ?_
          refine x_aload (np := 113) (x := 0) (by decide +kernel) rfl (x_nc_le (by decide)) ?_
          have q6154 : h3940 75 27 = 93 := by have z := jB (e := 27) 0 j3943 rg_75_27_0_1 (by decide) (by decide); omega
          refine x_getR (np := 116) (x := 731) (f := 27) (q := 93) (by decide +kernel) (by decide) (by decide +kernel) q6154 ?_
          refine x_iload (np := 117) (x := 2) (by decide +kernel) rfl (by decide) ?_
          refine x_aldC (np := 118) (x := 0) (n := 6) (i := 3) (q := (h3940 93 3)) (by decide +kernel) (by decide +kernel) (by first | decide | omega) (by first | decide | omega) (by decide) rfl (fun l6155 => ?_)
          refine x_const (np := 119) (x := 9223372039002259456) (a := 2147483648) (by decide +kernel) (by decide) (by decide) ?_
          refine x_cV (t := 6) (mj := 248) (n := 3) (rc := 12) (ml := 4) (nr := 0) (np := 122) (as := [x_r 75, iv_c (h3940 93 3), iv_c 2147483648]) (rest := []) (lo1 := [x_r 75, iv_c (h3940 93 3), iv_c 2147483648, 147573952589676412928]) (by decide +kernel) (by decide) (by decide +kernel) (x_rb_of (by decide +kernel)) rfl rfl (x_wr (by decide) (x_wi l6115 (x_wi (by decide) x_wn))) x_wn (by decide) rfl (c248_75 j3943  (by first | decide | omega) (by first | decide | omega)) (fun h6159 q6158 => ?_)
          obtain ⟨j6160, f6161⟩ := q6158
          have f6164 := Fr.trans f6108 f6161 (by decide)
          have f6165 := Fr.trans f3942 f6161 (by decide)
          refine x_aload (np := 123) (x := 0) (by decide +kernel) rfl (x_nc_le (by decide)) ?_
          have q6166 : h6159 75 28 = 94 := by have z := jB (e := 28) 0 j6160 rg_75_28_0_1 (by decide) (by decide); omega
          refine x_getR (np := 126) (x := 732) (f := 28) (q := 94) (by decide +kernel) (by decide) (by decide +kernel) q6166 ?_
          refine x_iload (np := 127) (x := 2) (by decide +kernel) rfl (by decide) ?_
          have q6167 : h6159 94 3 = h3940 94 3 := jK 3 f6161 rg_94_0_1_6 (by first | decide | omega) (by first | decide | omega) (by decide)
          have b6168 := jB (e := 3) 3 j3943 rg_94_0_1_6 (by first | decide | omega) (by first | decide | omega)
          refine x_aldC (np := 128) (x := 0) (n := 6) (i := 3) (q := (h3940 94 3)) (by decide +kernel) (by decide +kernel) (by first | decide | omega) (by first | decide | omega) (by decide) q6167 (fun l6169 => ?_)
          refine x_ifz (k := 3) (tg := 135) (np := 131) (by decide +kernel) (by decide) l6169 (fun q6170 => ?_) (fun q6171 => ?_)
          · have q6170 : 2147483648 ≤ (h3940 94 3) := q6170
            refine x_aload (np := 136) (x := 0) (by decide +kernel) rfl (x_nc_le (by decide)) ?_
            refine x_iload (np := 137) (x := 2) (by decide +kernel) rfl (by decide) ?_
            have q6172 : h6159 94 3 = h3940 94 3 := jK 3 f6161 rg_94_0_1_6 (by first | decide | omega) (by first | decide | omega) (by decide)
            refine x_cP (t := 6) (mj := 257) (n := 2) (rc := 12) (ml := 3) (nr := 0) (np := 140) (as := [x_r 75, iv_c 2147483651]) (rest := []) (lo1 := [x_r 75, iv_c 2147483651, 147573952589676412928]) (by decide +kernel) (by decide) (by decide +kernel) (x_rb_of (by decide +kernel)) rfl rfl (x_wr (by decide) (x_wi (by decide) x_wn)) x_wn (by decide) rfl (c257_75_c3 j6160   (by first | decide | omega)) (fun v6173 l6174 q6175 => ?_)
            refine x_istore (np := 142) (x := 5) (lo' := [x_r 75, iv_c 2147483653, iv_c 2147483651, w3938, iv_c 2147483648, iv_c v6173]) (by decide +kernel) l6174 (Nat.le_of_ble_eq_true rfl) rfl ?_
            refine x_iload (np := 144) (x := 5) (by decide +kernel) rfl l6174 ?_
            refine x_ifz (k := 2) (tg := 151) (np := 147) (by decide +kernel) (by decide) l6174 (fun q6176 => ?_) (fun q6177 => ?_)
            · have q6176 : v6173 < 2147483648 := q6176
              refine x_const (np := 152) (x := 9223372039002259456) (a := 2147483648) (by decide +kernel) (by decide) (by decide) ?_
              refine x_istore (np := 154) (x := 4) (lo' := [x_r 75, iv_c 2147483653, iv_c 2147483651, w3938, iv_c 2147483648, iv_c v6173]) (by decide +kernel) (by decide) (Nat.le_of_ble_eq_true rfl) rfl ?_
              refine x_iload (np := 156) (x := 4) (by decide +kernel) rfl (by decide) ?_
              refine x_ifz (k := 0) (tg := 180) (np := 159) (by decide +kernel) (by decide) (by decide) (fun q6178 => ?_) (fun q6179 => ?_)
              · have q6178 : 2147483648 = 2147483648 := q6178
                refine x_iinc (np := 183) (i := 2) (j := 2147483647) (v := 2147483650) (lo' := [x_r 75, iv_c 2147483653, iv_c 2147483650, w3938, iv_c 2147483648, iv_c v6173]) (by decide +kernel) (by decide) (by decide) rfl (by decide) (by first | decide | omega) (by first | decide | omega) rfl ?_
                refine x_goto (np := 186) (x := 12) (by decide +kernel) ?_
                have q6180 : h6159 75 30 = h3940 75 30 := jK 0 f6161 rg_75_30_0_1 (by first | decide | omega) (by first | decide | omega) (by decide)
                exact i3959 w3938 (iv_c v6173) h6159 (by first | decide | omega) j6160 f6165 (by first | decide | omega)
              have q6179 : ¬ (2147483648 = 2147483648) := q6179
              exfalso; omega
            have q6177 : ¬ (v6173 < 2147483648) := q6177
            refine x_const (np := 148) (x := 9223372043297226753) (a := 2147483649) (by decide +kernel) (by decide) (by decide) ?_
            refine x_goto (np := 151) (x := 152) (by decide +kernel) ?_
            refine x_istore (np := 154) (x := 4) (lo' := [x_r 75, iv_c 2147483653, iv_c 2147483651, w3938, iv_c 2147483649, iv_c v6173]) (by decide +kernel) (by decide) (Nat.le_of_ble_eq_true rfl) rfl ?_
            refine x_iload (np := 156) (x := 4) (by decide +kernel) rfl (by decide) ?_
            refine x_ifz (k := 0) (tg := 180) (np := 159) (by decide +kernel) (by decide) (by decide) (fun q6181 => ?_) (fun q6182 => ?_)
            · have q6181 : 2147483649 = 2147483648 := q6181
              exfalso; omega
            have q6182 : ¬ (2147483649 = 2147483648) := q6182
            refine x_aload (np := 160) (x := 0) (by decide +kernel) rfl (x_nc_le (by decide)) ?_
            have q6183 : h6159 75 27 = 93 := by have z := jB (e := 27) 0 j6160 rg_75_27_0_1 (by decide) (by decide); omega
            refine x_getR (np := 163) (x := 731) (f := 27) (q := 93) (by decide +kernel) (by decide) (by decide +kernel) q6183 ?_
            refine x_iload (np := 164) (x := 2) (by decide +kernel) rfl (by decide) ?_
            refine x_iload (np := 166) (x := 5) (by decide +kernel) rfl l6174 ?_
            refine x_ast (np := 167) (x := 0) (kd := 1) (n := 6) (i := 3) (by decide +kernel) (Or.inl rfl) (by decide +kernel) (by first | decide | omega) (by first | decide | omega) (by decide) l6174 (fun z => absurd z (by decide)) ?_
            have j6185 := jU (e := 3) (v := v6173) 3 j6160 rg_93_0_1_6 (by first | decide | omega) (by first | decide | omega) (by first | decide | omega)
            have f6187 := jF (e := 3) (v := v6173) 3 f6164 rg_93_0_1_6 (by first | decide | omega) (by first | decide | omega) (by decide)
            have f6188 := jF (e := 3) (v := v6173) 3 f6165 rg_93_0_1_6 (by first | decide | omega) (by first | decide | omega) (by decide)
            generalize e6186 : x_up h6159 93 3 v6173 = h6184 at j6185 f6187 f6188 ⊢
            refine x_aload (np := 168) (x := 0) (by decide +kernel) rfl (x_nc_le (by decide)) ?_
            refine x_iload (np := 170) (x := 5) (by decide +kernel) rfl l6174 ?_
            refine x_const (np := 171) (x := 9223372043297226753) (a := 2147483649) (by decide +kernel) (by decide) (by decide) ?_
            refine x_cV (t := 6) (mj := 248) (n := 3) (rc := 12) (ml := 4) (nr := 0) (np := 174) (as := [x_r 75, iv_c v6173, iv_c 2147483649]) (rest := []) (lo1 := [x_r 75, iv_c v6173, iv_c 2147483649, 147573952589676412928]) (by decide +kernel) (by decide) (by decide +kernel) (x_rb_of (by decide +kernel)) rfl rfl (x_wr (by decide) (x_wi l6174 (x_wi (by decide) x_wn))) x_wn (by decide) rfl (c248_75 j6185  (by first | decide | omega) (by first | decide | omega)) (fun h6192 q6191 => ?_)
            obtain ⟨j6193, f6194⟩ := q6191
            have f6197 := Fr.trans f6187 f6194 (by decide)
            have f6198 := Fr.trans f6188 f6194 (by decide)
            refine x_iinc (np := 177) (i := 2) (j := 2147483649) (v := 2147483652) (lo' := [x_r 75, iv_c 2147483653, iv_c 2147483652, w3938, iv_c 2147483649, iv_c v6173]) (by decide +kernel) (by decide) (by decide) rfl (by decide) (by first | decide | omega) (by first | decide | omega) rfl ?_
            refine x_goto (np := 180) (x := 183) (by decide +kernel) ?_
            refine x_goto (np := 186) (x := 12) (by decide +kernel) ?_
            have q6199 : h6192 75 30 = h6184 75 30 := jK 0 f6194 rg_75_30_0_1 (by first | decide | omega) (by first | decide | omega) (by decide)
            have q6200 : h6184 75 30 = h6159 75 30 := by rw [← e6186]; exact x_up_k (by decide)
            have q6201 : h6159 75 30 = h3940 75 30 := jK 0 f6161 rg_75_30_0_1 (by first | decide | omega) (by first | decide | omega) (by decide)
            exact i3954 w3938 (iv_c v6173) h6192 (by first | decide | omega) j6193 f6198 (by first | decide | omega)
          have q6171 : ¬ (2147483648 ≤ (h3940 94 3)) := q6171
          refine x_const (np := 132) (x := 9223372034707292159) (a := 2147483647) (by decide +kernel) (by decide) (by decide) ?_
          refine x_goto (np := 135) (x := 140) (by decide +kernel) ?_
          refine x_istore (np := 142) (x := 5) (lo' := [x_r 75, iv_c 2147483653, iv_c 2147483651, w3938, iv_c 2147483648, iv_c 2147483647]) (by decide +kernel) (by decide) (Nat.le_of_ble_eq_true rfl) rfl ?_
          refine x_iload (np := 144) (x := 5) (by decide +kernel) rfl (by decide) ?_
          refine x_ifz (k := 2) (tg := 151) (np := 147) (by decide +kernel) (by decide) (by decide) (fun q6202 => ?_) (fun q6203 => ?_)
          · have q6202 : 2147483647 < 2147483648 := q6202
            refine x_const (np := 152) (x := 9223372039002259456) (a := 2147483648) (by decide +kernel) (by decide) (by decide) ?_
            refine x_istore (np := 154) (x := 4) (lo' := [x_r 75, iv_c 2147483653, iv_c 2147483651, w3938, iv_c 2147483648, iv_c 2147483647]) (by decide +kernel) (by decide) (Nat.le_of_ble_eq_true rfl) rfl ?_
            refine x_iload (np := 156) (x := 4) (by decide +kernel) rfl (by decide) ?_
            refine x_ifz (k := 0) (tg := 180) (np := 159) (by decide +kernel) (by decide) (by decide) (fun q6204 => ?_) (fun q6205 => ?_)
            · have q6204 : 2147483648 = 2147483648 := q6204
              refine x_iinc (np := 183) (i := 2) (j := 2147483647) (v := 2147483650) (lo' := [x_r 75, iv_c 2147483653, iv_c 2147483650, w3938, iv_c 2147483648, iv_c 2147483647]) (by decide +kernel) (by decide) (by decide) rfl (by decide) (by first | decide | omega) (by first | decide | omega) rfl ?_
              refine x_goto (np := 186) (x := 12) (by decide +kernel) ?_
              have q6206 : h6159 75 30 = h3940 75 30 := jK 0 f6161 rg_75_30_0_1 (by first | decide | omega) (by first | decide | omega) (by decide)
              exact i3959 w3938 (iv_c 2147483647) h6159 (by first | decide | omega) j6160 f6165 (by first | decide | omega)
            have q6205 : ¬ (2147483648 = 2147483648) := q6205
            exfalso; omega
          have q6203 : ¬ (2147483647 < 2147483648) := q6203
          exfalso; omega
        have q6112 : ¬ (2147483648 = 2147483648) := q6112
        exfalso; omega
      · intro w3944 w3945 h3946 q6207 j3949 f3948 b3947
        have f6208 := Fr.trans f5 f3948 (by decide)
        refine x_iload (np := 13) (x := 2) (by decide +kernel) rfl (by decide) ?_
        refine x_ifz (k := 2) (tg := 186) (np := 16) (by decide +kernel) (by decide) (by decide) (fun q6209 => ?_) (fun q6210 => ?_)
        · have q6209 : 2147483652 < 2147483648 := q6209
          exfalso; omega
        have q6210 : ¬ (2147483652 < 2147483648) := q6210
        refine x_iload (np := 18) (x := 4) (by decide +kernel) rfl (by decide) ?_
        refine x_ifz (k := 0) (tg := 102) (np := 21) (by decide +kernel) (by decide) (by decide) (fun q6211 => ?_) (fun q6212 => ?_)
        · have q6211 : 2147483648 = 2147483648 := q6211
          refine x_aload (np := 103) (x := 0) (by decide +kernel) rfl (x_nc_le (by decide)) ?_
          have q6213 : h3946 75 27 = 93 := by have z := jB (e := 27) 0 j3949 rg_75_27_0_1 (by decide) (by decide); omega
          refine x_getR (np := 106) (x := 731) (f := 27) (q := 93) (by decide +kernel) (by decide) (by decide +kernel) q6213 ?_
          refine x_iload (np := 107) (x := 2) (by decide +kernel) rfl (by decide) ?_
          have b6214 := jB (e := 4) 4 j3949 rg_93_0_1_6 (by first | decide | omega) (by first | decide | omega)
          refine x_aldC (np := 108) (x := 0) (n := 6) (i := 4) (q := (h3946 93 4)) (by decide +kernel) (by decide +kernel) (by first | decide | omega) (by first | decide | omega) (by decide) rfl (fun l6215 => ?_)
          refine x_ifz (k := 2) (tg := 122) (np := 111) (by decide +kernel) (by decide) l6215 (fun q6216 => ?_) (fun q6217 => ?_)
          · have q6216 : (h3946 93 4) < 2147483648 := q6216
            refine x_aload (np := 123) (x := 0) (by decide +kernel) rfl (x_nc_le (by decide)) ?_
            have q6218 : h3946 75 28 = 94 := by have z := jB (e := 28) 0 j3949 rg_75_28_0_1 (by decide) (by decide); omega
            refine x_getR (np := 126) (x := 732) (f := 28) (q := 94) (by decide +kernel) (by decide) (by decide +kernel) q6218 ?_
            refine x_iload (np := 127) (x := 2) (by decide +kernel) rfl (by decide) ?_
            have b6219 := jB (e := 4) 4 j3949 rg_94_0_1_6 (by first | decide | omega) (by first | decide | omega)
            refine x_aldC (np := 128) (x := 0) (n := 6) (i := 4) (q := (h3946 94 4)) (by decide +kernel) (by decide +kernel) (by first | decide | omega) (by first | decide | omega) (by decide) rfl (fun l6220 => ?_)
            refine x_ifz (k := 3) (tg := 135) (np := 131) (by decide +kernel) (by decide) l6220 (fun q6221 => ?_) (fun q6222 => ?_)
            · have q6221 : 2147483648 ≤ (h3946 94 4) := q6221
              refine x_aload (np := 136) (x := 0) (by decide +kernel) rfl (x_nc_le (by decide)) ?_
              refine x_iload (np := 137) (x := 2) (by decide +kernel) rfl (by decide) ?_
              refine x_cP (t := 6) (mj := 257) (n := 2) (rc := 12) (ml := 3) (nr := 0) (np := 140) (as := [x_r 75, iv_c 2147483652]) (rest := []) (lo1 := [x_r 75, iv_c 2147483652, 147573952589676412928]) (by decide +kernel) (by decide) (by decide +kernel) (x_rb_of (by decide +kernel)) rfl rfl (x_wr (by decide) (x_wi (by decide) x_wn)) x_wn (by decide) rfl (c257_75_c4 j3949   (by first | decide | omega)) (fun v6223 l6224 q6225 => ?_)
              refine x_istore (np := 142) (x := 5) (lo' := [x_r 75, iv_c 2147483653, iv_c 2147483652, w3944, iv_c 2147483648, iv_c v6223]) (by decide +kernel) l6224 (Nat.le_of_ble_eq_true rfl) rfl ?_
              refine x_iload (np := 144) (x := 5) (by decide +kernel) rfl l6224 ?_
              refine x_ifz (k := 2) (tg := 151) (np := 147) (by decide +kernel) (by decide) l6224 (fun q6226 => ?_) (fun q6227 => ?_)
              · have q6226 : v6223 < 2147483648 := q6226
                refine x_const (np := 152) (x := 9223372039002259456) (a := 2147483648) (by decide +kernel) (by decide) (by decide) ?_
                refine x_istore (np := 154) (x := 4) (lo' := [x_r 75, iv_c 2147483653, iv_c 2147483652, w3944, iv_c 2147483648, iv_c v6223]) (by decide +kernel) (by decide) (Nat.le_of_ble_eq_true rfl) rfl ?_
                refine x_iload (np := 156) (x := 4) (by decide +kernel) rfl (by decide) ?_
                refine x_ifz (k := 0) (tg := 180) (np := 159) (by decide +kernel) (by decide) (by decide) (fun q6228 => ?_) (fun q6229 => ?_)
                · have q6228 : 2147483648 = 2147483648 := q6228
                  refine x_iinc (np := 183) (i := 2) (j := 2147483647) (v := 2147483651) (lo' := [x_r 75, iv_c 2147483653, iv_c 2147483651, w3944, iv_c 2147483648, iv_c v6223]) (by decide +kernel) (by decide) (by decide) rfl (by decide) (by first | decide | omega) (by first | decide | omega) rfl ?_
                  refine x_goto (np := 186) (x := 12) (by decide +kernel) ?_
                  exact i3960 w3944 (iv_c v6223) h3946 (by first | decide | omega) j3949 f3948 (by first | decide | omega)
                have q6229 : ¬ (2147483648 = 2147483648) := q6229
                exfalso; omega
              have q6227 : ¬ (v6223 < 2147483648) := q6227
              refine x_const (np := 148) (x := 9223372043297226753) (a := 2147483649) (by decide +kernel) (by decide) (by decide) ?_
              refine x_goto (np := 151) (x := 152) (by decide +kernel) ?_
              refine x_istore (np := 154) (x := 4) (lo' := [x_r 75, iv_c 2147483653, iv_c 2147483652, w3944, iv_c 2147483649, iv_c v6223]) (by decide +kernel) (by decide) (Nat.le_of_ble_eq_true rfl) rfl ?_
              refine x_iload (np := 156) (x := 4) (by decide +kernel) rfl (by decide) ?_
              refine x_ifz (k := 0) (tg := 180) (np := 159) (by decide +kernel) (by decide) (by decide) (fun q6230 => ?_) (fun q6231 => ?_)
              · have q6230 : 2147483649 = 2147483648 := q6230
                exfalso; omega
              have q6231 : ¬ (2147483649 = 2147483648) := q6231
              refine x_aload (np := 160) (x := 0) (by decide +kernel) rfl (x_nc_le (by decide)) ?_
              have q6232 : h3946 75 27 = 93 := by have z := jB (e := 27) 0 j3949 rg_75_27_0_1 (by decide) (by decide); omega
              refine x_getR (np := 163) (x := 731) (f := 27) (q := 93) (by decide +kernel) (by decide) (by decide +kernel) q6232 ?_
              refine x_iload (np := 164) (x := 2) (by decide +kernel) rfl (by decide) ?_
              refine x_iload (np := 166) (x := 5) (by decide +kernel) rfl l6224 ?_
              refine x_ast (np := 167) (x := 0) (kd := 1) (n := 6) (i := 4) (by decide +kernel) (Or.inl rfl) (by decide +kernel) (by first | decide | omega) (by first | decide | omega) (by decide) l6224 (fun z => absurd z (by decide)) ?_
              have j6234 := jU (e := 4) (v := v6223) 4 j3949 rg_93_0_1_6 (by first | decide | omega) (by first | decide | omega) (by first | decide | omega)
              have f6236 := jF (e := 4) (v := v6223) 4 f6208 rg_93_0_1_6 (by first | decide | omega) (by first | decide | omega) (by decide)
              have f6237 := jF (e := 4) (v := v6223) 4 f3948 rg_93_0_1_6 (by first | decide | omega) (by first | decide | omega) (by decide)
              generalize e6235 : x_up h3946 93 4 v6223 = h6233 at j6234 f6236 f6237 ⊢
              refine x_aload (np := 168) (x := 0) (by decide +kernel) rfl (x_nc_le (by decide)) ?_
              refine x_iload (np := 170) (x := 5) (by decide +kernel) rfl l6224 ?_
              refine x_const (np := 171) (x := 9223372043297226753) (a := 2147483649) (by decide +kernel) (by decide) (by decide) ?_
              refine x_cV (t := 6) (mj := 248) (n := 3) (rc := 12) (ml := 4) (nr := 0) (np := 174) (as := [x_r 75, iv_c v6223, iv_c 2147483649]) (rest := []) (lo1 := [x_r 75, iv_c v6223, iv_c 2147483649, 147573952589676412928]) (by decide +kernel) (by decide) (by decide +kernel) (x_rb_of (by decide +kernel)) rfl rfl (x_wr (by decide) (x_wi l6224 (x_wi (by decide) x_wn))) x_wn (by decide) rfl (c248_75 j6234  (by first | decide | omega) (by first | decide | omega)) (fun h6241 q6240 => ?_)
              obtain ⟨j6242, f6243⟩ := q6240
              have f6246 := Fr.trans f6236 f6243 (by decide)
              have f6247 := Fr.trans f6237 f6243 (by decide)
              refine x_iinc (np := 177) (i := 2) (j := 2147483649) (v := 2147483653) (lo' := [x_r 75, iv_c 2147483653, iv_c 2147483653, w3944, iv_c 2147483649, iv_c v6223]) (by decide +kernel) (by decide) (by decide) rfl (by decide) (by first | decide | omega) (by first | decide | omega) rfl ?_
              refine x_goto (np := 180) (x := 183) (by decide +kernel) ?_
              refine x_goto (np := 186) (x := 12) (by decide +kernel) ?_
              have q6248 : h6241 75 30 = h6233 75 30 := jK 0 f6243 rg_75_30_0_1 (by first | decide | omega) (by first | decide | omega) (by decide)
              have q6249 : h6233 75 30 = h3946 75 30 := by rw [← e6235]; exact x_up_k (by decide)
              exact i3955 w3944 (iv_c v6223) h6241 (by first | decide | omega) j6242 f6247 (by first | decide | omega)
            have q6222 : ¬ (2147483648 ≤ (h3946 94 4)) := q6222
            refine x_const (np := 132) (x := 9223372034707292159) (a := 2147483647) (by decide +kernel) (by decide) (by decide) ?_
            refine x_goto (np := 135) (x := 140) (by decide +kernel) ?_
            refine x_istore (np := 142) (x := 5) (lo' := [x_r 75, iv_c 2147483653, iv_c 2147483652, w3944, iv_c 2147483648, iv_c 2147483647]) (by decide +kernel) (by decide) (Nat.le_of_ble_eq_true rfl) rfl ?_
            refine x_iload (np := 144) (x := 5) (by decide +kernel) rfl (by decide) ?_
            refine x_ifz (k := 2) (tg := 151) (np := 147) (by decide +kernel) (by decide) (by decide) (fun q6250 => ?_) (fun q6251 => ?_)
            · have q6250 : 2147483647 < 2147483648 := q6250
              refine x_const (np := 152) (x := 9223372039002259456) (a := 2147483648) (by decide +kernel) (by decide) (by decide) ?_
              refine x_istore (np := 154) (x := 4) (lo' := [x_r 75, iv_c 2147483653, iv_c 2147483652, w3944, iv_c 2147483648, iv_c 2147483647]) (by decide +kernel) (by decide) (Nat.le_of_ble_eq_true rfl) rfl ?_
              refine x_iload (np := 156) (x := 4) (by decide +kernel) rfl (by decide) ?_
              refine x_ifz (k := 0) (tg := 180) (np := 159) (by decide +kernel) (by decide) (by decide) (fun q6252 => ?_) (fun q6253 => ?_)
              · have q6252 : 2147483648 = 2147483648 := q6252
                refine x_iinc (np := 183) (i := 2) (j := 2147483647) (v := 2147483651) (lo' := [x_r 75, iv_c 2147483653, iv_c 2147483651, w3944, iv_c 2147483648, iv_c 2147483647]) (by decide +kernel) (by decide) (by decide) rfl (by decide) (by first | decide | omega) (by first | decide | omega) rfl ?_
                refine x_goto (np := 186) (x := 12) (by decide +kernel) ?_
                exact i3960 w3944 (iv_c 2147483647) h3946 (by first | decide | omega) j3949 f3948 (by first | decide | omega)
              have q6253 : ¬ (2147483648 = 2147483648) := q6253
              exfalso; omega
            have q6251 : ¬ (2147483647 < 2147483648) := q6251
            exfalso; omega
          have q6217 : ¬ ((h3946 93 4) < 2147483648) := q6217
          refine x_aload (np := 112) (x := 0) (by decide +kernel) rfl (x_nc_le (by decide)) ?_
          refine x_aload (np := 113) (x := 0) (by decide +kernel) rfl (x_nc_le (by decide)) ?_
          have q6254 : h3946 75 27 = 93 := by have z := jB (e := 27) 0 j3949 rg_75_27_0_1 (by decide) (by decide); omega
          refine x_getR (np := 116) (x := 731) (f := 27) (q := 93) (by decide +kernel) (by decide) (by decide +kernel) q6254 ?_
          refine x_iload (np := 117) (x := 2) (by decide +kernel) rfl (by decide) ?_
          refine x_aldC (np := 118) (x := 0) (n := 6) (i := 4) (q := (h3946 93 4)) (by decide +kernel) (by decide +kernel) (by first | decide | omega) (by first | decide | omega) (by decide) rfl (fun l6255 => ?_)
          refine x_const (np := 119) (x := 9223372039002259456) (a := 2147483648) (by decide +kernel) (by decide) (by decide) ?_
          refine x_cV (t := 6) (mj := 248) (n := 3) (rc := 12) (ml := 4) (nr := 0) (np := 122) (as := [x_r 75, iv_c (h3946 93 4), iv_c 2147483648]) (rest := []) (lo1 := [x_r 75, iv_c (h3946 93 4), iv_c 2147483648, 147573952589676412928]) (by decide +kernel) (by decide) (by decide +kernel) (x_rb_of (by decide +kernel)) rfl rfl (x_wr (by decide) (x_wi l6215 (x_wi (by decide) x_wn))) x_wn (by decide) rfl (c248_75 j3949  (by first | decide | omega) (by first | decide | omega)) (fun h6259 q6258 => ?_)
          obtain ⟨j6260, f6261⟩ := q6258
          have f6264 := Fr.trans f6208 f6261 (by decide)
          have f6265 := Fr.trans f3948 f6261 (by decide)
          refine x_aload (np := 123) (x := 0) (by decide +kernel) rfl (x_nc_le (by decide)) ?_
          have q6266 : h6259 75 28 = 94 := by have z := jB (e := 28) 0 j6260 rg_75_28_0_1 (by decide) (by decide); omega
          refine x_getR (np := 126) (x := 732) (f := 28) (q := 94) (by decide +kernel) (by decide) (by decide +kernel) q6266 ?_
          refine x_iload (np := 127) (x := 2) (by decide +kernel) rfl (by decide) ?_
          have q6267 : h6259 94 4 = h3946 94 4 := jK 4 f6261 rg_94_0_1_6 (by first | decide | omega) (by first | decide | omega) (by decide)
          have b6268 := jB (e := 4) 4 j3949 rg_94_0_1_6 (by first | decide | omega) (by first | decide | omega)
          refine x_aldC (np := 128) (x := 0) (n := 6) (i := 4) (q := (h3946 94 4)) (by decide +kernel) (by decide +kernel) (by first | decide | omega) (by first | decide | omega) (by decide) q6267 (fun l6269 => ?_)
          refine x_ifz (k := 3) (tg := 135) (np := 131) (by decide +kernel) (by decide) l6269 (fun q6270 => ?_) (fun q6271 => ?_)
          · have q6270 : 2147483648 ≤ (h3946 94 4) := q6270
            refine x_aload (np := 136) (x := 0) (by decide +kernel) rfl (x_nc_le (by decide)) ?_
            refine x_iload (np := 137) (x := 2) (by decide +kernel) rfl (by decide) ?_
            have q6272 : h6259 94 4 = h3946 94 4 := jK 4 f6261 rg_94_0_1_6 (by first | decide | omega) (by first | decide | omega) (by decide)
            refine x_cP (t := 6) (mj := 257) (n := 2) (rc := 12) (ml := 3) (nr := 0) (np := 140) (as := [x_r 75, iv_c 2147483652]) (rest := []) (lo1 := [x_r 75, iv_c 2147483652, 147573952589676412928]) (by decide +kernel) (by decide) (by decide +kernel) (x_rb_of (by decide +kernel)) rfl rfl (x_wr (by decide) (x_wi (by decide) x_wn)) x_wn (by decide) rfl (c257_75_c4 j6260   (by first | decide | omega)) (fun v6273 l6274 q6275 => ?_)
            refine x_istore (np := 142) (x := 5) (lo' := [x_r 75, iv_c 2147483653, iv_c 2147483652, w3944, iv_c 2147483648, iv_c v6273]) (by decide +kernel) l6274 (Nat.le_of_ble_eq_true rfl) rfl ?_
            refine x_iload (np := 144) (x := 5) (by decide +kernel) rfl l6274 ?_
            refine x_ifz (k := 2) (tg := 151) (np := 147) (by decide +kernel) (by decide) l6274 (fun q6276 => ?_) (fun q6277 => ?_)
            · have q6276 : v6273 < 2147483648 := q6276
              refine x_const (np := 152) (x := 9223372039002259456) (a := 2147483648) (by decide +kernel) (by decide) (by decide) ?_
              refine x_istore (np := 154) (x := 4) (lo' := [x_r 75, iv_c 2147483653, iv_c 2147483652, w3944, iv_c 2147483648, iv_c v6273]) (by decide +kernel) (by decide) (Nat.le_of_ble_eq_true rfl) rfl ?_
              refine x_iload (np := 156) (x := 4) (by decide +kernel) rfl (by decide) ?_
              refine x_ifz (k := 0) (tg := 180) (np := 159) (by decide +kernel) (by decide) (by decide) (fun q6278 => ?_) (fun q6279 => ?_)
              · have q6278 : 2147483648 = 2147483648 := q6278
                refine x_iinc (np := 183) (i := 2) (j := 2147483647) (v := 2147483651) (lo' := [x_r 75, iv_c 2147483653, iv_c 2147483651, w3944, iv_c 2147483648, iv_c v6273]) (by decide +kernel) (by decide) (by decide) rfl (by decide) (by first | decide | omega) (by first | decide | omega) rfl ?_
                refine x_goto (np := 186) (x := 12) (by decide +kernel) ?_
                have q6280 : h6259 75 30 = h3946 75 30 := jK 0 f6261 rg_75_30_0_1 (by first | decide | omega) (by first | decide | omega) (by decide)
                exact i3960 w3944 (iv_c v6273) h6259 (by first | decide | omega) j6260 f6265 (by first | decide | omega)
              have q6279 : ¬ (2147483648 = 2147483648) := q6279
              exfalso; omega
            have q6277 : ¬ (v6273 < 2147483648) := q6277
            refine x_const (np := 148) (x := 9223372043297226753) (a := 2147483649) (by decide +kernel) (by decide) (by decide) ?_
            refine x_goto (np := 151) (x := 152) (by decide +kernel) ?_
            refine x_istore (np := 154) (x := 4) (lo' := [x_r 75, iv_c 2147483653, iv_c 2147483652, w3944, iv_c 2147483649, iv_c v6273]) (by decide +kernel) (by decide) (Nat.le_of_ble_eq_true rfl) rfl ?_
            refine x_iload (np := 156) (x := 4) (by decide +kernel) rfl (by decide) ?_
            refine x_ifz (k := 0) (tg := 180) (np := 159) (by decide +kernel) (by decide) (by decide) (fun q6281 => ?_) (fun q6282 => ?_)
            · have q6281 : 2147483649 = 2147483648 := q6281
              exfalso; omega
            have q6282 : ¬ (2147483649 = 2147483648) := q6282
            refine x_aload (np := 160) (x := 0) (by decide +kernel) rfl (x_nc_le (by decide)) ?_
            have q6283 : h6259 75 27 = 93 := by have z := jB (e := 27) 0 j6260 rg_75_27_0_1 (by decide) (by decide); omega
            refine x_getR (np := 163) (x := 731) (f := 27) (q := 93) (by decide +kernel) (by decide) (by decide +kernel) q6283 ?_
            refine x_iload (np := 164) (x := 2) (by decide +kernel) rfl (by decide) ?_
            refine x_iload (np := 166) (x := 5) (by decide +kernel) rfl l6274 ?_
            refine x_ast (np := 167) (x := 0) (kd := 1) (n := 6) (i := 4) (by decide +kernel) (Or.inl rfl) (by decide +kernel) (by first | decide | omega) (by first | decide | omega) (by decide) l6274 (fun z => absurd z (by decide)) ?_
            have j6285 := jU (e := 4) (v := v6273) 4 j6260 rg_93_0_1_6 (by first | decide | omega) (by first | decide | omega) (by first | decide | omega)
            have f6287 := jF (e := 4) (v := v6273) 4 f6264 rg_93_0_1_6 (by first | decide | omega) (by first | decide | omega) (by decide)
            have f6288 := jF (e := 4) (v := v6273) 4 f6265 rg_93_0_1_6 (by first | decide | omega) (by first | decide | omega) (by decide)
            generalize e6286 : x_up h6259 93 4 v6273 = h6284 at j6285 f6287 f6288 ⊢
            refine x_aload (np := 168) (x := 0) (by decide +kernel) rfl (x_nc_le (by decide)) ?_
            refine x_iload (np := 170) (x := 5) (by decide +kernel) rfl l6274 ?_
            refine x_const (np := 171) (x := 9223372043297226753) (a := 2147483649) (by decide +kernel) (by decide) (by decide) ?_
            refine x_cV (t := 6) (mj := 248) (n := 3) (rc := 12) (ml := 4) (nr := 0) (np := 174) (as := [x_r 75, iv_c v6273, iv_c 2147483649]) (rest := []) (lo1 := [x_r 75, iv_c v6273, iv_c 2147483649, 147573952589676412928]) (by decide +kernel) (by decide) (by decide +kernel) (x_rb_of (by decide +kernel)) rfl rfl (x_wr (by decide) (x_wi l6274 (x_wi (by decide) x_wn))) x_wn (by decide) rfl (c248_75 j6285  (by first | decide | omega) (by first | decide | omega)) (fun h6292 q6291 => ?_)
            obtain ⟨j6293, f6294⟩ := q6291
            have f6297 := Fr.trans f6287 f6294 (by decide)
            have f6298 := Fr.trans f6288 f6294 (by decide)
            refine x_iinc (np := 177) (i := 2) (j := 2147483649) (v := 2147483653) (lo' := [x_r 75, iv_c 2147483653, iv_c 2147483653, w3944, iv_c 2147483649, iv_c v6273]) (by decide +kernel) (by decide) (by decide) rfl (by decide) (by first | decide | omega) (by first | decide | omega) rfl ?_
            refine x_goto (np := 180) (x := 183) (by decide +kernel) ?_
            refine x_goto (np := 186) (x := 12) (by decide +kernel) ?_
            have q6299 : h6292 75 30 = h6284 75 30 := jK 0 f6294 rg_75_30_0_1 (by first | decide | omega) (by first | decide | omega) (by decide)
            have q6300 : h6284 75 30 = h6259 75 30 := by rw [← e6286]; exact x_up_k (by decide)
            have q6301 : h6259 75 30 = h3946 75 30 := jK 0 f6261 rg_75_30_0_1 (by first | decide | omega) (by first | decide | omega) (by decide)
            exact i3955 w3944 (iv_c v6273) h6292 (by first | decide | omega) j6293 f6298 (by first | decide | omega)
          have q6271 : ¬ (2147483648 ≤ (h3946 94 4)) := q6271
          refine x_const (np := 132) (x := 9223372034707292159) (a := 2147483647) (by decide +kernel) (by decide) (by decide) ?_
          refine x_goto (np := 135) (x := 140) (by decide +kernel) ?_
          refine x_istore (np := 142) (x := 5) (lo' := [x_r 75, iv_c 2147483653, iv_c 2147483652, w3944, iv_c 2147483648, iv_c 2147483647]) (by decide +kernel) (by decide) (Nat.le_of_ble_eq_true rfl) rfl ?_
          refine x_iload (np := 144) (x := 5) (by decide +kernel) rfl (by decide) ?_
          refine x_ifz (k := 2) (tg := 151) (np := 147) (by decide +kernel) (by decide) (by decide) (fun q6302 => ?_) (fun q6303 => ?_)
          · have q6302 : 2147483647 < 2147483648 := q6302
            refine x_const (np := 152) (x := 9223372039002259456) (a := 2147483648) (by decide +kernel) (by decide) (by decide) ?_
            refine x_istore (np := 154) (x := 4) (lo' := [x_r 75, iv_c 2147483653, iv_c 2147483652, w3944, iv_c 2147483648, iv_c 2147483647]) (by decide +kernel) (by decide) (Nat.le_of_ble_eq_true rfl) rfl ?_
            refine x_iload (np := 156) (x := 4) (by decide +kernel) rfl (by decide) ?_
            refine x_ifz (k := 0) (tg := 180) (np := 159) (by decide +kernel) (by decide) (by decide) (fun q6304 => ?_) (fun q6305 => ?_)
            · have q6304 : 2147483648 = 2147483648 := q6304
              refine x_iinc (np := 183) (i := 2) (j := 2147483647) (v := 2147483651) (lo' := [x_r 75, iv_c 2147483653, iv_c 2147483651, w3944, iv_c 2147483648, iv_c 2147483647]) (by decide +kernel) (by decide) (by decide) rfl (by decide) (by first | decide | omega) (by first | decide | omega) rfl ?_
              refine x_goto (np := 186) (x := 12) (by decide +kernel) ?_
              have q6306 : h6259 75 30 = h3946 75 30 := jK 0 f6261 rg_75_30_0_1 (by first | decide | omega) (by first | decide | omega) (by decide)
              exact i3960 w3944 (iv_c 2147483647) h6259 (by first | decide | omega) j6260 f6265 (by first | decide | omega)
            have q6305 : ¬ (2147483648 = 2147483648) := q6305
            exfalso; omega
          have q6303 : ¬ (2147483647 < 2147483648) := q6303
          exfalso; omega
        have q6212 : ¬ (2147483648 = 2147483648) := q6212
        exfalso; omega
  have q6307 : h2 75 30 = h 75 30 := by rw [← e4]; exact x_up_i (by first | decide | omega)
  exact (p3876 _).1 (iv_c 2147483648) 147573952589676412928 h2 (Nat.lt_succ_self _) j3 (Fr.refl _ _) (by first | decide | omega)
