/-! ===== methods ===== -/
set_option maxHeartbeats 0 in
/-- LentNamesModel.isAsked(II)Z -/
theorem c256_75_c1 {sc : Nat × Nat} {d a2 : Nat} {h : xh} (hJ : J h) (ba2 : 2147483648 ≤ a2 ∧ a2 ≤ 2147488831) (hr0 : 2147483648 ≤ (h 94 1)) : X sc 256 (d + 3) (xI fun r h' => h' = h ∧ (2147483648 ≤ r ∧ r ≤ 2147483649)) 0 0 0 [x_r 75, iv_c 2147483649, iv_c a2, 147573952589676412928, 147573952589676412928, 147573952589676412928, 147573952589676412928, 147573952589676412928] [] h := by
  have la2 : a2 < 4294967296 := by first | decide | omega
  have b1 := jB (e := 1) 1 hJ rg_94_0_1_6 (by first | decide | omega) (by first | decide | omega)
  refine x_iload (np := 1) (x := 2) (by decide +kernel) rfl la2 ?_
  refine x_nI (t := 0) (mj := 242) (n := 1) (rc := 0) (ml := 1) (nr := 0) (np := 4) (as := [iv_c a2]) (rest := []) (lo1 := [iv_c a2]) (by decide +kernel) (by decide) (by decide +kernel) (Or.inl rfl) rfl rfl (x_wi la2 x_wn) x_wn (by decide) rfl ?_
  refine x_iload (np := 1) (x := 0) (by decide +kernel) rfl la2 ?_
  refine x_const (np := 4) (x := 9223375749854004064) (a := 2147484512) (by decide +kernel) (by decide) (by decide) ?_
  obtain ⟨u2, q3⟩ : ∃ z, a2 = 2147483648 + z := ⟨a2 - 2147483648, by first | decide | omega⟩
  obtain ⟨u4, q5⟩ : ∃ z, z = u2 / 864 := ⟨_, rfl⟩
  refine x_div (np := 5) (i := u2) (j := 864) (by decide +kernel) (by first | decide | omega) (by decide) (by first | decide | omega) (by decide) ?_
  rw [← q5]
  refine x_retI (np := 6) (x := 0) (by decide +kernel) (by first | decide | omega) (Or.inl (by decide +kernel)) ⟨_, rfl, (by first | decide | omega), ?_⟩
  refine x_istore (np := 5) (x := 3) (lo' := [x_r 75, iv_c 2147483649, iv_c a2, iv_c (2147483648 + u4), 147573952589676412928, 147573952589676412928, 147573952589676412928, 147573952589676412928]) (by decide +kernel) (by first | decide | omega) (Nat.le_of_ble_eq_true rfl) rfl ?_
  refine x_iload (np := 6) (x := 2) (by decide +kernel) rfl la2 ?_
  refine x_nI (t := 0) (mj := 243) (n := 1) (rc := 0) (ml := 1) (nr := 0) (np := 9) (as := [iv_c a2]) (rest := []) (lo1 := [iv_c a2]) (by decide +kernel) (by decide) (by decide +kernel) (Or.inl rfl) rfl rfl (x_wi la2 x_wn) x_wn (by decide) rfl ?_
  refine x_iload (np := 1) (x := 0) (by decide +kernel) rfl la2 ?_
  refine x_const (np := 4) (x := 9223372657477550224) (a := 2147483792) (by decide +kernel) (by decide) (by decide) ?_
  obtain ⟨u6, q7⟩ : ∃ z, z = u2 / 144 := ⟨_, rfl⟩
  refine x_div (np := 5) (i := u2) (j := 144) (by decide +kernel) (by first | decide | omega) (by decide) (by first | decide | omega) (by decide) ?_
  rw [← q7]
  refine x_const (np := 7) (x := 9223372064772063238) (a := 2147483654) (by decide +kernel) (by decide) (by decide) ?_
  obtain ⟨u8, q9⟩ : ∃ z, z = u6 % 6 := ⟨_, rfl⟩
  refine x_rem (np := 8) (i := u6) (j := 6) (by decide +kernel) (by first | decide | omega) (by decide) (by first | decide | omega) (by decide) ?_
  rw [← q9]
  refine x_retI (np := 9) (x := 0) (by decide +kernel) (by first | decide | omega) (Or.inl (by decide +kernel)) ⟨_, rfl, (by first | decide | omega), ?_⟩
  refine x_istore (np := 11) (x := 4) (lo' := [x_r 75, iv_c 2147483649, iv_c a2, iv_c (2147483648 + u4), iv_c (2147483648 + u8), 147573952589676412928, 147573952589676412928, 147573952589676412928]) (by decide +kernel) (by first | decide | omega) (Nat.le_of_ble_eq_true rfl) rfl ?_
  refine x_iload (np := 12) (x := 2) (by decide +kernel) rfl la2 ?_
  refine x_nI (t := 0) (mj := 244) (n := 1) (rc := 0) (ml := 1) (nr := 0) (np := 15) (as := [iv_c a2]) (rest := []) (lo1 := [iv_c a2]) (by decide +kernel) (by decide) (by decide +kernel) (Or.inl rfl) rfl rfl (x_wi la2 x_wn) x_wn (by decide) rfl ?_
  refine x_iload (np := 1) (x := 0) (by decide +kernel) rfl la2 ?_
  refine x_const (np := 3) (x := 9223372090541867020) (a := 2147483660) (by decide +kernel) (by decide) (by decide) ?_
  obtain ⟨u10, q11⟩ : ∃ z, z = u2 / 12 := ⟨_, rfl⟩
  refine x_div (np := 4) (i := u2) (j := 12) (by decide +kernel) (by first | decide | omega) (by decide) (by first | decide | omega) (by decide) ?_
  rw [← q11]
  refine x_const (np := 6) (x := 9223372090541867020) (a := 2147483660) (by decide +kernel) (by decide) (by decide) ?_
  obtain ⟨u12, q13⟩ : ∃ z, z = u10 % 12 := ⟨_, rfl⟩
  refine x_rem (np := 7) (i := u10) (j := 12) (by decide +kernel) (by first | decide | omega) (by decide) (by first | decide | omega) (by decide) ?_
  rw [← q13]
  refine x_retI (np := 8) (x := 0) (by decide +kernel) (by first | decide | omega) (Or.inl (by decide +kernel)) ⟨_, rfl, (by first | decide | omega), ?_⟩
  refine x_istore (np := 17) (x := 5) (lo' := [x_r 75, iv_c 2147483649, iv_c a2, iv_c (2147483648 + u4), iv_c (2147483648 + u8), iv_c (2147483648 + u12), 147573952589676412928, 147573952589676412928]) (by decide +kernel) (by first | decide | omega) (Nat.le_of_ble_eq_true rfl) rfl ?_
  refine x_iload (np := 18) (x := 2) (by decide +kernel) rfl la2 ?_
  refine x_nI (t := 0) (mj := 245) (n := 1) (rc := 0) (ml := 1) (nr := 0) (np := 21) (as := [iv_c a2]) (rest := []) (lo1 := [iv_c a2]) (by decide +kernel) (by decide) (by decide +kernel) (Or.inl rfl) rfl rfl (x_wi la2 x_wn) x_wn (by decide) rfl ?_
  refine x_iload (np := 1) (x := 0) (by decide +kernel) rfl la2 ?_
  refine x_const (np := 3) (x := 9223372090541867020) (a := 2147483660) (by decide +kernel) (by decide) (by decide) ?_
  obtain ⟨u14, q15⟩ : ∃ z, z = u2 % 12 := ⟨_, rfl⟩
  refine x_rem (np := 4) (i := u2) (j := 12) (by decide +kernel) (by first | decide | omega) (by decide) (by first | decide | omega) (by decide) ?_
  rw [← q15]
  refine x_retI (np := 5) (x := 0) (by decide +kernel) (by first | decide | omega) (Or.inl (by decide +kernel)) ⟨_, rfl, (by first | decide | omega), ?_⟩
  refine x_istore (np := 23) (x := 6) (lo' := [x_r 75, iv_c 2147483649, iv_c a2, iv_c (2147483648 + u4), iv_c (2147483648 + u8), iv_c (2147483648 + u12), iv_c (2147483648 + u14), 147573952589676412928]) (by decide +kernel) (by first | decide | omega) (Nat.le_of_ble_eq_true rfl) rfl ?_
  refine x_aload (np := 24) (x := 0) (by decide +kernel) rfl (x_nc_le (by decide)) ?_
  have q16 : h 75 28 = 94 := by have z := jB (e := 28) 0 hJ rg_75_28_0_1 (by decide) (by decide); omega
  refine x_getR (np := 27) (x := 732) (f := 28) (q := 94) (by decide +kernel) (by decide) (by decide +kernel) q16 ?_
  refine x_iload (np := 28) (x := 1) (by decide +kernel) rfl (by decide) ?_
  refine x_aldC (np := 29) (x := 0) (n := 6) (i := 1) (q := (h 94 1)) (by decide +kernel) (by decide +kernel) (by first | decide | omega) (by first | decide | omega) (by decide) rfl (fun l17 => ?_)
  refine x_istore (np := 31) (x := 7) (lo' := [x_r 75, iv_c 2147483649, iv_c a2, iv_c (2147483648 + u4), iv_c (2147483648 + u8), iv_c (2147483648 + u12), iv_c (2147483648 + u14), iv_c (h 94 1)]) (by decide +kernel) l17 (Nat.le_of_ble_eq_true rfl) rfl ?_
  refine x_aload (np := 32) (x := 0) (by decide +kernel) rfl (x_nc_le (by decide)) ?_
  have b18 := jB (e := 33) 0 hJ rg_75_33_0_1 (by first | decide | omega) (by first | decide | omega)
  refine x_getC (np := 35) (x := 737) (f := 33) (q := (h 75 33)) (by decide +kernel) (by decide) (by decide +kernel) rfl (fun l19 => ?_)
  refine x_ifz (k := 1) (tg := 108) (np := 38) (by decide +kernel) (by decide) l19 (fun q20 => ?_) (fun q21 => ?_)
  · have q20 : (h 75 33) ≠ 2147483648 := q20
    refine x_iload (np := 110) (x := 7) (by decide +kernel) rfl l17 ?_
    refine x_const (np := 112) (x := 9223372468498989156) (a := 2147483748) (by decide +kernel) (by decide) (by decide) ?_
    refine x_icmp (k := 3) (tg := 161) (np := 115) (by decide +kernel) (by decide) l17 (by decide) (fun q22 => ?_) (fun q23 => ?_)
    · have q22 : 2147483748 ≤ (h 94 1) := q22
      refine x_iload (np := 163) (x := 4) (by decide +kernel) rfl (by first | decide | omega) ?_
      refine x_iload (np := 165) (x := 7) (by decide +kernel) rfl l17 ?_
      refine x_const (np := 167) (x := 9223372468498989156) (a := 2147483748) (by decide +kernel) (by decide) (by decide) ?_
      obtain ⟨v24, q25⟩ : ∃ z, z + 2147483748 = (h 94 1) + 2147483648 := ⟨(h 94 1) + 2147483648 - 2147483748, by first | decide | omega⟩
      refine x_isub (np := 168) (x := 0) (v := v24) (by decide +kernel) l17 (by decide) (by first | decide | omega) (by first | decide | omega) ?_
      refine x_icmp (k := 1) (tg := 202) (np := 171) (by decide +kernel) (by decide) (by first | decide | omega) (by first | decide | omega) (fun q26 => ?_) (fun q27 => ?_)
      · have q26 : (2147483648 + u8) ≠ v24 := q26
        refine x_const (np := 203) (x := 9223372039002259456) (a := 2147483648) (by decide +kernel) (by decide) (by decide) ?_
        refine x_retI (np := 204) (x := 0) (by decide +kernel) (by decide) (Or.inr ⟨by decide +kernel, by first | decide | omega, by first | decide | omega⟩) ⟨_, rfl, (by decide), ?_⟩
        exact ⟨rfl, (by first | decide | omega)⟩
      have q27 : ¬ ((2147483648 + u8) ≠ v24) := q27
      refine x_iload (np := 173) (x := 6) (by decide +kernel) rfl (by first | decide | omega) ?_
      refine x_aload (np := 174) (x := 0) (by decide +kernel) rfl (x_nc_le (by decide)) ?_
      have q28 : h 75 29 = 95 := by have z := jB (e := 29) 0 hJ rg_75_29_0_1 (by decide) (by decide); omega
      refine x_getR (np := 177) (x := 733) (f := 29) (q := 95) (by decide +kernel) (by decide) (by decide +kernel) q28 ?_
      refine x_iload (np := 178) (x := 1) (by decide +kernel) rfl (by decide) ?_
      have b29 := jB (e := 1) 1 hJ rg_95_0_1_6 (by first | decide | omega) (by first | decide | omega)
      refine x_aldC (np := 179) (x := 0) (n := 6) (i := 1) (q := (h 95 1)) (by decide +kernel) (by decide +kernel) (by first | decide | omega) (by first | decide | omega) (by decide) rfl (fun l30 => ?_)
      refine x_aload (np := 180) (x := 0) (by decide +kernel) rfl (x_nc_le (by decide)) ?_
      have b31 := jB (e := 31) 0 hJ rg_75_31_0_1 (by first | decide | omega) (by first | decide | omega)
      refine x_getC (np := 183) (x := 735) (f := 31) (q := (h 75 31)) (by decide +kernel) (by decide) (by decide +kernel) rfl (fun l32 => ?_)
      obtain ⟨v33, q34⟩ : ∃ z, z + (h 75 31) = (h 95 1) + 2147483648 := ⟨(h 95 1) + 2147483648 - (h 75 31), by first | decide | omega⟩
      refine x_isub (np := 184) (x := 0) (v := v33) (by decide +kernel) l30 l32 (by first | decide | omega) (by first | decide | omega) ?_
      refine x_icmp (k := 2) (tg := 202) (np := 187) (by decide +kernel) (by decide) (by first | decide | omega) (by first | decide | omega) (fun q35 => ?_) (fun q36 => ?_)
      · have q35 : (2147483648 + u14) < v33 := q35
        refine x_const (np := 203) (x := 9223372039002259456) (a := 2147483648) (by decide +kernel) (by decide) (by decide) ?_
        refine x_retI (np := 204) (x := 0) (by decide +kernel) (by decide) (Or.inr ⟨by decide +kernel, by first | decide | omega, by first | decide | omega⟩) ⟨_, rfl, (by decide), ?_⟩
        exact ⟨rfl, (by first | decide | omega)⟩
      have q36 : ¬ ((2147483648 + u14) < v33) := q36
      refine x_iload (np := 189) (x := 5) (by decide +kernel) rfl (by first | decide | omega) ?_
      refine x_aload (np := 190) (x := 0) (by decide +kernel) rfl (x_nc_le (by decide)) ?_
      have q37 : h 75 29 = 95 := by have z := jB (e := 29) 0 hJ rg_75_29_0_1 (by decide) (by decide); omega
      refine x_getR (np := 193) (x := 733) (f := 29) (q := 95) (by decide +kernel) (by decide) (by decide +kernel) q37 ?_
      refine x_iload (np := 194) (x := 1) (by decide +kernel) rfl (by decide) ?_
      refine x_aldC (np := 195) (x := 0) (n := 6) (i := 1) (q := (h 95 1)) (by decide +kernel) (by decide +kernel) (by first | decide | omega) (by first | decide | omega) (by decide) rfl (fun l38 => ?_)
      refine x_icmp (k := 4) (tg := 202) (np := 198) (by decide +kernel) (by decide) (by first | decide | omega) l30 (fun q39 => ?_) (fun q40 => ?_)
      · have q39 : (h 95 1) < (2147483648 + u12) := q39
        refine x_const (np := 203) (x := 9223372039002259456) (a := 2147483648) (by decide +kernel) (by decide) (by decide) ?_
        refine x_retI (np := 204) (x := 0) (by decide +kernel) (by decide) (Or.inr ⟨by decide +kernel, by first | decide | omega, by first | decide | omega⟩) ⟨_, rfl, (by decide), ?_⟩
        exact ⟨rfl, (by first | decide | omega)⟩
      have q40 : ¬ ((h 95 1) < (2147483648 + u12)) := q40
      refine x_const (np := 199) (x := 9223372043297226753) (a := 2147483649) (by decide +kernel) (by decide) (by decide) ?_
      refine x_goto (np := 202) (x := 203) (by decide +kernel) ?_
      refine x_retI (np := 204) (x := 0) (by decide +kernel) (by decide) (Or.inr ⟨by decide +kernel, by first | decide | omega, by first | decide | omega⟩) ⟨_, rfl, (by decide), ?_⟩
      exact ⟨rfl, (by first | decide | omega)⟩
    have q23 : ¬ (2147483748 ≤ (h 94 1)) := q23
    refine x_iload (np := 116) (x := 3) (by decide +kernel) rfl (by first | decide | omega) ?_
    refine x_aload (np := 117) (x := 0) (by decide +kernel) rfl (x_nc_le (by decide)) ?_
    refine x_iload (np := 119) (x := 7) (by decide +kernel) rfl l17 ?_
    refine x_const (np := 120) (x := 9223372039002259456) (a := 2147483648) (by decide +kernel) (by decide) (by decide) ?_
    refine x_nI (t := 6) (mj := 162) (n := 3) (rc := 12) (ml := 3) (nr := 1) (np := 123) (as := [x_r 75, iv_c (h 94 1), iv_c 2147483648]) (rest := [iv_c (2147483648 + u4)]) (lo1 := [x_r 75, iv_c (h 94 1), iv_c 2147483648]) (by decide +kernel) (by decide) (by decide +kernel) (x_rb_of (by decide +kernel)) rfl rfl (x_wr (by decide) (x_wi l17 (x_wi (by decide) x_wn))) (x_wi (by first | decide | omega) x_wn) (by decide) rfl ?_
    refine x_aload (np := 1) (x := 0) (by decide +kernel) rfl (x_nc_le (by decide)) ?_
    have q41 : h 75 1 = 76 := by have z := jB (e := 1) 0 hJ rg_75_1_0_1 (by decide) (by decide); omega
    refine x_getR (np := 4) (x := 705) (f := 1) (q := 76) (by decide +kernel) (by decide) (by decide +kernel) q41 ?_
    refine x_const (np := 7) (x := 9223372726197026976) (a := 2147483808) (by decide +kernel) (by decide) (by decide) ?_
    refine x_const (np := 8) (x := 9223372056182128644) (a := 2147483652) (by decide +kernel) (by decide) (by decide) ?_
    refine x_iload (np := 9) (x := 1) (by decide +kernel) rfl l17 ?_
    obtain ⟨u42, q43⟩ : ∃ z, (h 94 1) = 2147483648 + z := ⟨(h 94 1) - 2147483648, by first | decide | omega⟩
    refine x_imul (np := 10) (x := 0) (i := 4) (j := u42) (v := (2147483648 + 4 * u42)) (by decide +kernel) (by first | decide | omega) (by first | decide | omega) (by first | decide | omega) (by first | decide | omega) (by decide) l17 ?_
    refine x_iadd (np := 11) (x := 0) (v := (2147483808 + 4 * u42)) (by decide +kernel) (by decide) (by first | decide | omega) (by first | decide | omega) (by first | decide | omega) ?_
    refine x_iload (np := 12) (x := 2) (by decide +kernel) rfl (by decide) ?_
    refine x_iadd (np := 13) (x := 0) (v := (2147483808 + 4 * u42)) (by decide +kernel) (by first | decide | omega) (by decide) (by first | decide | omega) (by first | decide | omega) ?_
    refine x_aldC (np := 14) (x := 0) (n := 1952) (i := (160 + 4 * u42)) (q := ((h 76 (160 + 4 * u42)))) (by decide +kernel) (by decide +kernel) (by first | decide | omega) (by first | decide | omega) (by decide) rfl (fun l45 => ?_)
    refine x_retI (np := 15) (x := 0) (by decide +kernel) l45 (Or.inl (by decide +kernel)) ⟨_, rfl, l45, ?_⟩
    refine x_icmp (k := 1) (tg := 159) (np := 126) (by decide +kernel) (by decide) (by first | decide | omega) l45 (fun q46 => ?_) (fun q47 => ?_)
    · have q46 : (2147483648 + u4) ≠ ((h 76 (160 + 4 * u42))) := q46
      refine x_const (np := 160) (x := 9223372039002259456) (a := 2147483648) (by decide +kernel) (by decide) (by decide) ?_
      refine x_retI (np := 161) (x := 0) (by decide +kernel) (by decide) (Or.inr ⟨by decide +kernel, by first | decide | omega, by first | decide | omega⟩) ⟨_, rfl, (by decide), ?_⟩
      exact ⟨rfl, (by first | decide | omega)⟩
    have q47 : ¬ ((2147483648 + u4) ≠ ((h 76 (160 + 4 * u42)))) := q47
    refine x_iload (np := 128) (x := 4) (by decide +kernel) rfl (by first | decide | omega) ?_
    refine x_aload (np := 129) (x := 0) (by decide +kernel) rfl (x_nc_le (by decide)) ?_
    refine x_iload (np := 131) (x := 7) (by decide +kernel) rfl l17 ?_
    refine x_const (np := 132) (x := 9223372051887161347) (a := 2147483651) (by decide +kernel) (by decide) (by decide) ?_
    refine x_nI (t := 6) (mj := 162) (n := 3) (rc := 12) (ml := 3) (nr := 1) (np := 135) (as := [x_r 75, iv_c (h 94 1), iv_c 2147483651]) (rest := [iv_c (2147483648 + u8)]) (lo1 := [x_r 75, iv_c (h 94 1), iv_c 2147483651]) (by decide +kernel) (by decide) (by decide +kernel) (x_rb_of (by decide +kernel)) rfl rfl (x_wr (by decide) (x_wi l17 (x_wi (by decide) x_wn))) (x_wi (by first | decide | omega) x_wn) (by decide) rfl ?_
    refine x_aload (np := 1) (x := 0) (by decide +kernel) rfl (x_nc_le (by decide)) ?_
    have q48 : h 75 1 = 76 := by have z := jB (e := 1) 0 hJ rg_75_1_0_1 (by decide) (by decide); omega
    refine x_getR (np := 4) (x := 705) (f := 1) (q := 76) (by decide +kernel) (by decide) (by decide +kernel) q48 ?_
    refine x_const (np := 7) (x := 9223372726197026976) (a := 2147483808) (by decide +kernel) (by decide) (by decide) ?_
    refine x_const (np := 8) (x := 9223372056182128644) (a := 2147483652) (by decide +kernel) (by decide) (by decide) ?_
    refine x_iload (np := 9) (x := 1) (by decide +kernel) rfl l17 ?_
    refine x_imul (np := 10) (x := 0) (i := 4) (j := u42) (v := (2147483648 + 4 * u42)) (by decide +kernel) (by first | decide | omega) (by first | decide | omega) (by first | decide | omega) (by first | decide | omega) (by decide) l17 ?_
    refine x_iadd (np := 11) (x := 0) (v := (2147483808 + 4 * u42)) (by decide +kernel) (by decide) (by first | decide | omega) (by first | decide | omega) (by first | decide | omega) ?_
    refine x_iload (np := 12) (x := 2) (by decide +kernel) rfl (by decide) ?_
    refine x_iadd (np := 13) (x := 0) (v := (2147483811 + 4 * u42)) (by decide +kernel) (by first | decide | omega) (by decide) (by first | decide | omega) (by first | decide | omega) ?_
    refine x_aldC (np := 14) (x := 0) (n := 1952) (i := (163 + 4 * u42)) (q := ((h 76 (163 + 4 * u42)))) (by decide +kernel) (by decide +kernel) (by first | decide | omega) (by first | decide | omega) (by decide) rfl (fun l50 => ?_)
    refine x_retI (np := 15) (x := 0) (by decide +kernel) l50 (Or.inl (by decide +kernel)) ⟨_, rfl, l50, ?_⟩
    refine x_icmp (k := 1) (tg := 159) (np := 138) (by decide +kernel) (by decide) (by first | decide | omega) l50 (fun q51 => ?_) (fun q52 => ?_)
    · have q51 : (2147483648 + u8) ≠ ((h 76 (163 + 4 * u42))) := q51
      refine x_const (np := 160) (x := 9223372039002259456) (a := 2147483648) (by decide +kernel) (by decide) (by decide) ?_
      refine x_retI (np := 161) (x := 0) (by decide +kernel) (by decide) (Or.inr ⟨by decide +kernel, by first | decide | omega, by first | decide | omega⟩) ⟨_, rfl, (by decide), ?_⟩
      exact ⟨rfl, (by first | decide | omega)⟩
    have q52 : ¬ ((2147483648 + u8) ≠ ((h 76 (163 + 4 * u42)))) := q52
    refine x_aload (np := 139) (x := 0) (by decide +kernel) rfl (x_nc_le (by decide)) ?_
    refine x_iload (np := 141) (x := 7) (by decide +kernel) rfl l17 ?_
    refine x_const (np := 142) (x := 9223372047592194050) (a := 2147483650) (by decide +kernel) (by decide) (by decide) ?_
    refine x_nI (t := 6) (mj := 162) (n := 3) (rc := 12) (ml := 3) (nr := 0) (np := 145) (as := [x_r 75, iv_c (h 94 1), iv_c 2147483650]) (rest := []) (lo1 := [x_r 75, iv_c (h 94 1), iv_c 2147483650]) (by decide +kernel) (by decide) (by decide +kernel) (x_rb_of (by decide +kernel)) rfl rfl (x_wr (by decide) (x_wi l17 (x_wi (by decide) x_wn))) x_wn (by decide) rfl ?_
    refine x_aload (np := 1) (x := 0) (by decide +kernel) rfl (x_nc_le (by decide)) ?_
    have q53 : h 75 1 = 76 := by have z := jB (e := 1) 0 hJ rg_75_1_0_1 (by decide) (by decide); omega
    refine x_getR (np := 4) (x := 705) (f := 1) (q := 76) (by decide +kernel) (by decide) (by decide +kernel) q53 ?_
    refine x_const (np := 7) (x := 9223372726197026976) (a := 2147483808) (by decide +kernel) (by decide) (by decide) ?_
    refine x_const (np := 8) (x := 9223372056182128644) (a := 2147483652) (by decide +kernel) (by decide) (by decide) ?_
    refine x_iload (np := 9) (x := 1) (by decide +kernel) rfl l17 ?_
    refine x_imul (np := 10) (x := 0) (i := 4) (j := u42) (v := (2147483648 + 4 * u42)) (by decide +kernel) (by first | decide | omega) (by first | decide | omega) (by first | decide | omega) (by first | decide | omega) (by decide) l17 ?_
    refine x_iadd (np := 11) (x := 0) (v := (2147483808 + 4 * u42)) (by decide +kernel) (by decide) (by first | decide | omega) (by first | decide | omega) (by first | decide | omega) ?_
    refine x_iload (np := 12) (x := 2) (by decide +kernel) rfl (by decide) ?_
    refine x_iadd (np := 13) (x := 0) (v := (2147483810 + 4 * u42)) (by decide +kernel) (by first | decide | omega) (by decide) (by first | decide | omega) (by first | decide | omega) ?_
    refine x_aldC (np := 14) (x := 0) (n := 1952) (i := (162 + 4 * u42)) (q := ((h 76 (162 + 4 * u42)))) (by decide +kernel) (by decide +kernel) (by first | decide | omega) (by first | decide | omega) (by decide) rfl (fun l55 => ?_)
    refine x_retI (np := 15) (x := 0) (by decide +kernel) l55 (Or.inl (by decide +kernel)) ⟨_, rfl, l55, ?_⟩
    refine x_iload (np := 147) (x := 5) (by decide +kernel) rfl (by first | decide | omega) ?_
    refine x_iload (np := 149) (x := 6) (by decide +kernel) rfl (by first | decide | omega) ?_
    refine x_nI (t := 0) (mj := 153) (n := 3) (rc := 0) (ml := 3) (nr := 0) (np := 152) (as := [iv_c ((h 76 (162 + 4 * u42))), iv_c (2147483648 + u12), iv_c (2147483648 + u14)]) (rest := []) (lo1 := [iv_c ((h 76 (162 + 4 * u42))), iv_c (2147483648 + u12), iv_c (2147483648 + u14)]) (by decide +kernel) (by decide) (by decide +kernel) (Or.inl rfl) rfl rfl (x_wi l55 (x_wi (by first | decide | omega) (x_wi (by first | decide | omega) x_wn))) x_wn (by decide) rfl ?_
    refine x_iload (np := 1) (x := 0) (by decide +kernel) rfl l55 ?_
    refine x_iload (np := 2) (x := 1) (by decide +kernel) rfl (by first | decide | omega) ?_
    refine x_icmp (k := 2) (tg := 14) (np := 5) (by decide +kernel) (by decide) l55 (by first | decide | omega) (fun q56 => ?_) (fun q57 => ?_)
    · have q56 : ((h 76 (162 + 4 * u42))) < (2147483648 + u12) := q56
      refine x_const (np := 15) (x := 9223372039002259456) (a := 2147483648) (by decide +kernel) (by decide) (by decide) ?_
      refine x_retI (np := 16) (x := 0) (by decide +kernel) (by decide) (Or.inr ⟨by decide +kernel, by first | decide | omega, by first | decide | omega⟩) ⟨_, rfl, (by decide), ?_⟩
      refine x_ifz (k := 0) (tg := 159) (np := 155) (by decide +kernel) (by decide) (by decide) (fun q58 => ?_) (fun q59 => ?_)
      · have q58 : 2147483648 = 2147483648 := q58
        refine x_const (np := 160) (x := 9223372039002259456) (a := 2147483648) (by decide +kernel) (by decide) (by decide) ?_
        refine x_retI (np := 161) (x := 0) (by decide +kernel) (by decide) (Or.inr ⟨by decide +kernel, by first | decide | omega, by first | decide | omega⟩) ⟨_, rfl, (by decide), ?_⟩
        exact ⟨rfl, (by first | decide | omega)⟩
      have q59 : ¬ (2147483648 = 2147483648) := q59
      exfalso; omega
    have q57 : ¬ (((h 76 (162 + 4 * u42))) < (2147483648 + u12)) := q57
    refine x_iload (np := 6) (x := 0) (by decide +kernel) rfl l55 ?_
    refine x_iload (np := 7) (x := 2) (by decide +kernel) rfl (by first | decide | omega) ?_
    refine x_icmp (k := 4) (tg := 14) (np := 10) (by decide +kernel) (by decide) l55 (by first | decide | omega) (fun q60 => ?_) (fun q61 => ?_)
    · have q60 : (2147483648 + u14) < ((h 76 (162 + 4 * u42))) := q60
      refine x_const (np := 15) (x := 9223372039002259456) (a := 2147483648) (by decide +kernel) (by decide) (by decide) ?_
      refine x_retI (np := 16) (x := 0) (by decide +kernel) (by decide) (Or.inr ⟨by decide +kernel, by first | decide | omega, by first | decide | omega⟩) ⟨_, rfl, (by decide), ?_⟩
      refine x_ifz (k := 0) (tg := 159) (np := 155) (by decide +kernel) (by decide) (by decide) (fun q62 => ?_) (fun q63 => ?_)
      · have q62 : 2147483648 = 2147483648 := q62
        refine x_const (np := 160) (x := 9223372039002259456) (a := 2147483648) (by decide +kernel) (by decide) (by decide) ?_
        refine x_retI (np := 161) (x := 0) (by decide +kernel) (by decide) (Or.inr ⟨by decide +kernel, by first | decide | omega, by first | decide | omega⟩) ⟨_, rfl, (by decide), ?_⟩
        exact ⟨rfl, (by first | decide | omega)⟩
      have q63 : ¬ (2147483648 = 2147483648) := q63
      exfalso; omega
    have q61 : ¬ ((2147483648 + u14) < ((h 76 (162 + 4 * u42)))) := q61
    refine x_const (np := 11) (x := 9223372043297226753) (a := 2147483649) (by decide +kernel) (by decide) (by decide) ?_
    refine x_goto (np := 14) (x := 15) (by decide +kernel) ?_
    refine x_retI (np := 16) (x := 0) (by decide +kernel) (by decide) (Or.inr ⟨by decide +kernel, by first | decide | omega, by first | decide | omega⟩) ⟨_, rfl, (by decide), ?_⟩
    refine x_ifz (k := 0) (tg := 159) (np := 155) (by decide +kernel) (by decide) (by decide) (fun q64 => ?_) (fun q65 => ?_)
    · have q64 : 2147483649 = 2147483648 := q64
      exfalso; omega
    have q65 : ¬ (2147483649 = 2147483648) := q65
    refine x_const (np := 156) (x := 9223372043297226753) (a := 2147483649) (by decide +kernel) (by decide) (by decide) ?_
    refine x_goto (np := 159) (x := 160) (by decide +kernel) ?_
    refine x_retI (np := 161) (x := 0) (by decide +kernel) (by decide) (Or.inr ⟨by decide +kernel, by first | decide | omega, by first | decide | omega⟩) ⟨_, rfl, (by decide), ?_⟩
    exact ⟨rfl, (by first | decide | omega)⟩
  have q21 : ¬ ((h 75 33) ≠ 2147483648) := q21
  refine x_iload (np := 39) (x := 3) (by decide +kernel) rfl (by first | decide | omega) ?_
  refine x_aload (np := 40) (x := 0) (by decide +kernel) rfl (x_nc_le (by decide)) ?_
  refine x_iload (np := 42) (x := 7) (by decide +kernel) rfl l17 ?_
  refine x_const (np := 43) (x := 9223372039002259456) (a := 2147483648) (by decide +kernel) (by decide) (by decide) ?_
  refine x_nI (t := 6) (mj := 164) (n := 3) (rc := 12) (ml := 3) (nr := 1) (np := 46) (as := [x_r 75, iv_c (h 94 1), iv_c 2147483648]) (rest := [iv_c (2147483648 + u4)]) (lo1 := [x_r 75, iv_c (h 94 1), iv_c 2147483648]) (by decide +kernel) (by decide) (by decide +kernel) (x_rb_of (by decide +kernel)) rfl rfl (x_wr (by decide) (x_wi l17 (x_wi (by decide) x_wn))) (x_wi (by first | decide | omega) x_wn) (by decide) rfl ?_
  refine x_aload (np := 1) (x := 0) (by decide +kernel) rfl (x_nc_le (by decide)) ?_
  have q66 : h 75 1 = 76 := by have z := jB (e := 1) 0 hJ rg_75_1_0_1 (by decide) (by decide); omega
  refine x_getR (np := 4) (x := 705) (f := 1) (q := 76) (by decide +kernel) (by decide) (by decide +kernel) q66 ?_
  refine x_const (np := 7) (x := 9223373112744083706) (a := 2147483898) (by decide +kernel) (by decide) (by decide) ?_
  refine x_const (np := 8) (x := 9223372056182128644) (a := 2147483652) (by decide +kernel) (by decide) (by decide) ?_
  refine x_iload (np := 9) (x := 1) (by decide +kernel) rfl l17 ?_
  obtain ⟨u67, q68⟩ : ∃ z, (h 94 1) = 2147483648 + z := ⟨(h 94 1) - 2147483648, by first | decide | omega⟩
  refine x_imul (np := 10) (x := 0) (i := 4) (j := u67) (v := (2147483648 + 4 * u67)) (by decide +kernel) (by first | decide | omega) (by first | decide | omega) (by first | decide | omega) (by first | decide | omega) (by decide) l17 ?_
  refine x_iadd (np := 11) (x := 0) (v := (2147483898 + 4 * u67)) (by decide +kernel) (by decide) (by first | decide | omega) (by first | decide | omega) (by first | decide | omega) ?_
  refine x_iload (np := 12) (x := 2) (by decide +kernel) rfl (by decide) ?_
  refine x_iadd (np := 13) (x := 0) (v := (2147483898 + 4 * u67)) (by decide +kernel) (by first | decide | omega) (by decide) (by first | decide | omega) (by first | decide | omega) ?_
  refine x_aldC (np := 14) (x := 0) (n := 1952) (i := (250 + 4 * u67)) (q := ((h 76 (250 + 4 * u67)))) (by decide +kernel) (by decide +kernel) (by first | decide | omega) (by first | decide | omega) (by decide) rfl (fun l70 => ?_)
  refine x_retI (np := 15) (x := 0) (by decide +kernel) l70 (Or.inl (by decide +kernel)) ⟨_, rfl, l70, ?_⟩
  refine x_icmp (k := 1) (tg := 106) (np := 49) (by decide +kernel) (by decide) (by first | decide | omega) l70 (fun q71 => ?_) (fun q72 => ?_)
  · have q71 : (2147483648 + u4) ≠ ((h 76 (250 + 4 * u67))) := q71
    refine x_const (np := 107) (x := 9223372039002259456) (a := 2147483648) (by decide +kernel) (by decide) (by decide) ?_
    refine x_retI (np := 108) (x := 0) (by decide +kernel) (by decide) (Or.inr ⟨by decide +kernel, by first | decide | omega, by first | decide | omega⟩) ⟨_, rfl, (by decide), ?_⟩
    exact ⟨rfl, (by first | decide | omega)⟩
  have q72 : ¬ ((2147483648 + u4) ≠ ((h 76 (250 + 4 * u67)))) := q72
  refine x_aload (np := 50) (x := 0) (by decide +kernel) rfl (x_nc_le (by decide)) ?_
  refine x_iload (np := 52) (x := 7) (by decide +kernel) rfl l17 ?_
  refine x_const (np := 53) (x := 9223372047592194050) (a := 2147483650) (by decide +kernel) (by decide) (by decide) ?_
  refine x_nI (t := 6) (mj := 164) (n := 3) (rc := 12) (ml := 3) (nr := 0) (np := 56) (as := [x_r 75, iv_c (h 94 1), iv_c 2147483650]) (rest := []) (lo1 := [x_r 75, iv_c (h 94 1), iv_c 2147483650]) (by decide +kernel) (by decide) (by decide +kernel) (x_rb_of (by decide +kernel)) rfl rfl (x_wr (by decide) (x_wi l17 (x_wi (by decide) x_wn))) x_wn (by decide) rfl ?_
  refine x_aload (np := 1) (x := 0) (by decide +kernel) rfl (x_nc_le (by decide)) ?_
  have q73 : h 75 1 = 76 := by have z := jB (e := 1) 0 hJ rg_75_1_0_1 (by decide) (by decide); omega
  refine x_getR (np := 4) (x := 705) (f := 1) (q := 76) (by decide +kernel) (by decide) (by decide +kernel) q73 ?_
  refine x_const (np := 7) (x := 9223373112744083706) (a := 2147483898) (by decide +kernel) (by decide) (by decide) ?_
  refine x_const (np := 8) (x := 9223372056182128644) (a := 2147483652) (by decide +kernel) (by decide) (by decide) ?_
  refine x_iload (np := 9) (x := 1) (by decide +kernel) rfl l17 ?_
  refine x_imul (np := 10) (x := 0) (i := 4) (j := u67) (v := (2147483648 + 4 * u67)) (by decide +kernel) (by first | decide | omega) (by first | decide | omega) (by first | decide | omega) (by first | decide | omega) (by decide) l17 ?_
  refine x_iadd (np := 11) (x := 0) (v := (2147483898 + 4 * u67)) (by decide +kernel) (by decide) (by first | decide | omega) (by first | decide | omega) (by first | decide | omega) ?_
  refine x_iload (np := 12) (x := 2) (by decide +kernel) rfl (by decide) ?_
  refine x_iadd (np := 13) (x := 0) (v := (2147483900 + 4 * u67)) (by decide +kernel) (by first | decide | omega) (by decide) (by first | decide | omega) (by first | decide | omega) ?_
  refine x_aldC (np := 14) (x := 0) (n := 1952) (i := (252 + 4 * u67)) (q := ((h 76 (252 + 4 * u67)))) (by decide +kernel) (by decide +kernel) (by first | decide | omega) (by first | decide | omega) (by decide) rfl (fun l75 => ?_)
  refine x_retI (np := 15) (x := 0) (by decide +kernel) l75 (Or.inl (by decide +kernel)) ⟨_, rfl, l75, ?_⟩
  refine x_iload (np := 58) (x := 4) (by decide +kernel) rfl (by first | decide | omega) ?_
  refine x_any (np := 59) (k9 := 4) (by decide +kernel) (by decide) l75 (by first | decide | omega) (fun v76 l77 => ?_)
  refine x_const (np := 60) (x := 9223372043297226753) (a := 2147483649) (by decide +kernel) (by decide) (by decide) ?_
  refine x_mask (np := 61) (m := 1) (k9 := 2) (by decide +kernel) l77 (by decide +kernel) (by decide) (by decide) (by decide) (fun u78 l79 => ?_)
  refine x_const (np := 62) (x := 9223372043297226753) (a := 2147483649) (by decide +kernel) (by decide) (by decide) ?_
  refine x_icmp (k := 1) (tg := 106) (np := 65) (by decide +kernel) (by decide) (by first | decide | omega) (by decide) (fun q80 => ?_) (fun q81 => ?_)
  · have q80 : (2147483648 + u78) ≠ 2147483649 := q80
    refine x_const (np := 107) (x := 9223372039002259456) (a := 2147483648) (by decide +kernel) (by decide) (by decide) ?_
    refine x_retI (np := 108) (x := 0) (by decide +kernel) (by decide) (Or.inr ⟨by decide +kernel, by first | decide | omega, by first | decide | omega⟩) ⟨_, rfl, (by decide), ?_⟩
    exact ⟨rfl, (by first | decide | omega)⟩
  have q81 : ¬ ((2147483648 + u78) ≠ 2147483649) := q81
  refine x_aload (np := 66) (x := 0) (by decide +kernel) rfl (x_nc_le (by decide)) ?_
  refine x_iload (np := 68) (x := 7) (by decide +kernel) rfl l17 ?_
  refine x_const (np := 69) (x := 9223372043297226753) (a := 2147483649) (by decide +kernel) (by decide) (by decide) ?_
  refine x_nI (t := 6) (mj := 164) (n := 3) (rc := 12) (ml := 3) (nr := 0) (np := 72) (as := [x_r 75, iv_c (h 94 1), iv_c 2147483649]) (rest := []) (lo1 := [x_r 75, iv_c (h 94 1), iv_c 2147483649]) (by decide +kernel) (by decide) (by decide +kernel) (x_rb_of (by decide +kernel)) rfl rfl (x_wr (by decide) (x_wi l17 (x_wi (by decide) x_wn))) x_wn (by decide) rfl ?_
  refine x_aload (np := 1) (x := 0) (by decide +kernel) rfl (x_nc_le (by decide)) ?_
  have q82 : h 75 1 = 76 := by have z := jB (e := 1) 0 hJ rg_75_1_0_1 (by decide) (by decide); omega
  refine x_getR (np := 4) (x := 705) (f := 1) (q := 76) (by decide +kernel) (by decide) (by decide +kernel) q82 ?_
  refine x_const (np := 7) (x := 9223373112744083706) (a := 2147483898) (by decide +kernel) (by decide) (by decide) ?_
  refine x_const (np := 8) (x := 9223372056182128644) (a := 2147483652) (by decide +kernel) (by decide) (by decide) ?_
  refine x_iload (np := 9) (x := 1) (by decide +kernel) rfl l17 ?_
  refine x_imul (np := 10) (x := 0) (i := 4) (j := u67) (v := (2147483648 + 4 * u67)) (by decide +kernel) (by first | decide | omega) (by first | decide | omega) (by first | decide | omega) (by first | decide | omega) (by decide) l17 ?_
  refine x_iadd (np := 11) (x := 0) (v := (2147483898 + 4 * u67)) (by decide +kernel) (by decide) (by first | decide | omega) (by first | decide | omega) (by first | decide | omega) ?_
  refine x_iload (np := 12) (x := 2) (by decide +kernel) rfl (by decide) ?_
  refine x_iadd (np := 13) (x := 0) (v := (2147483899 + 4 * u67)) (by decide +kernel) (by first | decide | omega) (by decide) (by first | decide | omega) (by first | decide | omega) ?_
  refine x_aldC (np := 14) (x := 0) (n := 1952) (i := (251 + 4 * u67)) (q := ((h 76 (251 + 4 * u67)))) (by decide +kernel) (by decide +kernel) (by first | decide | omega) (by first | decide | omega) (by decide) rfl (fun l84 => ?_)
  refine x_retI (np := 15) (x := 0) (by decide +kernel) l84 (Or.inl (by decide +kernel)) ⟨_, rfl, l84, ?_⟩
  refine x_iload (np := 74) (x := 5) (by decide +kernel) rfl (by first | decide | omega) ?_
  refine x_iload (np := 76) (x := 6) (by decide +kernel) rfl (by first | decide | omega) ?_
  refine x_nI (t := 0) (mj := 153) (n := 3) (rc := 0) (ml := 3) (nr := 0) (np := 79) (as := [iv_c ((h 76 (251 + 4 * u67))), iv_c (2147483648 + u12), iv_c (2147483648 + u14)]) (rest := []) (lo1 := [iv_c ((h 76 (251 + 4 * u67))), iv_c (2147483648 + u12), iv_c (2147483648 + u14)]) (by decide +kernel) (by decide) (by decide +kernel) (Or.inl rfl) rfl rfl (x_wi l84 (x_wi (by first | decide | omega) (x_wi (by first | decide | omega) x_wn))) x_wn (by decide) rfl ?_
  refine x_iload (np := 1) (x := 0) (by decide +kernel) rfl l84 ?_
  refine x_iload (np := 2) (x := 1) (by decide +kernel) rfl (by first | decide | omega) ?_
  refine x_icmp (k := 2) (tg := 14) (np := 5) (by decide +kernel) (by decide) l84 (by first | decide | omega) (fun q85 => ?_) (fun q86 => ?_)
  · have q85 : ((h 76 (251 + 4 * u67))) < (2147483648 + u12) := q85
    refine x_const (np := 15) (x := 9223372039002259456) (a := 2147483648) (by decide +kernel) (by decide) (by decide) ?_
    refine x_retI (np := 16) (x := 0) (by decide +kernel) (by decide) (Or.inr ⟨by decide +kernel, by first | decide | omega, by first | decide | omega⟩) ⟨_, rfl, (by decide), ?_⟩
    refine x_ifz (k := 0) (tg := 106) (np := 82) (by decide +kernel) (by decide) (by decide) (fun q87 => ?_) (fun q88 => ?_)
    · have q87 : 2147483648 = 2147483648 := q87
      refine x_const (np := 107) (x := 9223372039002259456) (a := 2147483648) (by decide +kernel) (by decide) (by decide) ?_
      refine x_retI (np := 108) (x := 0) (by decide +kernel) (by decide) (Or.inr ⟨by decide +kernel, by first | decide | omega, by first | decide | omega⟩) ⟨_, rfl, (by decide), ?_⟩
      exact ⟨rfl, (by first | decide | omega)⟩
    have q88 : ¬ (2147483648 = 2147483648) := q88
    exfalso; omega
  have q86 : ¬ (((h 76 (251 + 4 * u67))) < (2147483648 + u12)) := q86
  refine x_iload (np := 6) (x := 0) (by decide +kernel) rfl l84 ?_
  refine x_iload (np := 7) (x := 2) (by decide +kernel) rfl (by first | decide | omega) ?_
  refine x_icmp (k := 4) (tg := 14) (np := 10) (by decide +kernel) (by decide) l84 (by first | decide | omega) (fun q89 => ?_) (fun q90 => ?_)
  · have q89 : (2147483648 + u14) < ((h 76 (251 + 4 * u67))) := q89
    refine x_const (np := 15) (x := 9223372039002259456) (a := 2147483648) (by decide +kernel) (by decide) (by decide) ?_
    refine x_retI (np := 16) (x := 0) (by decide +kernel) (by decide) (Or.inr ⟨by decide +kernel, by first | decide | omega, by first | decide | omega⟩) ⟨_, rfl, (by decide), ?_⟩
    refine x_ifz (k := 0) (tg := 106) (np := 82) (by decide +kernel) (by decide) (by decide) (fun q91 => ?_) (fun q92 => ?_)
    · have q91 : 2147483648 = 2147483648 := q91
      refine x_const (np := 107) (x := 9223372039002259456) (a := 2147483648) (by decide +kernel) (by decide) (by decide) ?_
      refine x_retI (np := 108) (x := 0) (by decide +kernel) (by decide) (Or.inr ⟨by decide +kernel, by first | decide | omega, by first | decide | omega⟩) ⟨_, rfl, (by decide), ?_⟩
      exact ⟨rfl, (by first | decide | omega)⟩
    have q92 : ¬ (2147483648 = 2147483648) := q92
    exfalso; omega
  have q90 : ¬ ((2147483648 + u14) < ((h 76 (251 + 4 * u67)))) := q90
  refine x_const (np := 11) (x := 9223372043297226753) (a := 2147483649) (by decide +kernel) (by decide) (by decide) ?_
  refine x_goto (np := 14) (x := 15) (by decide +kernel) ?_
  refine x_retI (np := 16) (x := 0) (by decide +kernel) (by decide) (Or.inr ⟨by decide +kernel, by first | decide | omega, by first | decide | omega⟩) ⟨_, rfl, (by decide), ?_⟩
  refine x_ifz (k := 0) (tg := 106) (np := 82) (by decide +kernel) (by decide) (by decide) (fun q93 => ?_) (fun q94 => ?_)
  · have q93 : 2147483649 = 2147483648 := q93
    exfalso; omega
  have q94 : ¬ (2147483649 = 2147483648) := q94
  refine x_aload (np := 83) (x := 0) (by decide +kernel) rfl (x_nc_le (by decide)) ?_
  refine x_iload (np := 84) (x := 3) (by decide +kernel) rfl (by first | decide | omega) ?_
  refine x_iload (np := 86) (x := 5) (by decide +kernel) rfl (by first | decide | omega) ?_
  refine x_cP (t := 6) (mj := 255) (n := 3) (rc := 12) (ml := 5) (nr := 0) (np := 89) (as := [x_r 75, iv_c (2147483648 + u4), iv_c (2147483648 + u12)]) (rest := []) (lo1 := [x_r 75, iv_c (2147483648 + u4), iv_c (2147483648 + u12), 147573952589676412928, 147573952589676412928]) (by decide +kernel) (by decide) (by decide +kernel) (x_rb_of (by decide +kernel)) rfl rfl (x_wr (by decide) (x_wi (by first | decide | omega) (x_wi (by first | decide | omega) x_wn))) x_wn (by decide) rfl (c255_75 hJ  (by first | decide | omega) (by first | decide | omega)) (fun v95 l96 q97 => ?_)
  refine x_ifz (k := 0) (tg := 106) (np := 92) (by decide +kernel) (by decide) l96 (fun q98 => ?_) (fun q99 => ?_)
  · have q98 : v95 = 2147483648 := q98
    refine x_const (np := 107) (x := 9223372039002259456) (a := 2147483648) (by decide +kernel) (by decide) (by decide) ?_
    refine x_retI (np := 108) (x := 0) (by decide +kernel) (by decide) (Or.inr ⟨by decide +kernel, by first | decide | omega, by first | decide | omega⟩) ⟨_, rfl, (by decide), ?_⟩
    exact ⟨rfl, (by first | decide | omega)⟩
  have q99 : ¬ (v95 = 2147483648) := q99
  refine x_aload (np := 93) (x := 0) (by decide +kernel) rfl (x_nc_le (by decide)) ?_
  refine x_iload (np := 94) (x := 3) (by decide +kernel) rfl (by first | decide | omega) ?_
  refine x_iload (np := 96) (x := 6) (by decide +kernel) rfl (by first | decide | omega) ?_
  refine x_cP (t := 6) (mj := 255) (n := 3) (rc := 12) (ml := 5) (nr := 0) (np := 99) (as := [x_r 75, iv_c (2147483648 + u4), iv_c (2147483648 + u14)]) (rest := []) (lo1 := [x_r 75, iv_c (2147483648 + u4), iv_c (2147483648 + u14), 147573952589676412928, 147573952589676412928]) (by decide +kernel) (by decide) (by decide +kernel) (x_rb_of (by decide +kernel)) rfl rfl (x_wr (by decide) (x_wi (by first | decide | omega) (x_wi (by first | decide | omega) x_wn))) x_wn (by decide) rfl (c255_75 hJ  (by first | decide | omega) (by first | decide | omega)) (fun v100 l101 q102 => ?_)
  refine x_ifz (k := 0) (tg := 106) (np := 102) (by decide +kernel) (by decide) l101 (fun q103 => ?_) (fun q104 => ?_)
  · have q103 : v100 = 2147483648 := q103
    refine x_const (np := 107) (x := 9223372039002259456) (a := 2147483648) (by decide +kernel) (by decide) (by decide) ?_
    refine x_retI (np := 108) (x := 0) (by decide +kernel) (by decide) (Or.inr ⟨by decide +kernel, by first | decide | omega, by first | decide | omega⟩) ⟨_, rfl, (by decide), ?_⟩
    exact ⟨rfl, (by first | decide | omega)⟩
  have q104 : ¬ (v100 = 2147483648) := q104
  refine x_const (np := 103) (x := 9223372043297226753) (a := 2147483649) (by decide +kernel) (by decide) (by decide) ?_
  refine x_goto (np := 106) (x := 107) (by decide +kernel) ?_
  refine x_retI (np := 108) (x := 0) (by decide +kernel) (by decide) (Or.inr ⟨by decide +kernel, by first | decide | omega, by first | decide | omega⟩) ⟨_, rfl, (by decide), ?_⟩
  exact ⟨rfl, (by first | decide | omega)⟩
set_option maxHeartbeats 0 in
/-- LentNamesModel.nextOf(I)I -/
theorem c257_75_c1 {sc : Nat × Nat} {d  : Nat} {h : xh} (hJ : J h) (hr0 : 2147483648 ≤ (h 94 1)) : X sc 257 (d + 4) (xI fun r h' => h' = h ∧ (2147483647 ≤ r ∧ r ≤ 2147488831)) 0 0 0 [x_r 75, iv_c 2147483649, 147573952589676412928] [] h := by
  have b1 := jB (e := 1) 1 hJ rg_94_0_1_6 (by first | decide | omega) (by first | decide | omega)
  refine x_aload (np := 1) (x := 0) (by decide +kernel) rfl (x_nc_le (by decide)) ?_
  have q2 : h 75 27 = 93 := by have z := jB (e := 27) 0 hJ rg_75_27_0_1 (by decide) (by decide); omega
  refine x_getR (np := 4) (x := 731) (f := 27) (q := 93) (by decide +kernel) (by decide) (by decide +kernel) q2 ?_
  refine x_iload (np := 5) (x := 1) (by decide +kernel) rfl (by decide) ?_
  have b3 := jB (e := 1) 1 hJ rg_93_0_1_6 (by first | decide | omega) (by first | decide | omega)
  refine x_aldC (np := 6) (x := 0) (n := 6) (i := 1) (q := (h 93 1)) (by decide +kernel) (by decide +kernel) (by first | decide | omega) (by first | decide | omega) (by decide) rfl (fun l4 => ?_)
  refine x_const (np := 7) (x := 9223372043297226753) (a := 2147483649) (by decide +kernel) (by decide) (by decide) ?_
  refine x_iadd (np := 8) (x := 0) (v := (1 + (h 93 1))) (by decide +kernel) l4 (by decide) (by first | decide | omega) (by first | decide | omega) ?_
  refine x_istore (np := 9) (x := 2) (lo' := [x_r 75, iv_c 2147483649, iv_c (1 + (h 93 1))]) (by decide +kernel) (by first | decide | omega) (Nat.le_of_ble_eq_true rfl) rfl ?_
  have p21 : ∀ (n : Nat) (v19 : Nat), 4294967296 - v19 < n → (2147483648 ≤ v19 ∧ v19 ≤ 2147488832) → X sc 257 (d + 4) (xI fun r h' => h' = h ∧ (2147483647 ≤ r ∧ r ≤ 2147488831)) 0 0 9 [x_r 75, iv_c 2147483649, iv_c v19] [] h := by
    intro n
    induction n with
    | zero => intro v19 q22; exact absurd q22 (Nat.not_lt_zero _)
    | succ n i23 =>
      intro v19 q22 b20
      refine x_iload (np := 10) (x := 2) (by decide +kernel) rfl (by first | decide | omega) ?_
      refine x_const (np := 13) (x := 9223394304112727104) (a := 2147488832) (by decide +kernel) (by decide) (by decide) ?_
      refine x_icmp (k := 3) (tg := 39) (np := 16) (by decide +kernel) (by decide) (by first | decide | omega) (by decide) (fun q24 => ?_) (fun q25 => ?_)
      · have q24 : 2147488832 ≤ v19 := q24
        refine x_iload (np := 40) (x := 2) (by decide +kernel) rfl (by first | decide | omega) ?_
        refine x_const (np := 43) (x := 9223394304112727104) (a := 2147488832) (by decide +kernel) (by decide) (by decide) ?_
        refine x_icmp (k := 3) (tg := 50) (np := 46) (by decide +kernel) (by decide) (by first | decide | omega) (by decide) (fun q26 => ?_) (fun q27 => ?_)
        · have q26 : 2147488832 ≤ v19 := q26
          refine x_const (np := 51) (x := 9223372034707292159) (a := 2147483647) (by decide +kernel) (by decide) (by decide) ?_
          refine x_retI (np := 52) (x := 0) (by decide +kernel) (by decide) (Or.inl (by decide +kernel)) ⟨_, rfl, (by decide), ?_⟩
          exact ⟨rfl, (by first | decide | omega)⟩
        have q27 : ¬ (2147488832 ≤ v19) := q27
        exfalso; omega
      have q25 : ¬ (2147488832 ≤ v19) := q25
      refine x_aload (np := 17) (x := 0) (by decide +kernel) rfl (x_nc_le (by decide)) ?_
      refine x_iload (np := 18) (x := 1) (by decide +kernel) rfl (by decide) ?_
      refine x_iload (np := 19) (x := 2) (by decide +kernel) rfl (by first | decide | omega) ?_
      refine x_cP (t := 6) (mj := 256) (n := 3) (rc := 12) (ml := 8) (nr := 0) (np := 22) (as := [x_r 75, iv_c 2147483649, iv_c v19]) (rest := []) (lo1 := [x_r 75, iv_c 2147483649, iv_c v19, 147573952589676412928, 147573952589676412928, 147573952589676412928, 147573952589676412928, 147573952589676412928]) (by decide +kernel) (by decide) (by decide +kernel) (x_rb_of (by decide +kernel)) rfl rfl (x_wr (by decide) (x_wi (by decide) (x_wi (by first | decide | omega) x_wn))) x_wn (by decide) rfl (c256_75_c1 hJ   (by first | decide | omega) (by first | decide | omega)) (fun v28 l29 q30 => ?_)
      refine x_ifz (k := 0) (tg := 33) (np := 25) (by decide +kernel) (by decide) l29 (fun q31 => ?_) (fun q32 => ?_)
      · have q31 : v28 = 2147483648 := q31
        refine x_iinc (np := 36) (i := 2) (j := 2147483649) (v := (1 + v19)) (lo' := [x_r 75, iv_c 2147483649, iv_c (1 + v19)]) (by decide +kernel) (by decide) (by decide) rfl (by first | decide | omega) (by first | decide | omega) (by first | decide | omega) rfl ?_
        refine x_goto (np := 39) (x := 9) (by decide +kernel) ?_
        exact i23 (1 + v19) (by first | decide | omega) (by first | decide | omega)
      have q32 : ¬ (v28 = 2147483648) := q32
      refine x_aload (np := 26) (x := 0) (by decide +kernel) rfl (x_nc_le (by decide)) ?_
      refine x_iload (np := 27) (x := 2) (by decide +kernel) rfl (by first | decide | omega) ?_
      refine x_cP (t := 6) (mj := 247) (n := 2) (rc := 12) (ml := 6) (nr := 0) (np := 30) (as := [x_r 75, iv_c v19]) (rest := []) (lo1 := [x_r 75, iv_c v19, 147573952589676412928, 147573952589676412928, 147573952589676412928, 147573952589676412928]) (by decide +kernel) (by decide) (by decide +kernel) (x_rb_of (by decide +kernel)) rfl rfl (x_wr (by decide) (x_wi (by first | decide | omega) x_wn)) x_wn (by decide) rfl (c247_75 hJ  (by first | decide | omega)) (fun v33 l34 q35 => ?_)
      refine x_ifz (k := 1) (tg := 39) (np := 33) (by decide +kernel) (by decide) l34 (fun q36 => ?_) (fun q37 => ?_)
      · have q36 : v33 ≠ 2147483648 := q36
        refine x_iload (np := 40) (x := 2) (by decide +kernel) rfl (by first | decide | omega) ?_
        refine x_const (np := 43) (x := 9223394304112727104) (a := 2147488832) (by decide +kernel) (by decide) (by decide) ?_
        refine x_icmp (k := 3) (tg := 50) (np := 46) (by decide +kernel) (by decide) (by first | decide | omega) (by decide) (fun q38 => ?_) (fun q39 => ?_)
        · have q38 : 2147488832 ≤ v19 := q38
          exfalso; omega
        have q39 : ¬ (2147488832 ≤ v19) := q39
        refine x_iload (np := 47) (x := 2) (by decide +kernel) rfl (by first | decide | omega) ?_
        refine x_goto (np := 50) (x := 51) (by decide +kernel) ?_
        refine x_retI (np := 52) (x := 0) (by decide +kernel) (by first | decide | omega) (Or.inl (by decide +kernel)) ⟨_, rfl, (by first | decide | omega), ?_⟩
        exact ⟨rfl, (by first | decide | omega)⟩
      have q37 : ¬ (v33 ≠ 2147483648) := q37
      refine x_iinc (np := 36) (i := 2) (j := 2147483649) (v := (1 + v19)) (lo' := [x_r 75, iv_c 2147483649, iv_c (1 + v19)]) (by decide +kernel) (by decide) (by decide) rfl (by first | decide | omega) (by first | decide | omega) (by first | decide | omega) rfl ?_
      refine x_goto (np := 39) (x := 9) (by decide +kernel) ?_
      exact i23 (1 + v19) (by first | decide | omega) (by first | decide | omega)
  exact p21 _ (1 + (h 93 1)) (Nat.lt_succ_self _) (by first | decide | omega)
set_option maxHeartbeats 0 in
/-- LentNamesModel.goes(I)Z -/
theorem c259_75_c2 {sc : Nat × Nat} {d  : Nat} {h : xh} (hJ : J h) (hr0 : (h 75 30) ≤ 2147503648) : X sc 259 (d + 5) (xI fun r h' => J h' ∧ Fr 39376260300801 h h' ∧ (2147483648 ≤ r ∧ r ≤ 2147483649) ∧ (r = 2147483649 → h' 75 30 ≤ 2147503648)) 0 0 0 [x_r 75, iv_c 2147483650, 147573952589676412928, 147573952589676412928, 147573952589676412928, 147573952589676412928] [] h := by
  have hF := Fr.refl 39376260300801 h
  have b1 := jB (e := 30) 0 hJ rg_75_30_0_1 (by first | decide | omega) (by first | decide | omega)
  refine x_aload (np := 1) (x := 0) (by decide +kernel) rfl (x_nc_le (by decide)) ?_
  refine x_const (np := 2) (x := 9223372039002259456) (a := 2147483648) (by decide +kernel) (by decide) (by decide) ?_
  refine x_putI (np := 5) (x := 738) (f := 34) (by decide +kernel) (by decide +kernel) (by decide) (Or.inl (by decide)) ?_
  have j3 := jU (e := 34) (v := 2147483648) 0 hJ rg_75_34_0_1 (by first | decide | omega) (by first | decide | omega) (by first | decide | omega)
  have f5 := jF (e := 34) (v := 2147483648) 0 hF rg_75_34_0_1 (by first | decide | omega) (by first | decide | omega) (by decide)
  generalize e4 : x_up h 75 34 2147483648 = h2 at j3 f5 ⊢
  refine x_const (np := 6) (x := 9223372039002259456) (a := 2147483648) (by decide +kernel) (by decide) (by decide) ?_
  refine x_istore (np := 7) (x := 2) (lo' := [x_r 75, iv_c 2147483650, iv_c 2147483648, 147573952589676412928, 147573952589676412928, 147573952589676412928]) (by decide +kernel) (by decide) (Nat.le_of_ble_eq_true rfl) rfl ?_
  refine x_const (np := 8) (x := 9223372039002259456) (a := 2147483648) (by decide +kernel) (by decide) (by decide) ?_
  refine x_istore (np := 9) (x := 3) (lo' := [x_r 75, iv_c 2147483650, iv_c 2147483648, iv_c 2147483648, 147573952589676412928, 147573952589676412928]) (by decide +kernel) (by decide) (Nat.le_of_ble_eq_true rfl) rfl ?_
  refine x_const (np := 10) (x := 9223372043297226753) (a := 2147483649) (by decide +kernel) (by decide) (by decide) ?_
  refine x_istore (np := 12) (x := 4) (lo' := [x_r 75, iv_c 2147483650, iv_c 2147483648, iv_c 2147483648, iv_c 2147483649, 147573952589676412928]) (by decide +kernel) (by decide) (Nat.le_of_ble_eq_true rfl) rfl ?_
  have p1803 : ∀ (n : Nat), (∀ (w1805 : Nat) (w1806 : Nat) (h1807 : xh), 16 * (4294967296 - h1807 75 30) + 1 < n → J h1807 → Fr 39376260300801 h2 h1807 → (2147483648 ≤ h1807 75 30 ∧ h1807 75 30 ≤ 2147503648) → X sc 259 (d + 5) (xI fun r h' => J h' ∧ Fr 39376260300801 h h' ∧ (2147483648 ≤ r ∧ r ≤ 2147483649) ∧ (r = 2147483649 → h' 75 30 ≤ 2147503648)) 0 0 12 [x_r 75, iv_c 2147483650, iv_c 2147483648, w1805, iv_c 2147483649, w1806] [] h1807) ∧ (∀ (w1811 : Nat) (w1812 : Nat) (h1813 : xh), 16 * (4294967296 - h1813 75 30) + 2 < n → J h1813 → Fr 39376260300801 h2 h1813 → (2147483648 ≤ h1813 75 30 ∧ h1813 75 30 ≤ 2147503648) → X sc 259 (d + 5) (xI fun r h' => J h' ∧ Fr 39376260300801 h h' ∧ (2147483648 ≤ r ∧ r ≤ 2147483649) ∧ (r = 2147483649 → h' 75 30 ≤ 2147503648)) 0 0 12 [x_r 75, iv_c 2147483650, iv_c 2147483649, w1811, iv_c 2147483649, w1812] [] h1813) ∧ (∀ (w1817 : Nat) (w1818 : Nat) (h1819 : xh), 16 * (4294967296 - h1819 75 30) + 3 < n → J h1819 → Fr 39376260300801 h2 h1819 → (2147483648 ≤ h1819 75 30 ∧ h1819 75 30 ≤ 2147503648) → X sc 259 (d + 5) (xI fun r h' => J h' ∧ Fr 39376260300801 h h' ∧ (2147483648 ≤ r ∧ r ≤ 2147483649) ∧ (r = 2147483649 → h' 75 30 ≤ 2147503648)) 0 0 12 [x_r 75, iv_c 2147483650, iv_c 2147483650, w1817, iv_c 2147483649, w1818] [] h1819) ∧ (∀ (w1823 : Nat) (w1824 : Nat) (h1825 : xh), 16 * (4294967296 - h1825 75 30) + 4 < n → J h1825 → Fr 39376260300801 h2 h1825 → (2147483648 ≤ h1825 75 30 ∧ h1825 75 30 ≤ 2147503648) → X sc 259 (d + 5) (xI fun r h' => J h' ∧ Fr 39376260300801 h h' ∧ (2147483648 ≤ r ∧ r ≤ 2147483649) ∧ (r = 2147483649 → h' 75 30 ≤ 2147503648)) 0 0 12 [x_r 75, iv_c 2147483650, iv_c 2147483647, w1823, iv_c 2147483648, w1824] [] h1825) ∧ (∀ (w1829 : Nat) (w1830 : Nat) (h1831 : xh), 16 * (4294967296 - h1831 75 30) + 5 < n → J h1831 → Fr 39376260300801 h2 h1831 → (2147483648 ≤ h1831 75 30 ∧ h1831 75 30 ≤ 2147503648) → X sc 259 (d + 5) (xI fun r h' => J h' ∧ Fr 39376260300801 h h' ∧ (2147483648 ≤ r ∧ r ≤ 2147483649) ∧ (r = 2147483649 → h' 75 30 ≤ 2147503648)) 0 0 12 [x_r 75, iv_c 2147483650, iv_c 2147483648, w1829, iv_c 2147483648, w1830] [] h1831) ∧ (∀ (w1835 : Nat) (w1836 : Nat) (h1837 : xh), 16 * (4294967296 - h1837 75 30) + 6 < n → J h1837 → Fr 39376260300801 h2 h1837 → (2147483648 ≤ h1837 75 30 ∧ h1837 75 30 ≤ 2147503648) → X sc 259 (d + 5) (xI fun r h' => J h' ∧ Fr 39376260300801 h h' ∧ (2147483648 ≤ r ∧ r ≤ 2147483649) ∧ (r = 2147483649 → h' 75 30 ≤ 2147503648)) 0 0 12 [x_r 75, iv_c 2147483650, iv_c 2147483649, w1835, iv_c 2147483648, w1836] [] h1837) := by
    intro n
    induction n with
    | zero => exact ⟨fun _ _ _ z => absurd z (Nat.not_lt_zero _), fun _ _ _ z => absurd z (Nat.not_lt_zero _), fun _ _ _ z => absurd z (Nat.not_lt_zero _), fun _ _ _ z => absurd z (Nat.not_lt_zero _), fun _ _ _ z => absurd z (Nat.not_lt_zero _), fun _ _ _ z => absurd z (Nat.not_lt_zero _)⟩
    | succ n i1804 =>
      obtain ⟨i1841, i1842, i1843, i1844, i1845, i1846⟩ := i1804
      refine ⟨?_, ?_, ?_, ?_, ?_, ?_⟩
      · intro w1805 w1806 h1807 q1847 j1810 f1809 b1808
        have f1848 := Fr.trans f5 f1809 (by decide)
        refine x_iload (np := 13) (x := 2) (by decide +kernel) rfl (by decide) ?_
        refine x_ifz (k := 2) (tg := 186) (np := 16) (by decide +kernel) (by decide) (by decide) (fun q1849 => ?_) (fun q1850 => ?_)
        · have q1849 : 2147483648 < 2147483648 := q1849
          exfalso; omega
        have q1850 : ¬ (2147483648 < 2147483648) := q1850
        refine x_iload (np := 18) (x := 4) (by decide +kernel) rfl (by decide) ?_
        refine x_ifz (k := 0) (tg := 102) (np := 21) (by decide +kernel) (by decide) (by decide) (fun q1851 => ?_) (fun q1852 => ?_)
        · have q1851 : 2147483649 = 2147483648 := q1851
          exfalso; omega
        have q1852 : ¬ (2147483649 = 2147483648) := q1852
        refine x_aload (np := 22) (x := 0) (by decide +kernel) rfl (x_nc_le (by decide)) ?_
        refine x_dup (np := 23) (x := 0) (by decide +kernel) (by have z := x_nc_le (k := 75) (by decide); unfold x_r; omega) ?_
        refine x_getC (np := 26) (x := 734) (f := 30) (q := (h1807 75 30)) (by decide +kernel) (by decide) (by decide +kernel) rfl (fun l1853 => ?_)
        refine x_const (np := 27) (x := 9223372043297226753) (a := 2147483649) (by decide +kernel) (by decide) (by decide) ?_
        refine x_iadd (np := 28) (x := 0) (v := (1 + (h1807 75 30))) (by decide +kernel) l1853 (by decide) (by first | decide | omega) (by first | decide | omega) ?_
        refine x_putI (np := 31) (x := 734) (f := 30) (by decide +kernel) (by decide +kernel) (by first | decide | omega) (Or.inl (by decide)) ?_
        have j1855 := jU (e := 30) (v := (1 + (h1807 75 30))) 0 j1810 rg_75_30_0_1 (by first | decide | omega) (by first | decide | omega) (by first | decide | omega)
        have f1857 := jF (e := 30) (v := (1 + (h1807 75 30))) 0 f1848 rg_75_30_0_1 (by first | decide | omega) (by first | decide | omega) (by decide)
        have f1858 := jF (e := 30) (v := (1 + (h1807 75 30))) 0 f1809 rg_75_30_0_1 (by first | decide | omega) (by first | decide | omega) (by decide)
        generalize e1856 : x_up h1807 75 30 (1 + (h1807 75 30)) = h1854 at j1855 f1857 f1858 ⊢
        refine x_aload (np := 32) (x := 0) (by decide +kernel) rfl (x_nc_le (by decide)) ?_
        have q1859 : h1854 75 30 = (1 + (h1807 75 30)) := by rw [← e1856]; exact x_up_at
        refine x_getC (np := 35) (x := 734) (f := 30) (q := (1 + (h1807 75 30))) (by decide +kernel) (by decide) (by decide +kernel) q1859 (fun l1860 => ?_)
        refine x_const (np := 38) (x := 9223457938348199456) (a := 2147503648) (by decide +kernel) (by decide) (by decide) ?_
        refine x_icmp (k := 5) (tg := 43) (np := 41) (by decide +kernel) (by decide) (by first | decide | omega) (by decide) (fun q1861 => ?_) (fun q1862 => ?_)
        · have q1861 : (1 + (h1807 75 30)) ≤ 2147503648 := q1861
          refine x_aload (np := 44) (x := 0) (by decide +kernel) rfl (x_nc_le (by decide)) ?_
          refine x_iload (np := 45) (x := 2) (by decide +kernel) rfl (by decide) ?_
          refine x_cI (t := 6) (mj := 254) (n := 2) (rc := 12) (ml := 4) (nr := 0) (np := 48) (as := [x_r 75, iv_c 2147483648]) (rest := []) (lo1 := [x_r 75, iv_c 2147483648, 147573952589676412928, 147573952589676412928]) (by decide +kernel) (by decide) (by decide +kernel) (x_rb_of (by decide +kernel)) rfl rfl (x_wr (by decide) (x_wi (by decide) x_wn)) x_wn (by decide) rfl (c254_75 j1855  (by first | decide | omega)) (fun v1863 h1866 l1864 q1865 => ?_)
          obtain ⟨j1867, f1868, b1869⟩ := q1865
          have f1870 := Fr.trans f1857 f1868 (by decide)
          have f1871 := Fr.trans f1858 f1868 (by decide)
          refine x_istore (np := 49) (x := 3) (lo' := [x_r 75, iv_c 2147483650, iv_c 2147483648, iv_c v1863, iv_c 2147483649, w1806]) (by decide +kernel) l1864 (Nat.le_of_ble_eq_true rfl) rfl ?_
          refine x_iload (np := 50) (x := 3) (by decide +kernel) rfl l1864 ?_
          refine x_const (np := 51) (x := 9223372043297226753) (a := 2147483649) (by decide +kernel) (by decide) (by decide) ?_
          refine x_icmp (k := 1) (tg := 85) (np := 54) (by decide +kernel) (by decide) l1864 (by decide) (fun q1872 => ?_) (fun q1873 => ?_)
          · have q1872 : v1863 ≠ 2147483649 := q1872
            refine x_iload (np := 86) (x := 3) (by decide +kernel) rfl l1864 ?_
            refine x_const (np := 87) (x := 9223372043297226753) (a := 2147483649) (by decide +kernel) (by decide) (by decide) ?_
            refine x_icmp (k := 0) (tg := 95) (np := 90) (by decide +kernel) (by decide) l1864 (by decide) (fun q1874 => ?_) (fun q1875 => ?_)
            · have q1874 : v1863 = 2147483649 := q1874
              exfalso; omega
            have q1875 : ¬ (v1863 = 2147483649) := q1875
            refine x_iload (np := 91) (x := 2) (by decide +kernel) rfl (by decide) ?_
            refine x_iload (np := 92) (x := 1) (by decide +kernel) rfl (by decide) ?_
            refine x_icmp (k := 1) (tg := 102) (np := 95) (by decide +kernel) (by decide) (by decide) (by decide) (fun q1876 => ?_) (fun q1877 => ?_)
            · have q1876 : 2147483648 ≠ 2147483650 := q1876
              refine x_aload (np := 103) (x := 0) (by decide +kernel) rfl (x_nc_le (by decide)) ?_
              have q1878 : h1866 75 27 = 93 := by have z := jB (e := 27) 0 j1867 rg_75_27_0_1 (by decide) (by decide); omega
              refine x_getR (np := 106) (x := 731) (f := 27) (q := 93) (by decide +kernel) (by decide) (by decide +kernel) q1878 ?_
              refine x_iload (np := 107) (x := 2) (by decide +kernel) rfl (by decide) ?_
              have b1879 := jB (e := 0) 0 j1867 rg_93_0_1_6 (by first | decide | omega) (by first | decide | omega)
              refine x_aldC (np := 108) (x := 0) (n := 6) (i := 0) (q := (h1866 93 0)) (by decide +kernel) (by decide +kernel) (by first | decide | omega) (by first | decide | omega) (by decide) rfl (fun l1880 => ?_)
              refine x_ifz (k := 2) (tg := 122) (np := 111) (by decide +kernel) (by decide) l1880 (fun q1881 => ?_) (fun q1882 => ?_)
              · have q1881 : (h1866 93 0) < 2147483648 := q1881
                refine x_aload (np := 123) (x := 0) (by decide +kernel) rfl (x_nc_le (by decide)) ?_
                have q1883 : h1866 75 28 = 94 := by have z := jB (e := 28) 0 j1867 rg_75_28_0_1 (by decide) (by decide); omega
                refine x_getR (np := 126) (x := 732) (f := 28) (q := 94) (by decide +kernel) (by decide) (by decide +kernel) q1883 ?_
                refine x_iload (np := 127) (x := 2) (by decide +kernel) rfl (by decide) ?_
                have b1884 := jB (e := 0) 0 j1867 rg_94_0_1_6 (by first | decide | omega) (by first | decide | omega)
                refine x_aldC (np := 128) (x := 0) (n := 6) (i := 0) (q := (h1866 94 0)) (by decide +kernel) (by decide +kernel) (by first | decide | omega) (by first | decide | omega) (by decide) rfl (fun l1885 => ?_)
                refine x_ifz (k := 3) (tg := 135) (np := 131) (by decide +kernel) (by decide) l1885 (fun q1886 => ?_) (fun q1887 => ?_)
                · have q1886 : 2147483648 ≤ (h1866 94 0) := q1886
                  refine x_aload (np := 136) (x := 0) (by decide +kernel) rfl (x_nc_le (by decide)) ?_
                  refine x_iload (np := 137) (x := 2) (by decide +kernel) rfl (by decide) ?_
                  refine x_cP (t := 6) (mj := 257) (n := 2) (rc := 12) (ml := 3) (nr := 0) (np := 140) (as := [x_r 75, iv_c 2147483648]) (rest := []) (lo1 := [x_r 75, iv_c 2147483648, 147573952589676412928]) (by decide +kernel) (by decide) (by decide +kernel) (x_rb_of (by decide +kernel)) rfl rfl (x_wr (by decide) (x_wi (by decide) x_wn)) x_wn (by decide) rfl (c257_75_c0 j1867   (by first | decide | omega)) (fun v1888 l1889 q1890 => ?_)
                  refine x_istore (np := 142) (x := 5) (lo' := [x_r 75, iv_c 2147483650, iv_c 2147483648, iv_c v1863, iv_c 2147483649, iv_c v1888]) (by decide +kernel) l1889 (Nat.le_of_ble_eq_true rfl) rfl ?_
                  refine x_iload (np := 144) (x := 5) (by decide +kernel) rfl l1889 ?_
                  refine x_ifz (k := 2) (tg := 151) (np := 147) (by decide +kernel) (by decide) l1889 (fun q1891 => ?_) (fun q1892 => ?_)
                  · have q1891 : v1888 < 2147483648 := q1891
                    refine x_const (np := 152) (x := 9223372039002259456) (a := 2147483648) (by decide +kernel) (by decide) (by decide) ?_
                    refine x_istore (np := 154) (x := 4) (lo' := [x_r 75, iv_c 2147483650, iv_c 2147483648, iv_c v1863, iv_c 2147483648, iv_c v1888]) (by decide +kernel) (by decide) (Nat.le_of_ble_eq_true rfl) rfl ?_
                    refine x_iload (np := 156) (x := 4) (by decide +kernel) rfl (by decide) ?_
                    refine x_ifz (k := 0) (tg := 180) (np := 159) (by decide +kernel) (by decide) (by decide) (fun q1893 => ?_) (fun q1894 => ?_)
                    · have q1893 : 2147483648 = 2147483648 := q1893
                      refine x_iinc (np := 183) (i := 2) (j := 2147483647) (v := 2147483647) (lo' := [x_r 75, iv_c 2147483650, iv_c 2147483647, iv_c v1863, iv_c 2147483648, iv_c v1888]) (by decide +kernel) (by decide) (by decide) rfl (by decide) (by first | decide | omega) (by first | decide | omega) rfl ?_
                      refine x_goto (np := 186) (x := 12) (by decide +kernel) ?_
                      have q1895 : h1866 75 30 = h1854 75 30 := jK 0 f1868 rg_75_30_0_1 (by first | decide | omega) (by first | decide | omega) (by decide)
                      have q1896 : h1854 75 30 = (1 + (h1807 75 30)) := by rw [← e1856]; exact x_up_at
                      exact i1844 (iv_c v1863) (iv_c v1888) h1866 (by first | decide | omega) j1867 f1871 (by first | decide | omega)
                    have q1894 : ¬ (2147483648 = 2147483648) := q1894
                    exfalso; omega
                  have q1892 : ¬ (v1888 < 2147483648) := q1892
                  refine x_const (np := 148) (x := 9223372043297226753) (a := 2147483649) (by decide +kernel) (by decide) (by decide) ?_
                  refine x_goto (np := 151) (x := 152) (by decide +kernel) ?_
                  refine x_istore (np := 154) (x := 4) (lo' := [x_r 75, iv_c 2147483650, iv_c 2147483648, iv_c v1863, iv_c 2147483649, iv_c v1888]) (by decide +kernel) (by decide) (Nat.le_of_ble_eq_true rfl) rfl ?_
                  refine x_iload (np := 156) (x := 4) (by decide +kernel) rfl (by decide) ?_
                  refine x_ifz (k := 0) (tg := 180) (np := 159) (by decide +kernel) (by decide) (by decide) (fun q1897 => ?_) (fun q1898 => ?_)
                  · have q1897 : 2147483649 = 2147483648 := q1897
                    exfalso; omega
                  have q1898 : ¬ (2147483649 = 2147483648) := q1898
                  refine x_aload (np := 160) (x := 0) (by decide +kernel) rfl (x_nc_le (by decide)) ?_
                  have q1899 : h1866 75 27 = 93 := by have z := jB (e := 27) 0 j1867 rg_75_27_0_1 (by decide) (by decide); omega
                  refine x_getR (np := 163) (x := 731) (f := 27) (q := 93) (by decide +kernel) (by decide) (by decide +kernel) q1899 ?_
                  refine x_iload (np := 164) (x := 2) (by decide +kernel) rfl (by decide) ?_
                  refine x_iload (np := 166) (x := 5) (by decide +kernel) rfl l1889 ?_
                  refine x_ast (np := 167) (x := 0) (kd := 1) (n := 6) (i := 0) (by decide +kernel) (Or.inl rfl) (by decide +kernel) (by first | decide | omega) (by first | decide | omega) (by decide) l1889 (fun z => absurd z (by decide)) ?_
                  have j1901 := jU (e := 0) (v := v1888) 0 j1867 rg_93_0_1_6 (by first | decide | omega) (by first | decide | omega) (by first | decide | omega)
                  have f1903 := jF (e := 0) (v := v1888) 0 f1870 rg_93_0_1_6 (by first | decide | omega) (by first | decide | omega) (by decide)
                  have f1904 := jF (e := 0) (v := v1888) 0 f1871 rg_93_0_1_6 (by first | decide | omega) (by first | decide | omega) (by decide)
                  generalize e1902 : x_up h1866 93 0 v1888 = h1900 at j1901 f1903 f1904 ⊢
                  refine x_aload (np := 168) (x := 0) (by decide +kernel) rfl (x_nc_le (by decide)) ?_
                  refine x_iload (np := 170) (x := 5) (by decide +kernel) rfl l1889 ?_
                  refine x_const (np := 171) (x := 9223372043297226753) (a := 2147483649) (by decide +kernel) (by decide) (by decide) ?_
                  refine x_cV (t := 6) (mj := 248) (n := 3) (rc := 12) (ml := 4) (nr := 0) (np := 174) (as := [x_r 75, iv_c v1888, iv_c 2147483649]) (rest := []) (lo1 := [x_r 75, iv_c v1888, iv_c 2147483649, 147573952589676412928]) (by decide +kernel) (by decide) (by decide +kernel) (x_rb_of (by decide +kernel)) rfl rfl (x_wr (by decide) (x_wi l1889 (x_wi (by decide) x_wn))) x_wn (by decide) rfl (c248_75 j1901  (by first | decide | omega) (by first | decide | omega)) (fun h1908 q1907 => ?_)
                  obtain ⟨j1909, f1910⟩ := q1907
                  have f1913 := Fr.trans f1903 f1910 (by decide)
                  have f1914 := Fr.trans f1904 f1910 (by decide)
                  refine x_iinc (np := 177) (i := 2) (j := 2147483649) (v := 2147483649) (lo' := [x_r 75, iv_c 2147483650, iv_c 2147483649, iv_c v1863, iv_c 2147483649, iv_c v1888]) (by decide +kernel) (by decide) (by decide) rfl (by decide) (by first | decide | omega) (by first | decide | omega) rfl ?_
                  refine x_goto (np := 180) (x := 183) (by decide +kernel) ?_
                  refine x_goto (np := 186) (x := 12) (by decide +kernel) ?_
                  have q1915 : h1908 75 30 = h1900 75 30 := jK 0 f1910 rg_75_30_0_1 (by first | decide | omega) (by first | decide | omega) (by decide)
                  have q1916 : h1900 75 30 = h1866 75 30 := by rw [← e1902]; exact x_up_k (by decide)
                  have q1917 : h1866 75 30 = h1854 75 30 := jK 0 f1868 rg_75_30_0_1 (by first | decide | omega) (by first | decide | omega) (by decide)
                  have q1918 : h1854 75 30 = (1 + (h1807 75 30)) := by rw [← e1856]; exact x_up_at
                  exact i1842 (iv_c v1863) (iv_c v1888) h1908 (by first | decide | omega) j1909 f1914 (by first | decide | omega)
                have q1887 : ¬ (2147483648 ≤ (h1866 94 0)) := q1887
                refine x_const (np := 132) (x := 9223372034707292159) (a := 2147483647) (by decide +kernel) (by decide) (by decide) ?_
                refine x_goto (np := 135) (x := 140) (by decide +kernel) ?_
                refine x_istore (np := 142) (x := 5) (lo' := [x_r 75, iv_c 2147483650, iv_c 2147483648, iv_c v1863, iv_c 2147483649, iv_c 2147483647]) (by decide +kernel) (by decide) (Nat.le_of_ble_eq_true rfl) rfl ?_
                refine x_iload (np := 144) (x := 5) (by decide +kernel) rfl (by decide) ?_
                refine x_ifz (k := 2) (tg := 151) (np := 147) (by decide +kernel) (by decide) (by decide) (fun q1919 => ?_) (fun q1920 => ?_)
                · have q1919 : 2147483647 < 2147483648 := q1919
                  refine x_const (np := 152) (x := 9223372039002259456) (a := 2147483648) (by decide +kernel) (by decide) (by decide) ?_
                  refine x_istore (np := 154) (x := 4) (lo' := [x_r 75, iv_c 2147483650, iv_c 2147483648, iv_c v1863, iv_c 2147483648, iv_c 2147483647]) (by decide +kernel) (by decide) (Nat.le_of_ble_eq_true rfl) rfl ?_
                  refine x_iload (np := 156) (x := 4) (by decide +kernel) rfl (by decide) ?_
                  refine x_ifz (k := 0) (tg := 180) (np := 159) (by decide +kernel) (by decide) (by decide) (fun q1921 => ?_) (fun q1922 => ?_)
                  · have q1921 : 2147483648 = 2147483648 := q1921
                    refine x_iinc (np := 183) (i := 2) (j := 2147483647) (v := 2147483647) (lo' := [x_r 75, iv_c 2147483650, iv_c 2147483647, iv_c v1863, iv_c 2147483648, iv_c 2147483647]) (by decide +kernel) (by decide) (by decide) rfl (by decide) (by first | decide | omega) (by first | decide | omega) rfl ?_
                    refine x_goto (np := 186) (x := 12) (by decide +kernel) ?_
                    have q1923 : h1866 75 30 = h1854 75 30 := jK 0 f1868 rg_75_30_0_1 (by first | decide | omega) (by first | decide | omega) (by decide)
                    have q1924 : h1854 75 30 = (1 + (h1807 75 30)) := by rw [← e1856]; exact x_up_at
                    exact i1844 (iv_c v1863) (iv_c 2147483647) h1866 (by first | decide | omega) j1867 f1871 (by first | decide | omega)
                  have q1922 : ¬ (2147483648 = 2147483648) := q1922
                  exfalso; omega
                have q1920 : ¬ (2147483647 < 2147483648) := q1920
                exfalso; omega
              have q1882 : ¬ ((h1866 93 0) < 2147483648) := q1882
              refine x_aload (np := 112) (x := 0) (by decide +kernel) rfl (x_nc_le (by decide)) ?_
              refine x_aload (np := 113) (x := 0) (by decide +kernel) rfl (x_nc_le (by decide)) ?_
              have q1925 : h1866 75 27 = 93 := by have z := jB (e := 27) 0 j1867 rg_75_27_0_1 (by decide) (by decide); omega
              refine x_getR (np := 116) (x := 731) (f := 27) (q := 93) (by decide +kernel) (by decide) (by decide +kernel) q1925 ?_
              refine x_iload (np := 117) (x := 2) (by decide +kernel) rfl (by decide) ?_
              refine x_aldC (np := 118) (x := 0) (n := 6) (i := 0) (q := (h1866 93 0)) (by decide +kernel) (by decide +kernel) (by first | decide | omega) (by first | decide | omega) (by decide) rfl (fun l1926 => ?_)
              refine x_const (np := 119) (x := 9223372039002259456) (a := 2147483648) (by decide +kernel) (by decide) (by decide) ?_
              refine x_cV (t := 6) (mj := 248) (n := 3) (rc := 12) (ml := 4) (nr := 0) (np := 122) (as := [x_r 75, iv_c (h1866 93 0), iv_c 2147483648]) (rest := []) (lo1 := [x_r 75, iv_c (h1866 93 0), iv_c 2147483648, 147573952589676412928]) (by decide +kernel) (by decide) (by decide +kernel) (x_rb_of (by decide +kernel)) rfl rfl (x_wr (by decide) (x_wi l1880 (x_wi (by decide) x_wn))) x_wn (by decide) rfl (c248_75 j1867  (by first | decide | omega) (by first | decide | omega)) (fun h1930 q1929 => ?_)
              obtain ⟨j1931, f1932⟩ := q1929
              have f1935 := Fr.trans f1870 f1932 (by decide)
              have f1936 := Fr.trans f1871 f1932 (by decide)
              refine x_aload (np := 123) (x := 0) (by decide +kernel) rfl (x_nc_le (by decide)) ?_
              have q1937 : h1930 75 28 = 94 := by have z := jB (e := 28) 0 j1931 rg_75_28_0_1 (by decide) (by decide); omega
              refine x_getR (np := 126) (x := 732) (f := 28) (q := 94) (by decide +kernel) (by decide) (by decide +kernel) q1937 ?_
              refine x_iload (np := 127) (x := 2) (by decide +kernel) rfl (by decide) ?_
              have q1938 : h1930 94 0 = h1866 94 0 := jK 0 f1932 rg_94_0_1_6 (by first | decide | omega) (by first | decide | omega) (by decide)
              have b1939 := jB (e := 0) 0 j1867 rg_94_0_1_6 (by first | decide | omega) (by first | decide | omega)
              refine x_aldC (np := 128) (x := 0) (n := 6) (i := 0) (q := (h1866 94 0)) (by decide +kernel) (by decide +kernel) (by first | decide | omega) (by first | decide | omega) (by decide) q1938 (fun l1940 => ?_)
              refine x_ifz (k := 3) (tg := 135) (np := 131) (by decide +kernel) (by decide) l1940 (fun q1941 => ?_) (fun q1942 => ?_)
              · have q1941 : 2147483648 ≤ (h1866 94 0) := q1941
                refine x_aload (np := 136) (x := 0) (by decide +kernel) rfl (x_nc_le (by decide)) ?_
                refine x_iload (np := 137) (x := 2) (by decide +kernel) rfl (by decide) ?_
                have q1943 : h1930 94 0 = h1866 94 0 := jK 0 f1932 rg_94_0_1_6 (by first | decide | omega) (by first | decide | omega) (by decide)
                refine x_cP (t := 6) (mj := 257) (n := 2) (rc := 12) (ml := 3) (nr := 0) (np := 140) (as := [x_r 75, iv_c 2147483648]) (rest := []) (lo1 := [x_r 75, iv_c 2147483648, 147573952589676412928]) (by decide +kernel) (by decide) (by decide +kernel) (x_rb_of (by decide +kernel)) rfl rfl (x_wr (by decide) (x_wi (by decide) x_wn)) x_wn (by decide) rfl (c257_75_c0 j1931   (by first | decide | omega)) (fun v1944 l1945 q1946 => ?_)
                refine x_istore (np := 142) (x := 5) (lo' := [x_r 75, iv_c 2147483650, iv_c 2147483648, iv_c v1863, iv_c 2147483649, iv_c v1944]) (by decide +kernel) l1945 (Nat.le_of_ble_eq_true rfl) rfl ?_
                refine x_iload (np := 144) (x := 5) (by decide +kernel) rfl l1945 ?_
                refine x_ifz (k := 2) (tg := 151) (np := 147) (by decide +kernel) (by decide) l1945 (fun q1947 => ?_) (fun q1948 => ?_)
                · have q1947 : v1944 < 2147483648 := q1947
                  refine x_const (np := 152) (x := 9223372039002259456) (a := 2147483648) (by decide +kernel) (by decide) (by decide) ?_
                  refine x_istore (np := 154) (x := 4) (lo' := [x_r 75, iv_c 2147483650, iv_c 2147483648, iv_c v1863, iv_c 2147483648, iv_c v1944]) (by decide +kernel) (by decide) (Nat.le_of_ble_eq_true rfl) rfl ?_
                  refine x_iload (np := 156) (x := 4) (by decide +kernel) rfl (by decide) ?_
                  refine x_ifz (k := 0) (tg := 180) (np := 159) (by decide +kernel) (by decide) (by decide) (fun q1949 => ?_) (fun q1950 => ?_)
                  · have q1949 : 2147483648 = 2147483648 := q1949
                    refine x_iinc (np := 183) (i := 2) (j := 2147483647) (v := 2147483647) (lo' := [x_r 75, iv_c 2147483650, iv_c 2147483647, iv_c v1863, iv_c 2147483648, iv_c v1944]) (by decide +kernel) (by decide) (by decide) rfl (by decide) (by first | decide | omega) (by first | decide | omega) rfl ?_
                    refine x_goto (np := 186) (x := 12) (by decide +kernel) ?_
                    have q1951 : h1930 75 30 = h1866 75 30 := jK 0 f1932 rg_75_30_0_1 (by first | decide | omega) (by first | decide | omega) (by decide)
                    have q1952 : h1866 75 30 = h1854 75 30 := jK 0 f1868 rg_75_30_0_1 (by first | decide | omega) (by first | decide | omega) (by decide)
                    have q1953 : h1854 75 30 = (1 + (h1807 75 30)) := by rw [← e1856]; exact x_up_at
                    exact i1844 (iv_c v1863) (iv_c v1944) h1930 (by first | decide | omega) j1931 f1936 (by first | decide | omega)
                  have q1950 : ¬ (2147483648 = 2147483648) := q1950
                  exfalso; omega
                have q1948 : ¬ (v1944 < 2147483648) := q1948
                refine x_const (np := 148) (x := 9223372043297226753) (a := 2147483649) (by decide +kernel) (by decide) (by decide) ?_
                refine x_goto (np := 151) (x := 152) (by decide +kernel) ?_
                refine x_istore (np := 154) (x := 4) (lo' := [x_r 75, iv_c 2147483650, iv_c 2147483648, iv_c v1863, iv_c 2147483649, iv_c v1944]) (by decide +kernel) (by decide) (Nat.le_of_ble_eq_true rfl) rfl ?_
                refine x_iload (np := 156) (x := 4) (by decide +kernel) rfl (by decide) ?_
                refine x_ifz (k := 0) (tg := 180) (np := 159) (by decide +kernel) (by decide) (by decide) (fun q1954 => ?_) (fun q1955 => ?_)
                · have q1954 : 2147483649 = 2147483648 := q1954
                  exfalso; omega
                have q1955 : ¬ (2147483649 = 2147483648) := q1955
                refine x_aload (np := 160) (x := 0) (by decide +kernel) rfl (x_nc_le (by decide)) ?_
                have q1956 : h1930 75 27 = 93 := by have z := jB (e := 27) 0 j1931 rg_75_27_0_1 (by decide) (by decide); omega
                refine x_getR (np := 163) (x := 731) (f := 27) (q := 93) (by decide +kernel) (by decide) (by decide +kernel) q1956 ?_
                refine x_iload (np := 164) (x := 2) (by decide +kernel) rfl (by decide) ?_
                refine x_iload (np := 166) (x := 5) (by decide +kernel) rfl l1945 ?_
                refine x_ast (np := 167) (x := 0) (kd := 1) (n := 6) (i := 0) (by decide +kernel) (Or.inl rfl) (by decide +kernel) (by first | decide | omega) (by first | decide | omega) (by decide) l1945 (fun z => absurd z (by decide)) ?_
                have j1958 := jU (e := 0) (v := v1944) 0 j1931 rg_93_0_1_6 (by first | decide | omega) (by first | decide | omega) (by first | decide | omega)
                have f1960 := jF (e := 0) (v := v1944) 0 f1935 rg_93_0_1_6 (by first | decide | omega) (by first | decide | omega) (by decide)
                have f1961 := jF (e := 0) (v := v1944) 0 f1936 rg_93_0_1_6 (by first | decide | omega) (by first | decide | omega) (by decide)
                generalize e1959 : x_up h1930 93 0 v1944 = h1957 at j1958 f1960 f1961 ⊢
                refine x_aload (np := 168) (x := 0) (by decide +kernel) rfl (x_nc_le (by decide)) ?_
                refine x_iload (np := 170) (x := 5) (by decide +kernel) rfl l1945 ?_
                refine x_const (np := 171) (x := 9223372043297226753) (a := 2147483649) (by decide +kernel) (by decide) (by decide) ?_
                refine x_cV (t := 6) (mj := 248) (n := 3) (rc := 12) (ml := 4) (nr := 0) (np := 174) (as := [x_r 75, iv_c v1944, iv_c 2147483649]) (rest := []) (lo1 := [x_r 75, iv_c v1944, iv_c 2147483649, 147573952589676412928]) (by decide +kernel) (by decide) (by decide +kernel) (x_rb_of (by decide +kernel)) rfl rfl (x_wr (by decide) (x_wi l1945 (x_wi (by decide) x_wn))) x_wn (by decide) rfl (c248_75 j1958  (by first | decide | omega) (by first | decide | omega)) (fun h1965 q1964 => ?_)
                obtain ⟨j1966, f1967⟩ := q1964
                have f1970 := Fr.trans f1960 f1967 (by decide)
                have f1971 := Fr.trans f1961 f1967 (by decide)
                refine x_iinc (np := 177) (i := 2) (j := 2147483649) (v := 2147483649) (lo' := [x_r 75, iv_c 2147483650, iv_c 2147483649, iv_c v1863, iv_c 2147483649, iv_c v1944]) (by decide +kernel) (by decide) (by decide) rfl (by decide) (by first | decide | omega) (by first | decide | omega) rfl ?_
                refine x_goto (np := 180) (x := 183) (by decide +kernel) ?_
                refine x_goto (np := 186) (x := 12) (by decide +kernel) ?_
                have q1972 : h1965 75 30 = h1957 75 30 := jK 0 f1967 rg_75_30_0_1 (by first | decide | omega) (by first | decide | omega) (by decide)
                have q1973 : h1957 75 30 = h1930 75 30 := by rw [← e1959]; exact x_up_k (by decide)
                have q1974 : h1930 75 30 = h1866 75 30 := jK 0 f1932 rg_75_30_0_1 (by first | decide | omega) (by first | decide | omega) (by decide)
                have q1975 : h1866 75 30 = h1854 75 30 := jK 0 f1868 rg_75_30_0_1 (by first | decide | omega) (by first | decide | omega) (by decide)
                have q1976 : h1854 75 30 = (1 + (h1807 75 30)) := by rw [← e1856]; exact x_up_at
                exact i1842 (iv_c v1863) (iv_c v1944) h1965 (by first | decide | omega) j1966 f1971 (by first | decide | omega)
              have q1942 : ¬ (2147483648 ≤ (h1866 94 0)) := q1942
              refine x_const (np := 132) (x := 9223372034707292159) (a := 2147483647) (by decide +kernel) (by decide) (by decide) ?_
              refine x_goto (np := 135) (x := 140) (by decide +kernel) ?_
              refine x_istore (np := 142) (x := 5) (lo' := [x_r 75, iv_c 2147483650, iv_c 2147483648, iv_c v1863, iv_c 2147483649, iv_c 2147483647]) (by decide +kernel) (by decide) (Nat.le_of_ble_eq_true rfl) rfl ?_
              refine x_iload (np := 144) (x := 5) (by decide +kernel) rfl (by decide) ?_
              refine x_ifz (k := 2) (tg := 151) (np := 147) (by decide +kernel) (by decide) (by decide) (fun q1977 => ?_) (fun q1978 => ?_)
              · have q1977 : 2147483647 < 2147483648 := q1977
                refine x_const (np := 152) (x := 9223372039002259456) (a := 2147483648) (by decide +kernel) (by decide) (by decide) ?_
                refine x_istore (np := 154) (x := 4) (lo' := [x_r 75, iv_c 2147483650, iv_c 2147483648, iv_c v1863, iv_c 2147483648, iv_c 2147483647]) (by decide +kernel) (by decide) (Nat.le_of_ble_eq_true rfl) rfl ?_
                refine x_iload (np := 156) (x := 4) (by decide +kernel) rfl (by decide) ?_
                refine x_ifz (k := 0) (tg := 180) (np := 159) (by decide +kernel) (by decide) (by decide) (fun q1979 => ?_) (fun q1980 => ?_)
                · have q1979 : 2147483648 = 2147483648 := q1979
                  refine x_iinc (np := 183) (i := 2) (j := 2147483647) (v := 2147483647) (lo' := [x_r 75, iv_c 2147483650, iv_c 2147483647, iv_c v1863, iv_c 2147483648, iv_c 2147483647]) (by decide +kernel) (by decide) (by decide) rfl (by decide) (by first | decide | omega) (by first | decide | omega) rfl ?_
                  refine x_goto (np := 186) (x := 12) (by decide +kernel) ?_
                  have q1981 : h1930 75 30 = h1866 75 30 := jK 0 f1932 rg_75_30_0_1 (by first | decide | omega) (by first | decide | omega) (by decide)
                  have q1982 : h1866 75 30 = h1854 75 30 := jK 0 f1868 rg_75_30_0_1 (by first | decide | omega) (by first | decide | omega) (by decide)
                  have q1983 : h1854 75 30 = (1 + (h1807 75 30)) := by rw [← e1856]; exact x_up_at
                  exact i1844 (iv_c v1863) (iv_c 2147483647) h1930 (by first | decide | omega) j1931 f1936 (by first | decide | omega)
                have q1980 : ¬ (2147483648 = 2147483648) := q1980
                exfalso; omega
              have q1978 : ¬ (2147483647 < 2147483648) := q1978
              exfalso; omega
            have q1877 : ¬ (2147483648 ≠ 2147483650) := q1877
            exfalso; omega
          have q1873 : ¬ (v1863 ≠ 2147483649) := q1873
          refine x_aload (np := 55) (x := 0) (by decide +kernel) rfl (x_nc_le (by decide)) ?_
          have q1984 : h1866 75 34 = h1854 75 34 := jK 0 f1868 rg_75_34_0_1 (by first | decide | omega) (by first | decide | omega) (by decide)
          have q1985 : h1854 75 34 = h1807 75 34 := by rw [← e1856]; exact x_up_i (by first | decide | omega)
          refine x_getC (np := 58) (x := 738) (f := 34) (q := (h1807 75 34)) (by decide +kernel) (by decide) (by decide +kernel) (q1984.trans q1985) (fun l1986 => ?_)
          refine x_ifz (k := 1) (tg := 66) (np := 61) (by decide +kernel) (by decide) l1986 (fun q1987 => ?_) (fun q1988 => ?_)
          · have q1987 : (h1807 75 34) ≠ 2147483648 := q1987
            refine x_aload (np := 67) (x := 0) (by decide +kernel) rfl (x_nc_le (by decide)) ?_
            refine x_dup (np := 68) (x := 0) (by decide +kernel) (by have z := x_nc_le (k := 75) (by decide); unfold x_r; omega) ?_
            have q1989 : h1866 75 34 = h1854 75 34 := jK 0 f1868 rg_75_34_0_1 (by first | decide | omega) (by first | decide | omega) (by decide)
            have q1990 : h1854 75 34 = h1807 75 34 := by rw [← e1856]; exact x_up_i (by first | decide | omega)
            refine x_getC (np := 71) (x := 738) (f := 34) (q := (h1807 75 34)) (by decide +kernel) (by decide) (by decide +kernel) (q1989.trans q1990) (fun l1991 => ?_)
            refine x_const (np := 72) (x := 9223372043297226753) (a := 2147483649) (by decide +kernel) (by decide) (by decide) ?_
            refine x_addA (by rw [tb_b259]; decide +kernel) l1986 (by decide) (fun v1992 l1993 => ?_)
            refine x_putI (np := 76) (x := 738) (f := 34) (by decide +kernel) (by decide +kernel) l1993 (Or.inl (by decide)) ?_
            have j1995 := jU (e := 34) (v := v1992) 0 j1867 rg_75_34_0_1 (by first | decide | omega) (by first | decide | omega) (by first | decide | omega)
            have f1997 := jF (e := 34) (v := v1992) 0 f1870 rg_75_34_0_1 (by first | decide | omega) (by first | decide | omega) (by decide)
            have f1998 := jF (e := 34) (v := v1992) 0 f1871 rg_75_34_0_1 (by first | decide | omega) (by first | decide | omega) (by decide)
            generalize e1996 : x_up h1866 75 34 v1992 = h1994 at j1995 f1997 f1998 ⊢
            refine x_aload (np := 77) (x := 0) (by decide +kernel) rfl (x_nc_le (by decide)) ?_
            have q1999 : h1994 75 33 = h1866 75 33 := by rw [← e1996]; exact x_up_i (by first | decide | omega)
            have q2000 : h1866 75 33 = h1854 75 33 := jK 0 f1868 rg_75_33_0_1 (by first | decide | omega) (by first | decide | omega) (by decide)
            have q2001 : h1854 75 33 = h1807 75 33 := by rw [← e1856]; exact x_up_i (by first | decide | omega)
            have q2002 : h1807 75 33 = h2 75 33 := jK 0 f1809 rg_75_33_0_1 (by first | decide | omega) (by first | decide | omega) (by decide)
            have q2003 : h2 75 33 = h 75 33 := by rw [← e4]; exact x_up_i (by first | decide | omega)
            have b2004 := jB (e := 33) 0 hJ rg_75_33_0_1 (by first | decide | omega) (by first | decide | omega)
            refine x_getC (np := 80) (x := 737) (f := 33) (q := (h 75 33)) (by decide +kernel) (by decide) (by decide +kernel) ((((q1999.trans q2000).trans q2001).trans q2002).trans q2003) (fun l2005 => ?_)
            refine x_ifz (k := 0) (tg := 85) (np := 83) (by decide +kernel) (by decide) l2005 (fun q2006 => ?_) (fun q2007 => ?_)
            · have q2006 : (h 75 33) = 2147483648 := q2006
              refine x_iload (np := 86) (x := 3) (by decide +kernel) rfl l1864 ?_
              refine x_const (np := 87) (x := 9223372043297226753) (a := 2147483649) (by decide +kernel) (by decide) (by decide) ?_
              refine x_icmp (k := 0) (tg := 95) (np := 90) (by decide +kernel) (by decide) l1864 (by decide) (fun q2008 => ?_) (fun q2009 => ?_)
              · have q2008 : v1863 = 2147483649 := q2008
                refine x_aload (np := 96) (x := 0) (by decide +kernel) rfl (x_nc_le (by decide)) ?_
                have q2010 : h1994 75 28 = 94 := by have z := jB (e := 28) 0 j1995 rg_75_28_0_1 (by decide) (by decide); omega
                refine x_getR (np := 99) (x := 732) (f := 28) (q := 94) (by decide +kernel) (by decide) (by decide +kernel) q2010 ?_
                refine x_iload (np := 100) (x := 2) (by decide +kernel) rfl (by decide) ?_
                refine x_const (np := 101) (x := 9223372034707292159) (a := 2147483647) (by decide +kernel) (by decide) (by decide) ?_
                refine x_ast (np := 102) (x := 0) (kd := 1) (n := 6) (i := 0) (by decide +kernel) (Or.inl rfl) (by decide +kernel) (by first | decide | omega) (by first | decide | omega) (by decide) (by decide) (fun z => absurd z (by decide)) ?_
                have j2012 := jU (e := 0) (v := 2147483647) 0 j1995 rg_94_0_1_6 (by first | decide | omega) (by first | decide | omega) (by first | decide | omega)
                have f2014 := jF (e := 0) (v := 2147483647) 0 f1997 rg_94_0_1_6 (by first | decide | omega) (by first | decide | omega) (by decide)
                have f2015 := jF (e := 0) (v := 2147483647) 0 f1998 rg_94_0_1_6 (by first | decide | omega) (by first | decide | omega) (by decide)
                generalize e2013 : x_up h1994 94 0 2147483647 = h2011 at j2012 f2014 f2015 ⊢
                refine x_aload (np := 103) (x := 0) (by decide +kernel) rfl (x_nc_le (by decide)) ?_
                have q2016 : h2011 75 27 = 93 := by have z := jB (e := 27) 0 j2012 rg_75_27_0_1 (by decide) (by decide); omega
                refine x_getR (np := 106) (x := 731) (f := 27) (q := 93) (by decide +kernel) (by decide) (by decide +kernel) q2016 ?_
                refine x_iload (np := 107) (x := 2) (by decide +kernel) rfl (by decide) ?_
                have q2017 : h2011 93 0 = h1994 93 0 := by rw [← e2013]; exact x_up_k (by decide)
                have q2018 : h1994 93 0 = h1866 93 0 := by rw [← e1996]; exact x_up_k (by decide)
                have b2019 := jB (e := 0) 0 j1867 rg_93_0_1_6 (by first | decide | omega) (by first | decide | omega)
                refine x_aldC (np := 108) (x := 0) (n := 6) (i := 0) (q := (h1866 93 0)) (by decide +kernel) (by decide +kernel) (by first | decide | omega) (by first | decide | omega) (by decide) (q2017.trans q2018) (fun l2020 => ?_)
                refine x_ifz (k := 2) (tg := 122) (np := 111) (by decide +kernel) (by decide) l2020 (fun q2021 => ?_) (fun q2022 => ?_)
                · have q2021 : (h1866 93 0) < 2147483648 := q2021
                  refine x_aload (np := 123) (x := 0) (by decide +kernel) rfl (x_nc_le (by decide)) ?_
                  have q2023 : h2011 75 28 = 94 := by have z := jB (e := 28) 0 j2012 rg_75_28_0_1 (by decide) (by decide); omega
                  refine x_getR (np := 126) (x := 732) (f := 28) (q := 94) (by decide +kernel) (by decide) (by decide +kernel) q2023 ?_
                  refine x_iload (np := 127) (x := 2) (by decide +kernel) rfl (by decide) ?_
                  have q2024 : h2011 94 0 = 2147483647 := by rw [← e2013]; exact x_up_at
                  refine x_aldC (np := 128) (x := 0) (n := 6) (i := 0) (q := 2147483647) (by decide +kernel) (by decide +kernel) (by first | decide | omega) (by first | decide | omega) (by decide) q2024 (fun l2025 => ?_)
                  refine x_ifz (k := 3) (tg := 135) (np := 131) (by decide +kernel) (by decide) (by decide) (fun q2026 => ?_) (fun q2027 => ?_)
                  · have q2026 : 2147483648 ≤ 2147483647 := q2026
                    exfalso; omega
                  have q2027 : ¬ (2147483648 ≤ 2147483647) := q2027
                  refine x_const (np := 132) (x := 9223372034707292159) (a := 2147483647) (by decide +kernel) (by decide) (by decide) ?_
                  refine x_goto (np := 135) (x := 140) (by decide +kernel) ?_
                  refine x_istore (np := 142) (x := 5) (lo' := [x_r 75, iv_c 2147483650, iv_c 2147483648, iv_c v1863, iv_c 2147483649, iv_c 2147483647]) (by decide +kernel) (by decide) (Nat.le_of_ble_eq_true rfl) rfl ?_
                  refine x_iload (np := 144) (x := 5) (by decide +kernel) rfl (by decide) ?_
                  refine x_ifz (k := 2) (tg := 151) (np := 147) (by decide +kernel) (by decide) (by decide) (fun q2028 => ?_) (fun q2029 => ?_)
                  · have q2028 : 2147483647 < 2147483648 := q2028
                    refine x_const (np := 152) (x := 9223372039002259456) (a := 2147483648) (by decide +kernel) (by decide) (by decide) ?_
                    refine x_istore (np := 154) (x := 4) (lo' := [x_r 75, iv_c 2147483650, iv_c 2147483648, iv_c v1863, iv_c 2147483648, iv_c 2147483647]) (by decide +kernel) (by decide) (Nat.le_of_ble_eq_true rfl) rfl ?_
                    refine x_iload (np := 156) (x := 4) (by decide +kernel) rfl (by decide) ?_
                    refine x_ifz (k := 0) (tg := 180) (np := 159) (by decide +kernel) (by decide) (by decide) (fun q2030 => ?_) (fun q2031 => ?_)
                    · have q2030 : 2147483648 = 2147483648 := q2030
                      refine x_iinc (np := 183) (i := 2) (j := 2147483647) (v := 2147483647) (lo' := [x_r 75, iv_c 2147483650, iv_c 2147483647, iv_c v1863, iv_c 2147483648, iv_c 2147483647]) (by decide +kernel) (by decide) (by decide) rfl (by decide) (by first | decide | omega) (by first | decide | omega) rfl ?_
                      refine x_goto (np := 186) (x := 12) (by decide +kernel) ?_
                      have q2032 : h2011 75 30 = h1994 75 30 := by rw [← e2013]; exact x_up_k (by decide)
                      have q2033 : h1994 75 30 = h1866 75 30 := by rw [← e1996]; exact x_up_i (by first | decide | omega)
                      have q2034 : h1866 75 30 = h1854 75 30 := jK 0 f1868 rg_75_30_0_1 (by first | decide | omega) (by first | decide | omega) (by decide)
                      have q2035 : h1854 75 30 = (1 + (h1807 75 30)) := by rw [← e1856]; exact x_up_at
                      exact i1844 (iv_c v1863) (iv_c 2147483647) h2011 (by first | decide | omega) j2012 f2015 (by first | decide | omega)
                    have q2031 : ¬ (2147483648 = 2147483648) := q2031
                    exfalso; omega
                  have q2029 : ¬ (2147483647 < 2147483648) := q2029
                  exfalso; omega
                have q2022 : ¬ ((h1866 93 0) < 2147483648) := q2022
                refine x_aload (np := 112) (x := 0) (by decide +kernel) rfl (x_nc_le (by decide)) ?_
                refine x_aload (np := 113) (x := 0) (by decide +kernel) rfl (x_nc_le (by decide)) ?_
                have q2036 : h2011 75 27 = 93 := by have z := jB (e := 27) 0 j2012 rg_75_27_0_1 (by decide) (by decide); omega
                refine x_getR (np := 116) (x := 731) (f := 27) (q := 93) (by decide +kernel) (by decide) (by decide +kernel) q2036 ?_
                refine x_iload (np := 117) (x := 2) (by decide +kernel) rfl (by decide) ?_
                have q2037 : h2011 93 0 = h1994 93 0 := by rw [← e2013]; exact x_up_k (by decide)
                have q2038 : h1994 93 0 = h1866 93 0 := by rw [← e1996]; exact x_up_k (by decide)
                refine x_aldC (np := 118) (x := 0) (n := 6) (i := 0) (q := (h1866 93 0)) (by decide +kernel) (by decide +kernel) (by first | decide | omega) (by first | decide | omega) (by decide) (q2037.trans q2038) (fun l2039 => ?_)
                refine x_const (np := 119) (x := 9223372039002259456) (a := 2147483648) (by decide +kernel) (by decide) (by decide) ?_
                refine x_cV (t := 6) (mj := 248) (n := 3) (rc := 12) (ml := 4) (nr := 0) (np := 122) (as := [x_r 75, iv_c (h1866 93 0), iv_c 2147483648]) (rest := []) (lo1 := [x_r 75, iv_c (h1866 93 0), iv_c 2147483648, 147573952589676412928]) (by decide +kernel) (by decide) (by decide +kernel) (x_rb_of (by decide +kernel)) rfl rfl (x_wr (by decide) (x_wi l2020 (x_wi (by decide) x_wn))) x_wn (by decide) rfl (c248_75 j2012  (by first | decide | omega) (by first | decide | omega)) (fun h2043 q2042 => ?_)
                obtain ⟨j2044, f2045⟩ := q2042
                have f2048 := Fr.trans f2014 f2045 (by decide)
                have f2049 := Fr.trans f2015 f2045 (by decide)
                refine x_aload (np := 123) (x := 0) (by decide +kernel) rfl (x_nc_le (by decide)) ?_
                have q2050 : h2043 75 28 = 94 := by have z := jB (e := 28) 0 j2044 rg_75_28_0_1 (by decide) (by decide); omega
                refine x_getR (np := 126) (x := 732) (f := 28) (q := 94) (by decide +kernel) (by decide) (by decide +kernel) q2050 ?_
                refine x_iload (np := 127) (x := 2) (by decide +kernel) rfl (by decide) ?_
                have q2051 : h2043 94 0 = h2011 94 0 := jK 0 f2045 rg_94_0_1_6 (by first | decide | omega) (by first | decide | omega) (by decide)
                have q2052 : h2011 94 0 = 2147483647 := by rw [← e2013]; exact x_up_at
                refine x_aldC (np := 128) (x := 0) (n := 6) (i := 0) (q := 2147483647) (by decide +kernel) (by decide +kernel) (by first | decide | omega) (by first | decide | omega) (by decide) (q2051.trans q2052) (fun l2053 => ?_)
                refine x_ifz (k := 3) (tg := 135) (np := 131) (by decide +kernel) (by decide) (by decide) (fun q2054 => ?_) (fun q2055 => ?_)
                · have q2054 : 2147483648 ≤ 2147483647 := q2054
                  exfalso; omega
                have q2055 : ¬ (2147483648 ≤ 2147483647) := q2055
                refine x_const (np := 132) (x := 9223372034707292159) (a := 2147483647) (by decide +kernel) (by decide) (by decide) ?_
                refine x_goto (np := 135) (x := 140) (by decide +kernel) ?_
                refine x_istore (np := 142) (x := 5) (lo' := [x_r 75, iv_c 2147483650, iv_c 2147483648, iv_c v1863, iv_c 2147483649, iv_c 2147483647]) (by decide +kernel) (by decide) (Nat.le_of_ble_eq_true rfl) rfl ?_
                refine x_iload (np := 144) (x := 5) (by decide +kernel) rfl (by decide) ?_
                refine x_ifz (k := 2) (tg := 151) (np := 147) (by decide +kernel) (by decide) (by decide) (fun q2056 => ?_) (fun q2057 => ?_)
                · have q2056 : 2147483647 < 2147483648 := q2056
                  refine x_const (np := 152) (x := 9223372039002259456) (a := 2147483648) (by decide +kernel) (by decide) (by decide) ?_
                  refine x_istore (np := 154) (x := 4) (lo' := [x_r 75, iv_c 2147483650, iv_c 2147483648, iv_c v1863, iv_c 2147483648, iv_c 2147483647]) (by decide +kernel) (by decide) (Nat.le_of_ble_eq_true rfl) rfl ?_
                  refine x_iload (np := 156) (x := 4) (by decide +kernel) rfl (by decide) ?_
                  refine x_ifz (k := 0) (tg := 180) (np := 159) (by decide +kernel) (by decide) (by decide) (fun q2058 => ?_) (fun q2059 => ?_)
                  · have q2058 : 2147483648 = 2147483648 := q2058
                    refine x_iinc (np := 183) (i := 2) (j := 2147483647) (v := 2147483647) (lo' := [x_r 75, iv_c 2147483650, iv_c 2147483647, iv_c v1863, iv_c 2147483648, iv_c 2147483647]) (by decide +kernel) (by decide) (by decide) rfl (by decide) (by first | decide | omega) (by first | decide | omega) rfl ?_
                    refine x_goto (np := 186) (x := 12) (by decide +kernel) ?_
                    have q2060 : h2043 75 30 = h2011 75 30 := jK 0 f2045 rg_75_30_0_1 (by first | decide | omega) (by first | decide | omega) (by decide)
                    have q2061 : h2011 75 30 = h1994 75 30 := by rw [← e2013]; exact x_up_k (by decide)
                    have q2062 : h1994 75 30 = h1866 75 30 := by rw [← e1996]; exact x_up_i (by first | decide | omega)
                    have q2063 : h1866 75 30 = h1854 75 30 := jK 0 f1868 rg_75_30_0_1 (by first | decide | omega) (by first | decide | omega) (by decide)
                    have q2064 : h1854 75 30 = (1 + (h1807 75 30)) := by rw [← e1856]; exact x_up_at
                    exact i1844 (iv_c v1863) (iv_c 2147483647) h2043 (by first | decide | omega) j2044 f2049 (by first | decide | omega)
                  have q2059 : ¬ (2147483648 = 2147483648) := q2059
                  exfalso; omega
                have q2057 : ¬ (2147483647 < 2147483648) := q2057
                exfalso; omega
              have q2009 : ¬ (v1863 = 2147483649) := q2009
              exfalso; omega
            have q2007 : ¬ ((h 75 33) = 2147483648) := q2007
            refine x_const (np := 84) (x := 9223372043297226753) (a := 2147483649) (by decide +kernel) (by decide) (by decide) ?_
            have q2065 : h1994 75 30 = h1866 75 30 := by rw [← e1996]; exact x_up_i (by first | decide | omega)
            have q2066 : h1866 75 30 = h1854 75 30 := jK 0 f1868 rg_75_30_0_1 (by first | decide | omega) (by first | decide | omega) (by decide)
            have q2067 : h1854 75 30 = (1 + (h1807 75 30)) := by rw [← e1856]; exact x_up_at
            refine x_retI (np := 85) (x := 0) (by decide +kernel) (by decide) (Or.inr ⟨by decide +kernel, by first | decide | omega, by first | decide | omega⟩) ⟨_, rfl, (by decide), ?_⟩
            exact ⟨j1995, f1997, (by first | decide | omega), (fun z => by first | decide | omega)⟩
          have q1988 : ¬ ((h1807 75 34) ≠ 2147483648) := q1988
          refine x_aload (np := 62) (x := 0) (by decide +kernel) rfl (x_nc_le (by decide)) ?_
          refine x_iload (np := 63) (x := 2) (by decide +kernel) rfl (by decide) ?_
          refine x_cV (t := 6) (mj := 258) (n := 2) (rc := 12) (ml := 4) (nr := 0) (np := 66) (as := [x_r 75, iv_c 2147483648]) (rest := []) (lo1 := [x_r 75, iv_c 2147483648, 147573952589676412928, 147573952589676412928]) (by decide +kernel) (by decide) (by decide +kernel) (x_rb_of (by decide +kernel)) rfl rfl (x_wr (by decide) (x_wi (by decide) x_wn)) x_wn (by decide) rfl (c258_75 j1867  (by first | decide | omega)) (fun h2071 q2070 => ?_)
          obtain ⟨j2072, f2073⟩ := q2070
          have f2076 := Fr.trans f1870 f2073 (by decide)
          have f2077 := Fr.trans f1871 f2073 (by decide)
          refine x_aload (np := 67) (x := 0) (by decide +kernel) rfl (x_nc_le (by decide)) ?_
          refine x_dup (np := 68) (x := 0) (by decide +kernel) (by have z := x_nc_le (k := 75) (by decide); unfold x_r; omega) ?_
          have q2078 : h2071 75 34 = h1866 75 34 := jK 0 f2073 rg_75_34_0_1 (by first | decide | omega) (by first | decide | omega) (by decide)
          have q2079 : h1866 75 34 = h1854 75 34 := jK 0 f1868 rg_75_34_0_1 (by first | decide | omega) (by first | decide | omega) (by decide)
          have q2080 : h1854 75 34 = h1807 75 34 := by rw [← e1856]; exact x_up_i (by first | decide | omega)
          refine x_getC (np := 71) (x := 738) (f := 34) (q := (h1807 75 34)) (by decide +kernel) (by decide) (by decide +kernel) ((q2078.trans q2079).trans q2080) (fun l2081 => ?_)
          refine x_const (np := 72) (x := 9223372043297226753) (a := 2147483649) (by decide +kernel) (by decide) (by decide) ?_
          refine x_iadd (np := 73) (x := 0) (v := (1 + (h1807 75 34))) (by decide +kernel) l1986 (by decide) (by first | decide | omega) (by first | decide | omega) ?_
          refine x_putI (np := 76) (x := 738) (f := 34) (by decide +kernel) (by decide +kernel) (by first | decide | omega) (Or.inl (by decide)) ?_
          have j2083 := jU (e := 34) (v := (1 + (h1807 75 34))) 0 j2072 rg_75_34_0_1 (by first | decide | omega) (by first | decide | omega) (by first | decide | omega)
          have f2085 := jF (e := 34) (v := (1 + (h1807 75 34))) 0 f2076 rg_75_34_0_1 (by first | decide | omega) (by first | decide | omega) (by decide)
          have f2086 := jF (e := 34) (v := (1 + (h1807 75 34))) 0 f2077 rg_75_34_0_1 (by first | decide | omega) (by first | decide | omega) (by decide)
          generalize e2084 : x_up h2071 75 34 (1 + (h1807 75 34)) = h2082 at j2083 f2085 f2086 ⊢
          refine x_aload (np := 77) (x := 0) (by decide +kernel) rfl (x_nc_le (by decide)) ?_
          have q2087 : h2082 75 33 = h2071 75 33 := by rw [← e2084]; exact x_up_i (by first | decide | omega)
          have q2088 : h2071 75 33 = h1866 75 33 := jK 0 f2073 rg_75_33_0_1 (by first | decide | omega) (by first | decide | omega) (by decide)
          have q2089 : h1866 75 33 = h1854 75 33 := jK 0 f1868 rg_75_33_0_1 (by first | decide | omega) (by first | decide | omega) (by decide)
          have q2090 : h1854 75 33 = h1807 75 33 := by rw [← e1856]; exact x_up_i (by first | decide | omega)
          have q2091 : h1807 75 33 = h2 75 33 := jK 0 f1809 rg_75_33_0_1 (by first | decide | omega) (by first | decide | omega) (by decide)
          have q2092 : h2 75 33 = h 75 33 := by rw [← e4]; exact x_up_i (by first | decide | omega)
          have b2093 := jB (e := 33) 0 hJ rg_75_33_0_1 (by first | decide | omega) (by first | decide | omega)
          refine x_getC (np := 80) (x := 737) (f := 33) (q := (h 75 33)) (by decide +kernel) (by decide) (by decide +kernel) (((((q2087.trans q2088).trans q2089).trans q2090).trans q2091).trans q2092) (fun l2094 => ?_)
          refine x_ifz (k := 0) (tg := 85) (np := 83) (by decide +kernel) (by decide) l2094 (fun q2095 => ?_) (fun q2096 => ?_)
          · have q2095 : (h 75 33) = 2147483648 := q2095
            refine x_iload (np := 86) (x := 3) (by decide +kernel) rfl l1864 ?_
            refine x_const (np := 87) (x := 9223372043297226753) (a := 2147483649) (by decide +kernel) (by decide) (by decide) ?_
            refine x_icmp (k := 0) (tg := 95) (np := 90) (by decide +kernel) (by decide) l1864 (by decide) (fun q2097 => ?_) (fun q2098 => ?_)
            · have q2097 : v1863 = 2147483649 := q2097
              refine x_aload (np := 96) (x := 0) (by decide +kernel) rfl (x_nc_le (by decide)) ?_
              have q2099 : h2082 75 28 = 94 := by have z := jB (e := 28) 0 j2083 rg_75_28_0_1 (by decide) (by decide); omega
              refine x_getR (np := 99) (x := 732) (f := 28) (q := 94) (by decide +kernel) (by decide) (by decide +kernel) q2099 ?_
              refine x_iload (np := 100) (x := 2) (by decide +kernel) rfl (by decide) ?_
              refine x_const (np := 101) (x := 9223372034707292159) (a := 2147483647) (by decide +kernel) (by decide) (by decide) ?_
              refine x_ast (np := 102) (x := 0) (kd := 1) (n := 6) (i := 0) (by decide +kernel) (Or.inl rfl) (by decide +kernel) (by first | decide | omega) (by first | decide | omega) (by decide) (by decide) (fun z => absurd z (by decide)) ?_
              have j2101 := jU (e := 0) (v := 2147483647) 0 j2083 rg_94_0_1_6 (by first | decide | omega) (by first | decide | omega) (by first | decide | omega)
              have f2103 := jF (e := 0) (v := 2147483647) 0 f2085 rg_94_0_1_6 (by first | decide | omega) (by first | decide | omega) (by decide)
              have f2104 := jF (e := 0) (v := 2147483647) 0 f2086 rg_94_0_1_6 (by first | decide | omega) (by first | decide | omega) (by decide)
              generalize e2102 : x_up h2082 94 0 2147483647 = h2100 at j2101 f2103 f2104 ⊢
              refine x_aload (np := 103) (x := 0) (by decide +kernel) rfl (x_nc_le (by decide)) ?_
              have q2105 : h2100 75 27 = 93 := by have z := jB (e := 27) 0 j2101 rg_75_27_0_1 (by decide) (by decide); omega
              refine x_getR (np := 106) (x := 731) (f := 27) (q := 93) (by decide +kernel) (by decide) (by decide +kernel) q2105 ?_
              refine x_iload (np := 107) (x := 2) (by decide +kernel) rfl (by decide) ?_
              have q2106 : h2100 93 0 = h2082 93 0 := by rw [← e2102]; exact x_up_k (by decide)
              have q2107 : h2082 93 0 = h2071 93 0 := by rw [← e2084]; exact x_up_k (by decide)
              have q2108 : h2071 93 0 = h1866 93 0 := jK 0 f2073 rg_93_0_1_6 (by first | decide | omega) (by first | decide | omega) (by decide)
              have b2109 := jB (e := 0) 0 j1867 rg_93_0_1_6 (by first | decide | omega) (by first | decide | omega)
              refine x_aldC (np := 108) (x := 0) (n := 6) (i := 0) (q := (h1866 93 0)) (by decide +kernel) (by decide +kernel) (by first | decide | omega) (by first | decide | omega) (by decide) ((q2106.trans q2107).trans q2108) (fun l2110 => ?_)
              refine x_ifz (k := 2) (tg := 122) (np := 111) (by decide +kernel) (by decide) l2110 (fun q2111 => ?_) (fun q2112 => ?_)
              · have q2111 : (h1866 93 0) < 2147483648 := q2111
                refine x_aload (np := 123) (x := 0) (by decide +kernel) rfl (x_nc_le (by decide)) ?_
                have q2113 : h2100 75 28 = 94 := by have z := jB (e := 28) 0 j2101 rg_75_28_0_1 (by decide) (by decide); omega
                refine x_getR (np := 126) (x := 732) (f := 28) (q := 94) (by decide +kernel) (by decide) (by decide +kernel) q2113 ?_
                refine x_iload (np := 127) (x := 2) (by decide +kernel) rfl (by decide) ?_
                have q2114 : h2100 94 0 = 2147483647 := by rw [← e2102]; exact x_up_at
                refine x_aldC (np := 128) (x := 0) (n := 6) (i := 0) (q := 2147483647) (by decide +kernel) (by decide +kernel) (by first | decide | omega) (by first | decide | omega) (by decide) q2114 (fun l2115 => ?_)
                refine x_ifz (k := 3) (tg := 135) (np := 131) (by decide +kernel) (by decide) (by decide) (fun q2116 => ?_) (fun q2117 => ?_)
                · have q2116 : 2147483648 ≤ 2147483647 := q2116
                  exfalso; omega
                have q2117 : ¬ (2147483648 ≤ 2147483647) := q2117
                refine x_const (np := 132) (x := 9223372034707292159) (a := 2147483647) (by decide +kernel) (by decide) (by decide) ?_
                refine x_goto (np := 135) (x := 140) (by decide +kernel) ?_
                refine x_istore (np := 142) (x := 5) (lo' := [x_r 75, iv_c 2147483650, iv_c 2147483648, iv_c v1863, iv_c 2147483649, iv_c 2147483647]) (by decide +kernel) (by decide) (Nat.le_of_ble_eq_true rfl) rfl ?_
                refine x_iload (np := 144) (x := 5) (by decide +kernel) rfl (by decide) ?_
                refine x_ifz (k := 2) (tg := 151) (np := 147) (by decide +kernel) (by decide) (by decide) (fun q2118 => ?_) (fun q2119 => ?_)
                · have q2118 : 2147483647 < 2147483648 := q2118
                  refine x_const (np := 152) (x := 9223372039002259456) (a := 2147483648) (by decide +kernel) (by decide) (by decide) ?_
                  refine x_istore (np := 154) (x := 4) (lo' := [x_r 75, iv_c 2147483650, iv_c 2147483648, iv_c v1863, iv_c 2147483648, iv_c 2147483647]) (by decide +kernel) (by decide) (Nat.le_of_ble_eq_true rfl) rfl ?_
                  refine x_iload (np := 156) (x := 4) (by decide +kernel) rfl (by decide) ?_
                  refine x_ifz (k := 0) (tg := 180) (np := 159) (by decide +kernel) (by decide) (by decide) (fun q2120 => ?_) (fun q2121 => ?_)
                  · have q2120 : 2147483648 = 2147483648 := q2120
                    refine x_iinc (np := 183) (i := 2) (j := 2147483647) (v := 2147483647) (lo' := [x_r 75, iv_c 2147483650, iv_c 2147483647, iv_c v1863, iv_c 2147483648, iv_c 2147483647]) (by decide +kernel) (by decide) (by decide) rfl (by decide) (by first | decide | omega) (by first | decide | omega) rfl ?_
                    refine x_goto (np := 186) (x := 12) (by decide +kernel) ?_
                    have q2122 : h2100 75 30 = h2082 75 30 := by rw [← e2102]; exact x_up_k (by decide)
                    have q2123 : h2082 75 30 = h2071 75 30 := by rw [← e2084]; exact x_up_i (by first | decide | omega)
                    have q2124 : h2071 75 30 = h1866 75 30 := jK 0 f2073 rg_75_30_0_1 (by first | decide | omega) (by first | decide | omega) (by decide)
                    have q2125 : h1866 75 30 = h1854 75 30 := jK 0 f1868 rg_75_30_0_1 (by first | decide | omega) (by first | decide | omega) (by decide)
                    have q2126 : h1854 75 30 = (1 + (h1807 75 30)) := by rw [← e1856]; exact x_up_at
                    exact i1844 (iv_c v1863) (iv_c 2147483647) h2100 (by first | decide | omega) j2101 f2104 (by first | decide | omega)
                  have q2121 : ¬ (2147483648 = 2147483648) := q2121
                  exfalso; omega
                have q2119 : ¬ (2147483647 < 2147483648) := q2119
                exfalso; omega
              have q2112 : ¬ ((h1866 93 0) < 2147483648) := q2112
              refine x_aload (np := 112) (x := 0) (by decide +kernel) rfl (x_nc_le (by decide)) ?_
              refine x_aload (np := 113) (x := 0) (by decide +kernel) rfl (x_nc_le (by decide)) ?_
              have q2127 : h2100 75 27 = 93 := by have z := jB (e := 27) 0 j2101 rg_75_27_0_1 (by decide) (by decide); omega
              refine x_getR (np := 116) (x := 731) (f := 27) (q := 93) (by decide +kernel) (by decide) (by decide +kernel) q2127 ?_
              refine x_iload (np := 117) (x := 2) (by decide +kernel) rfl (by decide) ?_
              have q2128 : h2100 93 0 = h2082 93 0 := by rw [← e2102]; exact x_up_k (by decide)
              have q2129 : h2082 93 0 = h2071 93 0 := by rw [← e2084]; exact x_up_k (by decide)
              have q2130 : h2071 93 0 = h1866 93 0 := jK 0 f2073 rg_93_0_1_6 (by first | decide | omega) (by first | decide | omega) (by decide)
              refine x_aldC (np := 118) (x := 0) (n := 6) (i := 0) (q := (h1866 93 0)) (by decide +kernel) (by decide +kernel) (by first | decide | omega) (by first | decide | omega) (by decide) ((q2128.trans q2129).trans q2130) (fun l2131 => ?_)
              refine x_const (np := 119) (x := 9223372039002259456) (a := 2147483648) (by decide +kernel) (by decide) (by decide) ?_
              refine x_cV (t := 6) (mj := 248) (n := 3) (rc := 12) (ml := 4) (nr := 0) (np := 122) (as := [x_r 75, iv_c (h1866 93 0), iv_c 2147483648]) (rest := []) (lo1 := [x_r 75, iv_c (h1866 93 0), iv_c 2147483648, 147573952589676412928]) (by decide +kernel) (by decide) (by decide +kernel) (x_rb_of (by decide +kernel)) rfl rfl (x_wr (by decide) (x_wi l2110 (x_wi (by decide) x_wn))) x_wn (by decide) rfl (c248_75 j2101  (by first | decide | omega) (by first | decide | omega)) (fun h2135 q2134 => ?_)
              obtain ⟨j2136, f2137⟩ := q2134
              have f2140 := Fr.trans f2103 f2137 (by decide)
              have f2141 := Fr.trans f2104 f2137 (by decide)
              refine x_aload (np := 123) (x := 0) (by decide +kernel) rfl (x_nc_le (by decide)) ?_
              have q2142 : h2135 75 28 = 94 := by have z := jB (e := 28) 0 j2136 rg_75_28_0_1 (by decide) (by decide); omega
              refine x_getR (np := 126) (x := 732) (f := 28) (q := 94) (by decide +kernel) (by decide) (by decide +kernel) q2142 ?_
              refine x_iload (np := 127) (x := 2) (by decide +kernel) rfl (by decide) ?_
              have q2143 : h2135 94 0 = h2100 94 0 := jK 0 f2137 rg_94_0_1_6 (by first | decide | omega) (by first | decide | omega) (by decide)
              have q2144 : h2100 94 0 = 2147483647 := by rw [← e2102]; exact x_up_at
              refine x_aldC (np := 128) (x := 0) (n := 6) (i := 0) (q := 2147483647) (by decide +kernel) (by decide +kernel) (by first | decide | omega) (by first | decide | omega) (by decide) (q2143.trans q2144) (fun l2145 => ?_)
              refine x_ifz (k := 3) (tg := 135) (np := 131) (by decide +kernel) (by decide) (by decide) (fun q2146 => ?_) (fun q2147 => ?_)
              · have q2146 : 2147483648 ≤ 2147483647 := q2146
                exfalso; omega
              have q2147 : ¬ (2147483648 ≤ 2147483647) := q2147
              refine x_const (np := 132) (x := 9223372034707292159) (a := 2147483647) (by decide +kernel) (by decide) (by decide) ?_
              refine x_goto (np := 135) (x := 140) (by decide +kernel) ?_
              refine x_istore (np := 142) (x := 5) (lo' := [x_r 75, iv_c 2147483650, iv_c 2147483648, iv_c v1863, iv_c 2147483649, iv_c 2147483647]) (by decide +kernel) (by decide) (Nat.le_of_ble_eq_true rfl) rfl ?_
              refine x_iload (np := 144) (x := 5) (by decide +kernel) rfl (by decide) ?_
              refine x_ifz (k := 2) (tg := 151) (np := 147) (by decide +kernel) (by decide) (by decide) (fun q2148 => ?_) (fun q2149 => ?_)
              · have q2148 : 2147483647 < 2147483648 := q2148
                refine x_const (np := 152) (x := 9223372039002259456) (a := 2147483648) (by decide +kernel) (by decide) (by decide) ?_
                refine x_istore (np := 154) (x := 4) (lo' := [x_r 75, iv_c 2147483650, iv_c 2147483648, iv_c v1863, iv_c 2147483648, iv_c 2147483647]) (by decide +kernel) (by decide) (Nat.le_of_ble_eq_true rfl) rfl ?_
                refine x_iload (np := 156) (x := 4) (by decide +kernel) rfl (by decide) ?_
                refine x_ifz (k := 0) (tg := 180) (np := 159) (by decide +kernel) (by decide) (by decide) (fun q2150 => ?_) (fun q2151 => ?_)
                · have q2150 : 2147483648 = 2147483648 := q2150
                  refine x_iinc (np := 183) (i := 2) (j := 2147483647) (v := 2147483647) (lo' := [x_r 75, iv_c 2147483650, iv_c 2147483647, iv_c v1863, iv_c 2147483648, iv_c 2147483647]) (by decide +kernel) (by decide) (by decide) rfl (by decide) (by first | decide | omega) (by first | decide | omega) rfl ?_
                  refine x_goto (np := 186) (x := 12) (by decide +kernel) ?_
                  have q2152 : h2135 75 30 = h2100 75 30 := jK 0 f2137 rg_75_30_0_1 (by first | decide | omega) (by first | decide | omega) (by decide)
                  have q2153 : h2100 75 30 = h2082 75 30 := by rw [← e2102]; exact x_up_k (by decide)
                  have q2154 : h2082 75 30 = h2071 75 30 := by rw [← e2084]; exact x_up_i (by first | decide | omega)
                  have q2155 : h2071 75 30 = h1866 75 30 := jK 0 f2073 rg_75_30_0_1 (by first | decide | omega) (by first | decide | omega) (by decide)
                  have q2156 : h1866 75 30 = h1854 75 30 := jK 0 f1868 rg_75_30_0_1 (by first | decide | omega) (by first | decide | omega) (by decide)
                  have q2157 : h1854 75 30 = (1 + (h1807 75 30)) := by rw [← e1856]; exact x_up_at
                  exact i1844 (iv_c v1863) (iv_c 2147483647) h2135 (by first | decide | omega) j2136 f2141 (by first | decide | omega)
                have q2151 : ¬ (2147483648 = 2147483648) := q2151
                exfalso; omega
              have q2149 : ¬ (2147483647 < 2147483648) := q2149
              exfalso; omega
            have q2098 : ¬ (v1863 = 2147483649) := q2098
            exfalso; omega
          have q2096 : ¬ ((h 75 33) = 2147483648) := q2096
          refine x_const (np := 84) (x := 9223372043297226753) (a := 2147483649) (by decide +kernel) (by decide) (by decide) ?_
          have q2158 : h2082 75 30 = h2071 75 30 := by rw [← e2084]; exact x_up_i (by first | decide | omega)
          have q2159 : h2071 75 30 = h1866 75 30 := jK 0 f2073 rg_75_30_0_1 (by first | decide | omega) (by first | decide | omega) (by decide)
          have q2160 : h1866 75 30 = h1854 75 30 := jK 0 f1868 rg_75_30_0_1 (by first | decide | omega) (by first | decide | omega) (by decide)
          have q2161 : h1854 75 30 = (1 + (h1807 75 30)) := by rw [← e1856]; exact x_up_at
          refine x_retI (np := 85) (x := 0) (by decide +kernel) (by decide) (Or.inr ⟨by decide +kernel, by first | decide | omega, by first | decide | omega⟩) ⟨_, rfl, (by decide), ?_⟩
          exact ⟨j2083, f2085, (by first | decide | omega), (fun z => by first | decide | omega)⟩
        have q1862 : ¬ ((1 + (h1807 75 30)) ≤ 2147503648) := q1862
        refine x_const (np := 42) (x := 9223372039002259456) (a := 2147483648) (by decide +kernel) (by decide) (by decide) ?_
        have q2162 : h1854 75 30 = (1 + (h1807 75 30)) := by rw [← e1856]; exact x_up_at
        refine x_retI (np := 43) (x := 0) (by decide +kernel) (by decide) (Or.inr ⟨by decide +kernel, by first | decide | omega, by first | decide | omega⟩) ⟨_, rfl, (by decide), ?_⟩
        exact ⟨j1855, f1857, (by first | decide | omega), (fun z => by first | decide | omega)⟩
      · intro w1811 w1812 h1813 q2163 j1816 f1815 b1814
        have f2164 := Fr.trans f5 f1815 (by decide)
        refine x_iload (np := 13) (x := 2) (by decide +kernel) rfl (by decide) ?_
        refine x_ifz (k := 2) (tg := 186) (np := 16) (by decide +kernel) (by decide) (by decide) (fun q2165 => ?_) (fun q2166 => ?_)
        · have q2165 : 2147483649 < 2147483648 := q2165
          exfalso; omega
        have q2166 : ¬ (2147483649 < 2147483648) := q2166
        refine x_iload (np := 18) (x := 4) (by decide +kernel) rfl (by decide) ?_
        refine x_ifz (k := 0) (tg := 102) (np := 21) (by decide +kernel) (by decide) (by decide) (fun q2167 => ?_) (fun q2168 => ?_)
        · have q2167 : 2147483649 = 2147483648 := q2167
          exfalso; omega
        have q2168 : ¬ (2147483649 = 2147483648) := q2168
        refine x_aload (np := 22) (x := 0) (by decide +kernel) rfl (x_nc_le (by decide)) ?_
        refine x_dup (np := 23) (x := 0) (by decide +kernel) (by have z := x_nc_le (k := 75) (by decide); unfold x_r; omega) ?_
        refine x_getC (np := 26) (x := 734) (f := 30) (q := (h1813 75 30)) (by decide +kernel) (by decide) (by decide +kernel) rfl (fun l2169 => ?_)
        refine x_const (np := 27) (x := 9223372043297226753) (a := 2147483649) (by decide +kernel) (by decide) (by decide) ?_
        refine x_iadd (np := 28) (x := 0) (v := (1 + (h1813 75 30))) (by decide +kernel) l2169 (by decide) (by first | decide | omega) (by first | decide | omega) ?_
        refine x_putI (np := 31) (x := 734) (f := 30) (by decide +kernel) (by decide +kernel) (by first | decide | omega) (Or.inl (by decide)) ?_
        have j2171 := jU (e := 30) (v := (1 + (h1813 75 30))) 0 j1816 rg_75_30_0_1 (by first | decide | omega) (by first | decide | omega) (by first | decide | omega)
        have f2173 := jF (e := 30) (v := (1 + (h1813 75 30))) 0 f2164 rg_75_30_0_1 (by first | decide | omega) (by first | decide | omega) (by decide)
        have f2174 := jF (e := 30) (v := (1 + (h1813 75 30))) 0 f1815 rg_75_30_0_1 (by first | decide | omega) (by first | decide | omega) (by decide)
        generalize e2172 : x_up h1813 75 30 (1 + (h1813 75 30)) = h2170 at j2171 f2173 f2174 ⊢
        refine x_aload (np := 32) (x := 0) (by decide +kernel) rfl (x_nc_le (by decide)) ?_
        have q2175 : h2170 75 30 = (1 + (h1813 75 30)) := by rw [← e2172]; exact x_up_at
        refine x_getC (np := 35) (x := 734) (f := 30) (q := (1 + (h1813 75 30))) (by decide +kernel) (by decide) (by decide +kernel) q2175 (fun l2176 => ?_)
        refine x_const (np := 38) (x := 9223457938348199456) (a := 2147503648) (by decide +kernel) (by decide) (by decide) ?_
        refine x_icmp (k := 5) (tg := 43) (np := 41) (by decide +kernel) (by decide) (by first | decide | omega) (by decide) (fun q2177 => ?_) (fun q2178 => ?_)
        · have q2177 : (1 + (h1813 75 30)) ≤ 2147503648 := q2177
          refine x_aload (np := 44) (x := 0) (by decide +kernel) rfl (x_nc_le (by decide)) ?_
          refine x_iload (np := 45) (x := 2) (by decide +kernel) rfl (by decide) ?_
          refine x_cI (t := 6) (mj := 254) (n := 2) (rc := 12) (ml := 4) (nr := 0) (np := 48) (as := [x_r 75, iv_c 2147483649]) (rest := []) (lo1 := [x_r 75, iv_c 2147483649, 147573952589676412928, 147573952589676412928]) (by decide +kernel) (by decide) (by decide +kernel) (x_rb_of (by decide +kernel)) rfl rfl (x_wr (by decide) (x_wi (by decide) x_wn)) x_wn (by decide) rfl (c254_75 j2171  (by first | decide | omega)) (fun v2179 h2182 l2180 q2181 => ?_)
          obtain ⟨j2183, f2184, b2185⟩ := q2181
          have f2186 := Fr.trans f2173 f2184 (by decide)
          have f2187 := Fr.trans f2174 f2184 (by decide)
          refine x_istore (np := 49) (x := 3) (lo' := [x_r 75, iv_c 2147483650, iv_c 2147483649, iv_c v2179, iv_c 2147483649, w1812]) (by decide +kernel) l2180 (Nat.le_of_ble_eq_true rfl) rfl ?_
          refine x_iload (np := 50) (x := 3) (by decide +kernel) rfl l2180 ?_
          refine x_const (np := 51) (x := 9223372043297226753) (a := 2147483649) (by decide +kernel) (by decide) (by decide) ?_
          refine x_icmp (k := 1) (tg := 85) (np := 54) (by decide +kernel) (by decide) l2180 (by decide) (fun q2188 => ?_) (fun q2189 => ?_)
          · have q2188 : v2179 ≠ 2147483649 := q2188
            refine x_iload (np := 86) (x := 3) (by decide +kernel) rfl l2180 ?_
            refine x_const (np := 87) (x := 9223372043297226753) (a := 2147483649) (by decide +kernel) (by decide) (by decide) ?_
            refine x_icmp (k := 0) (tg := 95) (np := 90) (by decide +kernel) (by decide) l2180 (by decide) (fun q2190 => ?_) (fun q2191 => ?_)
            · have q2190 : v2179 = 2147483649 := q2190
              exfalso; omega
            have q2191 : ¬ (v2179 = 2147483649) := q2191
            refine x_iload (np := 91) (x := 2) (by decide +kernel) rfl (by decide) ?_
            refine x_iload (np := 92) (x := 1) (by decide +kernel) rfl (by decide) ?_
            refine x_icmp (k := 1) (tg := 102) (np := 95) (by decide +kernel) (by decide) (by decide) (by decide) (fun q2192 => ?_) (fun q2193 => ?_)
            · have q2192 : 2147483649 ≠ 2147483650 := q2192
              refine x_aload (np := 103) (x := 0) (by decide +kernel) rfl (x_nc_le (by decide)) ?_
              have q2194 : h2182 75 27 = 93 := by have z := jB (e := 27) 0 j2183 rg_75_27_0_1 (by decide) (by decide); omega
              refine x_getR (np := 106) (x := 731) (f := 27) (q := 93) (by decide +kernel) (by decide) (by decide +kernel) q2194 ?_
              refine x_iload (np := 107) (x := 2) (by decide +kernel) rfl (by decide) ?_
              have b2195 := jB (e := 1) 1 j2183 rg_93_0_1_6 (by first | decide | omega) (by first | decide | omega)
              refine x_aldC (np := 108) (x := 0) (n := 6) (i := 1) (q := (h2182 93 1)) (by decide +kernel) (by decide +kernel) (by first | decide | omega) (by first | decide | omega) (by decide) rfl (fun l2196 => ?_)
              refine x_ifz (k := 2) (tg := 122) (np := 111) (by decide +kernel) (by decide) l2196 (fun q2197 => ?_) (fun q2198 => ?_)
              · have q2197 : (h2182 93 1) < 2147483648 := q2197
                refine x_aload (np := 123) (x := 0) (by decide +kernel) rfl (x_nc_le (by decide)) ?_
                have q2199 : h2182 75 28 = 94 := by have z := jB (e := 28) 0 j2183 rg_75_28_0_1 (by decide) (by decide); omega
                refine x_getR (np := 126) (x := 732) (f := 28) (q := 94) (by decide +kernel) (by decide) (by decide +kernel) q2199 ?_
                refine x_iload (np := 127) (x := 2) (by decide +kernel) rfl (by decide) ?_
                have b2200 := jB (e := 1) 1 j2183 rg_94_0_1_6 (by first | decide | omega) (by first | decide | omega)
                refine x_aldC (np := 128) (x := 0) (n := 6) (i := 1) (q := (h2182 94 1)) (by decide +kernel) (by decide +kernel) (by first | decide | omega) (by first | decide | omega) (by decide) rfl (fun l2201 => ?_)
                refine x_ifz (k := 3) (tg := 135) (np := 131) (by decide +kernel) (by decide) l2201 (fun q2202 => ?_) (fun q2203 => ?_)
                · have q2202 : 2147483648 ≤ (h2182 94 1) := q2202
                  refine x_aload (np := 136) (x := 0) (by decide +kernel) rfl (x_nc_le (by decide)) ?_
                  refine x_iload (np := 137) (x := 2) (by decide +kernel) rfl (by decide) ?_
                  refine x_cP (t := 6) (mj := 257) (n := 2) (rc := 12) (ml := 3) (nr := 0) (np := 140) (as := [x_r 75, iv_c 2147483649]) (rest := []) (lo1 := [x_r 75, iv_c 2147483649, 147573952589676412928]) (by decide +kernel) (by decide) (by decide +kernel) (x_rb_of (by decide +kernel)) rfl rfl (x_wr (by decide) (x_wi (by decide) x_wn)) x_wn (by decide) rfl (c257_75_c1 j2183   (by first | decide | omega)) (fun v2204 l2205 q2206 => ?_)
                  refine x_istore (np := 142) (x := 5) (lo' := [x_r 75, iv_c 2147483650, iv_c 2147483649, iv_c v2179, iv_c 2147483649, iv_c v2204]) (by decide +kernel) l2205 (Nat.le_of_ble_eq_true rfl) rfl ?_
                  refine x_iload (np := 144) (x := 5) (by decide +kernel) rfl l2205 ?_
                  refine x_ifz (k := 2) (tg := 151) (np := 147) (by decide +kernel) (by decide) l2205 (fun q2207 => ?_) (fun q2208 => ?_)
                  · have q2207 : v2204 < 2147483648 := q2207
                    refine x_const (np := 152) (x := 9223372039002259456) (a := 2147483648) (by decide +kernel) (by decide) (by decide) ?_
                    refine x_istore (np := 154) (x := 4) (lo' := [x_r 75, iv_c 2147483650, iv_c 2147483649, iv_c v2179, iv_c 2147483648, iv_c v2204]) (by decide +kernel) (by decide) (Nat.le_of_ble_eq_true rfl) rfl ?_
                    refine x_iload (np := 156) (x := 4) (by decide +kernel) rfl (by decide) ?_
                    refine x_ifz (k := 0) (tg := 180) (np := 159) (by decide +kernel) (by decide) (by decide) (fun q2209 => ?_) (fun q2210 => ?_)
                    · have q2209 : 2147483648 = 2147483648 := q2209
                      refine x_iinc (np := 183) (i := 2) (j := 2147483647) (v := 2147483648) (lo' := [x_r 75, iv_c 2147483650, iv_c 2147483648, iv_c v2179, iv_c 2147483648, iv_c v2204]) (by decide +kernel) (by decide) (by decide) rfl (by decide) (by first | decide | omega) (by first | decide | omega) rfl ?_
                      refine x_goto (np := 186) (x := 12) (by decide +kernel) ?_
                      have q2211 : h2182 75 30 = h2170 75 30 := jK 0 f2184 rg_75_30_0_1 (by first | decide | omega) (by first | decide | omega) (by decide)
                      have q2212 : h2170 75 30 = (1 + (h1813 75 30)) := by rw [← e2172]; exact x_up_at
                      exact i1845 (iv_c v2179) (iv_c v2204) h2182 (by first | decide | omega) j2183 f2187 (by first | decide | omega)
                    have q2210 : ¬ (2147483648 = 2147483648) := q2210
                    exfalso; omega
                  have q2208 : ¬ (v2204 < 2147483648) := q2208
                  refine x_const (np := 148) (x := 9223372043297226753) (a := 2147483649) (by decide +kernel) (by decide) (by decide) ?_
                  refine x_goto (np := 151) (x := 152) (by decide +kernel) ?_
                  refine x_istore (np := 154) (x := 4) (lo' := [x_r 75, iv_c 2147483650, iv_c 2147483649, iv_c v2179, iv_c 2147483649, iv_c v2204]) (by decide +kernel) (by decide) (Nat.le_of_ble_eq_true rfl) rfl ?_
                  refine x_iload (np := 156) (x := 4) (by decide +kernel) rfl (by decide) ?_
                  refine x_ifz (k := 0) (tg := 180) (np := 159) (by decide +kernel) (by decide) (by decide) (fun q2213 => ?_) (fun q2214 => ?_)
                  · have q2213 : 2147483649 = 2147483648 := q2213
                    exfalso; omega
                  have q2214 : ¬ (2147483649 = 2147483648) := q2214
                  refine x_aload (np := 160) (x := 0) (by decide +kernel) rfl (x_nc_le (by decide)) ?_
                  have q2215 : h2182 75 27 = 93 := by have z := jB (e := 27) 0 j2183 rg_75_27_0_1 (by decide) (by decide); omega
                  refine x_getR (np := 163) (x := 731) (f := 27) (q := 93) (by decide +kernel) (by decide) (by decide +kernel) q2215 ?_
                  refine x_iload (np := 164) (x := 2) (by decide +kernel) rfl (by decide) ?_
                  refine x_iload (np := 166) (x := 5) (by decide +kernel) rfl l2205 ?_
                  refine x_ast (np := 167) (x := 0) (kd := 1) (n := 6) (i := 1) (by decide +kernel) (Or.inl rfl) (by decide +kernel) (by first | decide | omega) (by first | decide | omega) (by decide) l2205 (fun z => absurd z (by decide)) ?_
                  have j2217 := jU (e := 1) (v := v2204) 1 j2183 rg_93_0_1_6 (by first | decide | omega) (by first | decide | omega) (by first | decide | omega)
                  have f2219 := jF (e := 1) (v := v2204) 1 f2186 rg_93_0_1_6 (by first | decide | omega) (by first | decide | omega) (by decide)
                  have f2220 := jF (e := 1) (v := v2204) 1 f2187 rg_93_0_1_6 (by first | decide | omega) (by first | decide | omega) (by decide)
                  generalize e2218 : x_up h2182 93 1 v2204 = h2216 at j2217 f2219 f2220 ⊢
                  refine x_aload (np := 168) (x := 0) (by decide +kernel) rfl (x_nc_le (by decide)) ?_
                  refine x_iload (np := 170) (x := 5) (by decide +kernel) rfl l2205 ?_
                  refine x_const (np := 171) (x := 9223372043297226753) (a := 2147483649) (by decide +kernel) (by decide) (by decide) ?_
                  refine x_cV (t := 6) (mj := 248) (n := 3) (rc := 12) (ml := 4) (nr := 0) (np := 174) (as := [x_r 75, iv_c v2204, iv_c 2147483649]) (rest := []) (lo1 := [x_r 75, iv_c v2204, iv_c 2147483649, 147573952589676412928]) (by decide +kernel) (by decide) (by decide +kernel) (x_rb_of (by decide +kernel)) rfl rfl (x_wr (by decide) (x_wi l2205 (x_wi (by decide) x_wn))) x_wn (by decide) rfl (c248_75 j2217  (by first | decide | omega) (by first | decide | omega)) (fun h2224 q2223 => ?_)
                  obtain ⟨j2225, f2226⟩ := q2223
                  have f2229 := Fr.trans f2219 f2226 (by decide)
                  have f2230 := Fr.trans f2220 f2226 (by decide)
                  refine x_iinc (np := 177) (i := 2) (j := 2147483649) (v := 2147483650) (lo' := [x_r 75, iv_c 2147483650, iv_c 2147483650, iv_c v2179, iv_c 2147483649, iv_c v2204]) (by decide +kernel) (by decide) (by decide) rfl (by decide) (by first | decide | omega) (by first | decide | omega) rfl ?_
                  refine x_goto (np := 180) (x := 183) (by decide +kernel) ?_
                  refine x_goto (np := 186) (x := 12) (by decide +kernel) ?_
                  have q2231 : h2224 75 30 = h2216 75 30 := jK 0 f2226 rg_75_30_0_1 (by first | decide | omega) (by first | decide | omega) (by decide)
                  have q2232 : h2216 75 30 = h2182 75 30 := by rw [← e2218]; exact x_up_k (by decide)
                  have q2233 : h2182 75 30 = h2170 75 30 := jK 0 f2184 rg_75_30_0_1 (by first | decide | omega) (by first | decide | omega) (by decide)
                  have q2234 : h2170 75 30 = (1 + (h1813 75 30)) := by rw [← e2172]; exact x_up_at
                  exact i1843 (iv_c v2179) (iv_c v2204) h2224 (by first | decide | omega) j2225 f2230 (by first | decide | omega)
                have q2203 : ¬ (2147483648 ≤ (h2182 94 1)) := q2203
                refine x_const (np := 132) (x := 9223372034707292159) (a := 2147483647) (by decide +kernel) (by decide) (by decide) ?_
                refine x_goto (np := 135) (x := 140) (by decide +kernel) ?_
                refine x_istore (np := 142) (x := 5) (lo' := [x_r 75, iv_c 2147483650, iv_c 2147483649, iv_c v2179, iv_c 2147483649, iv_c 2147483647]) (by decide +kernel) (by decide) (Nat.le_of_ble_eq_true rfl) rfl ?_
                refine x_iload (np := 144) (x := 5) (by decide +kernel) rfl (by decide) ?_
                refine x_ifz (k := 2) (tg := 151) (np := 147) (by decide +kernel) (by decide) (by decide) (fun q2235 => ?_) (fun q2236 => ?_)
                · have q2235 : 2147483647 < 2147483648 := q2235
                  refine x_const (np := 152) (x := 9223372039002259456) (a := 2147483648) (by decide +kernel) (by decide) (by decide) ?_
                  refine x_istore (np := 154) (x := 4) (lo' := [x_r 75, iv_c 2147483650, iv_c 2147483649, iv_c v2179, iv_c 2147483648, iv_c 2147483647]) (by decide +kernel) (by decide) (Nat.le_of_ble_eq_true rfl) rfl ?_
                  refine x_iload (np := 156) (x := 4) (by decide +kernel) rfl (by decide) ?_
                  refine x_ifz (k := 0) (tg := 180) (np := 159) (by decide +kernel) (by decide) (by decide) (fun q2237 => ?_) (fun q2238 => ?_)
                  · have q2237 : 2147483648 = 2147483648 := q2237
                    refine x_iinc (np := 183) (i := 2) (j := 2147483647) (v := 2147483648) (lo' := [x_r 75, iv_c 2147483650, iv_c 2147483648, iv_c v2179, iv_c 2147483648, iv_c 2147483647]) (by decide +kernel) (by decide) (by decide) rfl (by decide) (by first | decide | omega) (by first | decide | omega) rfl ?_
                    refine x_goto (np := 186) (x := 12) (by decide +kernel) ?_
                    have q2239 : h2182 75 30 = h2170 75 30 := jK 0 f2184 rg_75_30_0_1 (by first | decide | omega) (by first | decide | omega) (by decide)
                    have q2240 : h2170 75 30 = (1 + (h1813 75 30)) := by rw [← e2172]; exact x_up_at
                    exact i1845 (iv_c v2179) (iv_c 2147483647) h2182 (by first | decide | omega) j2183 f2187 (by first | decide | omega)
                  have q2238 : ¬ (2147483648 = 2147483648) := q2238
                  exfalso; omega
                have q2236 : ¬ (2147483647 < 2147483648) := q2236
                exfalso; omega
              have q2198 : ¬ ((h2182 93 1) < 2147483648) := q2198
              refine x_aload (np := 112) (x := 0) (by decide +kernel) rfl (x_nc_le (by decide)) ?_
              refine x_aload (np := 113) (x := 0) (by decide +kernel) rfl (x_nc_le (by decide)) ?_
              have q2241 : h2182 75 27 = 93 := by have z := jB (e := 27) 0 j2183 rg_75_27_0_1 (by decide) (by decide); omega
              refine x_getR (np := 116) (x := 731) (f := 27) (q := 93) (by decide +kernel) (by decide) (by decide +kernel) q2241 ?_
              refine x_iload (np := 117) (x := 2) (by decide +kernel) rfl (by decide) ?_
              refine x_aldC (np := 118) (x := 0) (n := 6) (i := 1) (q := (h2182 93 1)) (by decide +kernel) (by decide +kernel) (by first | decide | omega) (by first | decide | omega) (by decide) rfl (fun l2242 => ?_)
              refine x_const (np := 119) (x := 9223372039002259456) (a := 2147483648) (by decide +kernel) (by decide) (by decide) ?_
              refine x_cV (t := 6) (mj := 248) (n := 3) (rc := 12) (ml := 4) (nr := 0) (np := 122) (as := [x_r 75, iv_c (h2182 93 1), iv_c 2147483648]) (rest := []) (lo1 := [x_r 75, iv_c (h2182 93 1), iv_c 2147483648, 147573952589676412928]) (by decide +kernel) (by decide) (by decide +kernel) (x_rb_of (by decide +kernel)) rfl rfl (x_wr (by decide) (x_wi l2196 (x_wi (by decide) x_wn))) x_wn (by decide) rfl (c248_75 j2183  (by first | decide | omega) (by first | decide | omega)) (fun h2246 q2245 => ?_)
              obtain ⟨j2247, f2248⟩ := q2245
              have f2251 := Fr.trans f2186 f2248 (by decide)
              have f2252 := Fr.trans f2187 f2248 (by decide)
              refine x_aload (np := 123) (x := 0) (by decide +kernel) rfl (x_nc_le (by decide)) ?_
              have q2253 : h2246 75 28 = 94 := by have z := jB (e := 28) 0 j2247 rg_75_28_0_1 (by decide) (by decide); omega
              refine x_getR (np := 126) (x := 732) (f := 28) (q := 94) (by decide +kernel) (by decide) (by decide +kernel) q2253 ?_
              refine x_iload (np := 127) (x := 2) (by decide +kernel) rfl (by decide) ?_
              have q2254 : h2246 94 1 = h2182 94 1 := jK 1 f2248 rg_94_0_1_6 (by first | decide | omega) (by first | decide | omega) (by decide)
              have b2255 := jB (e := 1) 1 j2183 rg_94_0_1_6 (by first | decide | omega) (by first | decide | omega)
              refine x_aldC (np := 128) (x := 0) (n := 6) (i := 1) (q := (h2182 94 1)) (by decide +kernel) (by decide +kernel) (by first | decide | omega) (by first | decide | omega) (by decide) q2254 (fun l2256 => ?_)
              refine x_ifz (k := 3) (tg := 135) (np := 131) (by decide +kernel) (by decide) l2256 (fun q2257 => ?_) (fun q2258 => ?_)
              · have q2257 : 2147483648 ≤ (h2182 94 1) := q2257
                refine x_aload (np := 136) (x := 0) (by decide +kernel) rfl (x_nc_le (by decide)) ?_
                refine x_iload (np := 137) (x := 2) (by decide +kernel) rfl (by decide) ?_
                have q2259 : h2246 94 1 = h2182 94 1 := jK 1 f2248 rg_94_0_1_6 (by first | decide | omega) (by first | decide | omega) (by decide)
                refine x_cP (t := 6) (mj := 257) (n := 2) (rc := 12) (ml := 3) (nr := 0) (np := 140) (as := [x_r 75, iv_c 2147483649]) (rest := []) (lo1 := [x_r 75, iv_c 2147483649, 147573952589676412928]) (by decide +kernel) (by decide) (by decide +kernel) (x_rb_of (by decide +kernel)) rfl rfl (x_wr (by decide) (x_wi (by decide) x_wn)) x_wn (by decide) rfl (c257_75_c1 j2247   (by first | decide | omega)) (fun v2260 l2261 q2262 => ?_)
                refine x_istore (np := 142) (x := 5) (lo' := [x_r 75, iv_c 2147483650, iv_c 2147483649, iv_c v2179, iv_c 2147483649, iv_c v2260]) (by decide +kernel) l2261 (Nat.le_of_ble_eq_true rfl) rfl ?_
                refine x_iload (np := 144) (x := 5) (by decide +kernel) rfl l2261 ?_
                refine x_ifz (k := 2) (tg := 151) (np := 147) (by decide +kernel) (by decide) l2261 (fun q2263 => ?_) (fun q2264 => ?_)
                · have q2263 : v2260 < 2147483648 := q2263
                  refine x_const (np := 152) (x := 9223372039002259456) (a := 2147483648) (by decide +kernel) (by decide) (by decide) ?_
                  refine x_istore (np := 154) (x := 4) (lo' := [x_r 75, iv_c 2147483650, iv_c 2147483649, iv_c v2179, iv_c 2147483648, iv_c v2260]) (by decide +kernel) (by decide) (Nat.le_of_ble_eq_true rfl) rfl ?_
                  refine x_iload (np := 156) (x := 4) (by decide +kernel) rfl (by decide) ?_
                  refine x_ifz (k := 0) (tg := 180) (np := 159) (by decide +kernel) (by decide) (by decide) (fun q2265 => ?_) (fun q2266 => ?_)
                  · have q2265 : 2147483648 = 2147483648 := q2265
                    refine x_iinc (np := 183) (i := 2) (j := 2147483647) (v := 2147483648) (lo' := [x_r 75, iv_c 2147483650, iv_c 2147483648, iv_c v2179, iv_c 2147483648, iv_c v2260]) (by decide +kernel) (by decide) (by decide) rfl (by decide) (by first | decide | omega) (by first | decide | omega) rfl ?_
                    refine x_goto (np := 186) (x := 12) (by decide +kernel) ?_
                    have q2267 : h2246 75 30 = h2182 75 30 := jK 0 f2248 rg_75_30_0_1 (by first | decide | omega) (by first | decide | omega) (by decide)
                    have q2268 : h2182 75 30 = h2170 75 30 := jK 0 f2184 rg_75_30_0_1 (by first | decide | omega) (by first | decide | omega) (by decide)
                    have q2269 : h2170 75 30 = (1 + (h1813 75 30)) := by rw [← e2172]; exact x_up_at
                    exact i1845 (iv_c v2179) (iv_c v2260) h2246 (by first | decide | omega) j2247 f2252 (by first | decide | omega)
                  have q2266 : ¬ (2147483648 = 2147483648) := q2266
                  exfalso; omega
                have q2264 : ¬ (v2260 < 2147483648) := q2264
                refine x_const (np := 148) (x := 9223372043297226753) (a := 2147483649) (by decide +kernel) (by decide) (by decide) ?_
                refine x_goto (np := 151) (x := 152) (by decide +kernel) ?_
                refine x_istore (np := 154) (x := 4) (lo' := [x_r 75, iv_c 2147483650, iv_c 2147483649, iv_c v2179, iv_c 2147483649, iv_c v2260]) (by decide +kernel) (by decide) (Nat.le_of_ble_eq_true rfl) rfl ?_
                refine x_iload (np := 156) (x := 4) (by decide +kernel) rfl (by decide) ?_
                refine x_ifz (k := 0) (tg := 180) (np := 159) (by decide +kernel) (by decide) (by decide) (fun q2270 => ?_) (fun q2271 => ?_)
                · have q2270 : 2147483649 = 2147483648 := q2270
                  exfalso; omega
                have q2271 : ¬ (2147483649 = 2147483648) := q2271
                refine x_aload (np := 160) (x := 0) (by decide +kernel) rfl (x_nc_le (by decide)) ?_
                have q2272 : h2246 75 27 = 93 := by have z := jB (e := 27) 0 j2247 rg_75_27_0_1 (by decide) (by decide); omega
                refine x_getR (np := 163) (x := 731) (f := 27) (q := 93) (by decide +kernel) (by decide) (by decide +kernel) q2272 ?_
                refine x_iload (np := 164) (x := 2) (by decide +kernel) rfl (by decide) ?_
                refine x_iload (np := 166) (x := 5) (by decide +kernel) rfl l2261 ?_
                refine x_ast (np := 167) (x := 0) (kd := 1) (n := 6) (i := 1) (by decide +kernel) (Or.inl rfl) (by decide +kernel) (by first | decide | omega) (by first | decide | omega) (by decide) l2261 (fun z => absurd z (by decide)) ?_
                have j2274 := jU (e := 1) (v := v2260) 1 j2247 rg_93_0_1_6 (by first | decide | omega) (by first | decide | omega) (by first | decide | omega)
                have f2276 := jF (e := 1) (v := v2260) 1 f2251 rg_93_0_1_6 (by first | decide | omega) (by first | decide | omega) (by decide)
                have f2277 := jF (e := 1) (v := v2260) 1 f2252 rg_93_0_1_6 (by first | decide | omega) (by first | decide | omega) (by decide)
                generalize e2275 : x_up h2246 93 1 v2260 = h2273 at j2274 f2276 f2277 ⊢
                refine x_aload (np := 168) (x := 0) (by decide +kernel) rfl (x_nc_le (by decide)) ?_
                refine x_iload (np := 170) (x := 5) (by decide +kernel) rfl l2261 ?_
                refine x_const (np := 171) (x := 9223372043297226753) (a := 2147483649) (by decide +kernel) (by decide) (by decide) ?_
                refine x_cV (t := 6) (mj := 248) (n := 3) (rc := 12) (ml := 4) (nr := 0) (np := 174) (as := [x_r 75, iv_c v2260, iv_c 2147483649]) (rest := []) (lo1 := [x_r 75, iv_c v2260, iv_c 2147483649, 147573952589676412928]) (by decide +kernel) (by decide) (by decide +kernel) (x_rb_of (by decide +kernel)) rfl rfl (x_wr (by decide) (x_wi l2261 (x_wi (by decide) x_wn))) x_wn (by decide) rfl (c248_75 j2274  (by first | decide | omega) (by first | decide | omega)) (fun h2281 q2280 => ?_)
                obtain ⟨j2282, f2283⟩ := q2280
                have f2286 := Fr.trans f2276 f2283 (by decide)
                have f2287 := Fr.trans f2277 f2283 (by decide)
                refine x_iinc (np := 177) (i := 2) (j := 2147483649) (v := 2147483650) (lo' := [x_r 75, iv_c 2147483650, iv_c 2147483650, iv_c v2179, iv_c 2147483649, iv_c v2260]) (by decide +kernel) (by decide) (by decide) rfl (by decide) (by first | decide | omega) (by first | decide | omega) rfl ?_
                refine x_goto (np := 180) (x := 183) (by decide +kernel) ?_
                refine x_goto (np := 186) (x := 12) (by decide +kernel) ?_
                have q2288 : h2281 75 30 = h2273 75 30 := jK 0 f2283 rg_75_30_0_1 (by first | decide | omega) (by first | decide | omega) (by decide)
                have q2289 : h2273 75 30 = h2246 75 30 := by rw [← e2275]; exact x_up_k (by decide)
                have q2290 : h2246 75 30 = h2182 75 30 := jK 0 f2248 rg_75_30_0_1 (by first | decide | omega) (by first | decide | omega) (by decide)
                have q2291 : h2182 75 30 = h2170 75 30 := jK 0 f2184 rg_75_30_0_1 (by first | decide | omega) (by first | decide | omega) (by decide)
                have q2292 : h2170 75 30 = (1 + (h1813 75 30)) := by rw [← e2172]; exact x_up_at
                exact i1843 (iv_c v2179) (iv_c v2260) h2281 (by first | decide | omega) j2282 f2287 (by first | decide | omega)
              have q2258 : ¬ (2147483648 ≤ (h2182 94 1)) := q2258
              refine x_const (np := 132) (x := 9223372034707292159) (a := 2147483647) (by decide +kernel) (by decide) (by decide) ?_
              refine x_goto (np := 135) (x := 140) (by decide +kernel) ?_
              refine x_istore (np := 142) (x := 5) (lo' := [x_r 75, iv_c 2147483650, iv_c 2147483649, iv_c v2179, iv_c 2147483649, iv_c 2147483647]) (by decide +kernel) (by decide) (Nat.le_of_ble_eq_true rfl) rfl ?_
              refine x_iload (np := 144) (x := 5) (by decide +kernel) rfl (by decide) ?_
              refine x_ifz (k := 2) (tg := 151) (np := 147) (by decide +kernel) (by decide) (by decide) (fun q2293 => ?_) (fun q2294 => ?_)
              · have q2293 : 2147483647 < 2147483648 := q2293
                refine x_const (np := 152) (x := 9223372039002259456) (a := 2147483648) (by decide +kernel) (by decide) (by decide) ?_
                refine x_istore (np := 154) (x := 4) (lo' := [x_r 75, iv_c 2147483650, iv_c 2147483649, iv_c v2179, iv_c 2147483648, iv_c 2147483647]) (by decide +kernel) (by decide) (Nat.le_of_ble_eq_true rfl) rfl ?_
                refine x_iload (np := 156) (x := 4) (by decide +kernel) rfl (by decide) ?_
                refine x_ifz (k := 0) (tg := 180) (np := 159) (by decide +kernel) (by decide) (by decide) (fun q2295 => ?_) (fun q2296 => ?_)
                · have q2295 : 2147483648 = 2147483648 := q2295
                  refine x_iinc (np := 183) (i := 2) (j := 2147483647) (v := 2147483648) (lo' := [x_r 75, iv_c 2147483650, iv_c 2147483648, iv_c v2179, iv_c 2147483648, iv_c 2147483647]) (by decide +kernel) (by decide) (by decide) rfl (by decide) (by first | decide | omega) (by first | decide | omega) rfl ?_
                  refine x_goto (np := 186) (x := 12) (by decide +kernel) ?_
                  have q2297 : h2246 75 30 = h2182 75 30 := jK 0 f2248 rg_75_30_0_1 (by first | decide | omega) (by first | decide | omega) (by decide)
                  have q2298 : h2182 75 30 = h2170 75 30 := jK 0 f2184 rg_75_30_0_1 (by first | decide | omega) (by first | decide | omega) (by decide)
                  have q2299 : h2170 75 30 = (1 + (h1813 75 30)) := by rw [← e2172]; exact x_up_at
                  exact i1845 (iv_c v2179) (iv_c 2147483647) h2246 (by first | decide | omega) j2247 f2252 (by first | decide | omega)
                have q2296 : ¬ (2147483648 = 2147483648) := q2296
                exfalso; omega
              have q2294 : ¬ (2147483647 < 2147483648) := q2294
              exfalso; omega
            have q2193 : ¬ (2147483649 ≠ 2147483650) := q2193
            exfalso; omega
          have q2189 : ¬ (v2179 ≠ 2147483649) := q2189
          refine x_aload (np := 55) (x := 0) (by decide +kernel) rfl (x_nc_le (by decide)) ?_
          have q2300 : h2182 75 34 = h2170 75 34 := jK 0 f2184 rg_75_34_0_1 (by first | decide | omega) (by first | decide | omega) (by decide)
          have q2301 : h2170 75 34 = h1813 75 34 := by rw [← e2172]; exact x_up_i (by first | decide | omega)
          refine x_getC (np := 58) (x := 738) (f := 34) (q := (h1813 75 34)) (by decide +kernel) (by decide) (by decide +kernel) (q2300.trans q2301) (fun l2302 => ?_)
          refine x_ifz (k := 1) (tg := 66) (np := 61) (by decide +kernel) (by decide) l2302 (fun q2303 => ?_) (fun q2304 => ?_)
          · have q2303 : (h1813 75 34) ≠ 2147483648 := q2303
            refine x_aload (np := 67) (x := 0) (by decide +kernel) rfl (x_nc_le (by decide)) ?_
            refine x_dup (np := 68) (x := 0) (by decide +kernel) (by have z := x_nc_le (k := 75) (by decide); unfold x_r; omega) ?_
            have q2305 : h2182 75 34 = h2170 75 34 := jK 0 f2184 rg_75_34_0_1 (by first | decide | omega) (by first | decide | omega) (by decide)
            have q2306 : h2170 75 34 = h1813 75 34 := by rw [← e2172]; exact x_up_i (by first | decide | omega)
            refine x_getC (np := 71) (x := 738) (f := 34) (q := (h1813 75 34)) (by decide +kernel) (by decide) (by decide +kernel) (q2305.trans q2306) (fun l2307 => ?_)
            refine x_const (np := 72) (x := 9223372043297226753) (a := 2147483649) (by decide +kernel) (by decide) (by decide) ?_
            refine x_addA (by rw [tb_b259]; decide +kernel) l2302 (by decide) (fun v2308 l2309 => ?_)
            refine x_putI (np := 76) (x := 738) (f := 34) (by decide +kernel) (by decide +kernel) l2309 (Or.inl (by decide)) ?_
            have j2311 := jU (e := 34) (v := v2308) 0 j2183 rg_75_34_0_1 (by first | decide | omega) (by first | decide | omega) (by first | decide | omega)
            have f2313 := jF (e := 34) (v := v2308) 0 f2186 rg_75_34_0_1 (by first | decide | omega) (by first | decide | omega) (by decide)
            have f2314 := jF (e := 34) (v := v2308) 0 f2187 rg_75_34_0_1 (by first | decide | omega) (by first | decide | omega) (by decide)
            generalize e2312 : x_up h2182 75 34 v2308 = h2310 at j2311 f2313 f2314 ⊢
            refine x_aload (np := 77) (x := 0) (by decide +kernel) rfl (x_nc_le (by decide)) ?_
            have q2315 : h2310 75 33 = h2182 75 33 := by rw [← e2312]; exact x_up_i (by first | decide | omega)
            have q2316 : h2182 75 33 = h2170 75 33 := jK 0 f2184 rg_75_33_0_1 (by first | decide | omega) (by first | decide | omega) (by decide)
            have q2317 : h2170 75 33 = h1813 75 33 := by rw [← e2172]; exact x_up_i (by first | decide | omega)
            have q2318 : h1813 75 33 = h2 75 33 := jK 0 f1815 rg_75_33_0_1 (by first | decide | omega) (by first | decide | omega) (by decide)
            have q2319 : h2 75 33 = h 75 33 := by rw [← e4]; exact x_up_i (by first | decide | omega)
            have b2320 := jB (e := 33) 0 hJ rg_75_33_0_1 (by first | decide | omega) (by first | decide | omega)
            refine x_getC (np := 80) (x := 737) (f := 33) (q := (h 75 33)) (by decide +kernel) (by decide) (by decide +kernel) ((((q2315.trans q2316).trans q2317).trans q2318).trans q2319) (fun l2321 => ?_)
            refine x_ifz (k := 0) (tg := 85) (np := 83) (by decide +kernel) (by decide) l2321 (fun q2322 => ?_) (fun q2323 => ?_)
            · have q2322 : (h 75 33) = 2147483648 := q2322
              refine x_iload (np := 86) (x := 3) (by decide +kernel) rfl l2180 ?_
              refine x_const (np := 87) (x := 9223372043297226753) (a := 2147483649) (by decide +kernel) (by decide) (by decide) ?_
              refine x_icmp (k := 0) (tg := 95) (np := 90) (by decide +kernel) (by decide) l2180 (by decide) (fun q2324 => ?_) (fun q2325 => ?_)
              · have q2324 : v2179 = 2147483649 := q2324
                refine x_aload (np := 96) (x := 0) (by decide +kernel) rfl (x_nc_le (by decide)) ?_
                have q2326 : h2310 75 28 = 94 := by have z := jB (e := 28) 0 j2311 rg_75_28_0_1 (by decide) (by decide); omega
                refine x_getR (np := 99) (x := 732) (f := 28) (q := 94) (by decide +kernel) (by decide) (by decide +kernel) q2326 ?_
                refine x_iload (np := 100) (x := 2) (by decide +kernel) rfl (by decide) ?_
                refine x_const (np := 101) (x := 9223372034707292159) (a := 2147483647) (by decide +kernel) (by decide) (by decide) ?_
                refine x_ast (np := 102) (x := 0) (kd := 1) (n := 6) (i := 1) (by decide +kernel) (Or.inl rfl) (by decide +kernel) (by first | decide | omega) (by first | decide | omega) (by decide) (by decide) (fun z => absurd z (by decide)) ?_
                have j2328 := jU (e := 1) (v := 2147483647) 1 j2311 rg_94_0_1_6 (by first | decide | omega) (by first | decide | omega) (by first | decide | omega)
                have f2330 := jF (e := 1) (v := 2147483647) 1 f2313 rg_94_0_1_6 (by first | decide | omega) (by first | decide | omega) (by decide)
                have f2331 := jF (e := 1) (v := 2147483647) 1 f2314 rg_94_0_1_6 (by first | decide | omega) (by first | decide | omega) (by decide)
                generalize e2329 : x_up h2310 94 1 2147483647 = h2327 at j2328 f2330 f2331 ⊢
                refine x_aload (np := 103) (x := 0) (by decide +kernel) rfl (x_nc_le (by decide)) ?_
                have q2332 : h2327 75 27 = 93 := by have z := jB (e := 27) 0 j2328 rg_75_27_0_1 (by decide) (by decide); omega
                refine x_getR (np := 106) (x := 731) (f := 27) (q := 93) (by decide +kernel) (by decide) (by decide +kernel) q2332 ?_
                refine x_iload (np := 107) (x := 2) (by decide +kernel) rfl (by decide) ?_
                have q2333 : h2327 93 1 = h2310 93 1 := by rw [← e2329]; exact x_up_k (by decide)
                have q2334 : h2310 93 1 = h2182 93 1 := by rw [← e2312]; exact x_up_k (by decide)
                have b2335 := jB (e := 1) 1 j2183 rg_93_0_1_6 (by first | decide | omega) (by first | decide | omega)
                refine x_aldC (np := 108) (x := 0) (n := 6) (i := 1) (q := (h2182 93 1)) (by decide +kernel) (by decide +kernel) (by first | decide | omega) (by first | decide | omega) (by decide) (q2333.trans q2334) (fun l2336 => ?_)
                refine x_ifz (k := 2) (tg := 122) (np := 111) (by decide +kernel) (by decide) l2336 (fun q2337 => ?_) (fun q2338 => ?_)
                · have q2337 : (h2182 93 1) < 2147483648 := q2337
                  refine x_aload (np := 123) (x := 0) (by decide +kernel) rfl (x_nc_le (by decide)) ?_
                  have q2339 : h2327 75 28 = 94 := by have z := jB (e := 28) 0 j2328 rg_75_28_0_1 (by decide) (by decide); omega
                  refine x_getR (np := 126) (x := 732) (f := 28) (q := 94) (by decide +kernel) (by decide) (by decide +kernel) q2339 ?_
                  refine x_iload (np := 127) (x := 2) (by decide +kernel) rfl (by decide) ?_
                  have q2340 : h2327 94 1 = 2147483647 := by rw [← e2329]; exact x_up_at
                  refine x_aldC (np := 128) (x := 0) (n := 6) (i := 1) (q := 2147483647) (by decide +kernel) (by decide +kernel) (by first | decide | omega) (by first | decide | omega) (by decide) q2340 (fun l2341 => ?_)
                  refine x_ifz (k := 3) (tg := 135) (np := 131) (by decide +kernel) (by decide) (by decide) (fun q2342 => ?_) (fun q2343 => ?_)
                  · have q2342 : 2147483648 ≤ 2147483647 := q2342
                    exfalso; omega
                  have q2343 : ¬ (2147483648 ≤ 2147483647) := q2343
                  refine x_const (np := 132) (x := 9223372034707292159) (a := 2147483647) (by decide +kernel) (by decide) (by decide) ?_
                  refine x_goto (np := 135) (x := 140) (by decide +kernel) ?_
                  refine x_istore (np := 142) (x := 5) (lo' := [x_r 75, iv_c 2147483650, iv_c 2147483649, iv_c v2179, iv_c 2147483649, iv_c 2147483647]) (by decide +kernel) (by decide) (Nat.le_of_ble_eq_true rfl) rfl ?_
                  refine x_iload (np := 144) (x := 5) (by decide +kernel) rfl (by decide) ?_
                  refine x_ifz (k := 2) (tg := 151) (np := 147) (by decide +kernel) (by decide) (by decide) (fun q2344 => ?_) (fun q2345 => ?_)
                  · have q2344 : 2147483647 < 2147483648 := q2344
                    refine x_const (np := 152) (x := 9223372039002259456) (a := 2147483648) (by decide +kernel) (by decide) (by decide) ?_
                    refine x_istore (np := 154) (x := 4) (lo' := [x_r 75, iv_c 2147483650, iv_c 2147483649, iv_c v2179, iv_c 2147483648, iv_c 2147483647]) (by decide +kernel) (by decide) (Nat.le_of_ble_eq_true rfl) rfl ?_
                    refine x_iload (np := 156) (x := 4) (by decide +kernel) rfl (by decide) ?_
                    refine x_ifz (k := 0) (tg := 180) (np := 159) (by decide +kernel) (by decide) (by decide) (fun q2346 => ?_) (fun q2347 => ?_)
                    · have q2346 : 2147483648 = 2147483648 := q2346
                      refine x_iinc (np := 183) (i := 2) (j := 2147483647) (v := 2147483648) (lo' := [x_r 75, iv_c 2147483650, iv_c 2147483648, iv_c v2179, iv_c 2147483648, iv_c 2147483647]) (by decide +kernel) (by decide) (by decide) rfl (by decide) (by first | decide | omega) (by first | decide | omega) rfl ?_
                      refine x_goto (np := 186) (x := 12) (by decide +kernel) ?_
                      have q2348 : h2327 75 30 = h2310 75 30 := by rw [← e2329]; exact x_up_k (by decide)
                      have q2349 : h2310 75 30 = h2182 75 30 := by rw [← e2312]; exact x_up_i (by first | decide | omega)
                      have q2350 : h2182 75 30 = h2170 75 30 := jK 0 f2184 rg_75_30_0_1 (by first | decide | omega) (by first | decide | omega) (by decide)
                      have q2351 : h2170 75 30 = (1 + (h1813 75 30)) := by rw [← e2172]; exact x_up_at
                      exact i1845 (iv_c v2179) (iv_c 2147483647) h2327 (by first | decide | omega) j2328 f2331 (by first | decide | omega)
                    have q2347 : ¬ (2147483648 = 2147483648) := q2347
                    exfalso; omega
                  have q2345 : ¬ (2147483647 < 2147483648) := q2345
                  exfalso; omega
                have q2338 : ¬ ((h2182 93 1) < 2147483648) := q2338
                refine x_aload (np := 112) (x := 0) (by decide +kernel) rfl (x_nc_le (by decide)) ?_
                refine x_aload (np := 113) (x := 0) (by decide +kernel) rfl (x_nc_le (by decide)) ?_
                have q2352 : h2327 75 27 = 93 := by have z := jB (e := 27) 0 j2328 rg_75_27_0_1 (by decide) (by decide); omega
                refine x_getR (np := 116) (x := 731) (f := 27) (q := 93) (by decide +kernel) (by decide) (by decide +kernel) q2352 ?_
                refine x_iload (np := 117) (x := 2) (by decide +kernel) rfl (by decide) ?_
                have q2353 : h2327 93 1 = h2310 93 1 := by rw [← e2329]; exact x_up_k (by decide)
                have q2354 : h2310 93 1 = h2182 93 1 := by rw [← e2312]; exact x_up_k (by decide)
                refine x_aldC (np := 118) (x := 0) (n := 6) (i := 1) (q := (h2182 93 1)) (by decide +kernel) (by decide +kernel) (by first | decide | omega) (by first | decide | omega) (by decide) (q2353.trans q2354) (fun l2355 => ?_)
                refine x_const (np := 119) (x := 9223372039002259456) (a := 2147483648) (by decide +kernel) (by decide) (by decide) ?_
                refine x_cV (t := 6) (mj := 248) (n := 3) (rc := 12) (ml := 4) (nr := 0) (np := 122) (as := [x_r 75, iv_c (h2182 93 1), iv_c 2147483648]) (rest := []) (lo1 := [x_r 75, iv_c (h2182 93 1), iv_c 2147483648, 147573952589676412928]) (by decide +kernel) (by decide) (by decide +kernel) (x_rb_of (by decide +kernel)) rfl rfl (x_wr (by decide) (x_wi l2336 (x_wi (by decide) x_wn))) x_wn (by decide) rfl (c248_75 j2328  (by first | decide | omega) (by first | decide | omega)) (fun h2359 q2358 => ?_)
                obtain ⟨j2360, f2361⟩ := q2358
                have f2364 := Fr.trans f2330 f2361 (by decide)
                have f2365 := Fr.trans f2331 f2361 (by decide)
                refine x_aload (np := 123) (x := 0) (by decide +kernel) rfl (x_nc_le (by decide)) ?_
                have q2366 : h2359 75 28 = 94 := by have z := jB (e := 28) 0 j2360 rg_75_28_0_1 (by decide) (by decide); omega
                refine x_getR (np := 126) (x := 732) (f := 28) (q := 94) (by decide +kernel) (by decide) (by decide +kernel) q2366 ?_
                refine x_iload (np := 127) (x := 2) (by decide +kernel) rfl (by decide) ?_
                have q2367 : h2359 94 1 = h2327 94 1 := jK 1 f2361 rg_94_0_1_6 (by first | decide | omega) (by first | decide | omega) (by decide)
                have q2368 : h2327 94 1 = 2147483647 := by rw [← e2329]; exact x_up_at
                refine x_aldC (np := 128) (x := 0) (n := 6) (i := 1) (q := 2147483647) (by decide +kernel) (by decide +kernel) (by first | decide | omega) (by first | decide | omega) (by decide) (q2367.trans q2368) (fun l2369 => ?_)
                refine x_ifz (k := 3) (tg := 135) (np := 131) (by decide +kernel) (by decide) (by decide) (fun q2370 => ?_) (fun q2371 => ?_)
                · have q2370 : 2147483648 ≤ 2147483647 := q2370
                  exfalso; omega
                have q2371 : ¬ (2147483648 ≤ 2147483647) := q2371
                refine x_const (np := 132) (x := 9223372034707292159) (a := 2147483647) (by decide +kernel) (by decide) (by decide) ?_
                refine x_goto (np := 135) (x := 140) (by decide +kernel) ?_
                refine x_istore (np := 142) (x := 5) (lo' := [x_r 75, iv_c 2147483650, iv_c 2147483649, iv_c v2179, iv_c 2147483649, iv_c 2147483647]) (by decide +kernel) (by decide) (Nat.le_of_ble_eq_true rfl) rfl ?_
                refine x_iload (np := 144) (x := 5) (by decide +kernel) rfl (by decide) ?_
                refine x_ifz (k := 2) (tg := 151) (np := 147) (by decide +kernel) (by decide) (by decide) (fun q2372 => ?_) (fun q2373 => ?_)
                · have q2372 : 2147483647 < 2147483648 := q2372
                  refine x_const (np := 152) (x := 9223372039002259456) (a := 2147483648) (by decide +kernel) (by decide) (by decide) ?_
                  refine x_istore (np := 154) (x := 4) (lo' := [x_r 75, iv_c 2147483650, iv_c 2147483649, iv_c v2179, iv_c 2147483648, iv_c 2147483647]) (by decide +kernel) (by decide) (Nat.le_of_ble_eq_true rfl) rfl ?_
                  refine x_iload (np := 156) (x := 4) (by decide +kernel) rfl (by decide) ?_
                  refine x_ifz (k := 0) (tg := 180) (np := 159) (by decide +kernel) (by decide) (by decide) (fun q2374 => ?_) (fun q2375 => ?_)
                  · have q2374 : 2147483648 = 2147483648 := q2374
                    refine x_iinc (np := 183) (i := 2) (j := 2147483647) (v := 2147483648) (lo' := [x_r 75, iv_c 2147483650, iv_c 2147483648, iv_c v2179, iv_c 2147483648, iv_c 2147483647]) (by decide +kernel) (by decide) (by decide) rfl (by decide) (by first | decide | omega) (by first | decide | omega) rfl ?_
                    refine x_goto (np := 186) (x := 12) (by decide +kernel) ?_
                    have q2376 : h2359 75 30 = h2327 75 30 := jK 0 f2361 rg_75_30_0_1 (by first | decide | omega) (by first | decide | omega) (by decide)
                    have q2377 : h2327 75 30 = h2310 75 30 := by rw [← e2329]; exact x_up_k (by decide)
                    have q2378 : h2310 75 30 = h2182 75 30 := by rw [← e2312]; exact x_up_i (by first | decide | omega)
                    have q2379 : h2182 75 30 = h2170 75 30 := jK 0 f2184 rg_75_30_0_1 (by first | decide | omega) (by first | decide | omega) (by decide)
                    have q2380 : h2170 75 30 = (1 + (h1813 75 30)) := by rw [← e2172]; exact x_up_at
                    exact i1845 (iv_c v2179) (iv_c 2147483647) h2359 (by first | decide | omega) j2360 f2365 (by first | decide | omega)
                  have q2375 : ¬ (2147483648 = 2147483648) := q2375
                  exfalso; omega
                have q2373 : ¬ (2147483647 < 2147483648) := q2373
                exfalso; omega
              have q2325 : ¬ (v2179 = 2147483649) := q2325
              exfalso; omega
            have q2323 : ¬ ((h 75 33) = 2147483648) := q2323
            refine x_const (np := 84) (x := 9223372043297226753) (a := 2147483649) (by decide +kernel) (by decide) (by decide) ?_
            have q2381 : h2310 75 30 = h2182 75 30 := by rw [← e2312]; exact x_up_i (by first | decide | omega)
            have q2382 : h2182 75 30 = h2170 75 30 := jK 0 f2184 rg_75_30_0_1 (by first | decide | omega) (by first | decide | omega) (by decide)
            have q2383 : h2170 75 30 = (1 + (h1813 75 30)) := by rw [← e2172]; exact x_up_at
            refine x_retI (np := 85) (x := 0) (by decide +kernel) (by decide) (Or.inr ⟨by decide +kernel, by first | decide | omega, by first | decide | omega⟩) ⟨_, rfl, (by decide), ?_⟩
            exact ⟨j2311, f2313, (by first | decide | omega), (fun z => by first | decide | omega)⟩
          have q2304 : ¬ ((h1813 75 34) ≠ 2147483648) := q2304
          refine x_aload (np := 62) (x := 0) (by decide +kernel) rfl (x_nc_le (by decide)) ?_
          refine x_iload (np := 63) (x := 2) (by decide +kernel) rfl (by decide) ?_
          refine x_cV (t := 6) (mj := 258) (n := 2) (rc := 12) (ml := 4) (nr := 0) (np := 66) (as := [x_r 75, iv_c 2147483649]) (rest := []) (lo1 := [x_r 75, iv_c 2147483649, 147573952589676412928, 147573952589676412928]) (by decide +kernel) (by decide) (by decide +kernel) (x_rb_of (by decide +kernel)) rfl rfl (x_wr (by decide) (x_wi (by decide) x_wn)) x_wn (by decide) rfl (c258_75 j2183  (by first | decide | omega)) (fun h2387 q2386 => ?_)
          obtain ⟨j2388, f2389⟩ := q2386
          have f2392 := Fr.trans f2186 f2389 (by decide)
          have f2393 := Fr.trans f2187 f2389 (by decide)
          refine x_aload (np := 67) (x := 0) (by decide +kernel) rfl (x_nc_le (by decide)) ?_
          refine x_dup (np := 68) (x := 0) (by decide +kernel) (by have z := x_nc_le (k := 75) (by decide); unfold x_r; omega) ?_
          have q2394 : h2387 75 34 = h2182 75 34 := jK 0 f2389 rg_75_34_0_1 (by first | decide | omega) (by first | decide | omega) (by decide)
          have q2395 : h2182 75 34 = h2170 75 34 := jK 0 f2184 rg_75_34_0_1 (by first | decide | omega) (by first | decide | omega) (by decide)
          have q2396 : h2170 75 34 = h1813 75 34 := by rw [← e2172]; exact x_up_i (by first | decide | omega)
          refine x_getC (np := 71) (x := 738) (f := 34) (q := (h1813 75 34)) (by decide +kernel) (by decide) (by decide +kernel) ((q2394.trans q2395).trans q2396) (fun l2397 => ?_)
          refine x_const (np := 72) (x := 9223372043297226753) (a := 2147483649) (by decide +kernel) (by decide) (by decide) ?_
          refine x_iadd (np := 73) (x := 0) (v := (1 + (h1813 75 34))) (by decide +kernel) l2302 (by decide) (by first | decide | omega) (by first | decide | omega) ?_
          refine x_putI (np := 76) (x := 738) (f := 34) (by decide +kernel) (by decide +kernel) (by first | decide | omega) (Or.inl (by decide)) ?_
          have j2399 := jU (e := 34) (v := (1 + (h1813 75 34))) 0 j2388 rg_75_34_0_1 (by first | decide | omega) (by first | decide | omega) (by first | decide | omega)
          have f2401 := jF (e := 34) (v := (1 + (h1813 75 34))) 0 f2392 rg_75_34_0_1 (by first | decide | omega) (by first | decide | omega) (by decide)
          have f2402 := jF (e := 34) (v := (1 + (h1813 75 34))) 0 f2393 rg_75_34_0_1 (by first | decide | omega) (by first | decide | omega) (by decide)
          generalize e2400 : x_up h2387 75 34 (1 + (h1813 75 34)) = h2398 at j2399 f2401 f2402 ⊢
          refine x_aload (np := 77) (x := 0) (by decide +kernel) rfl (x_nc_le (by decide)) ?_
          have q2403 : h2398 75 33 = h2387 75 33 := by rw [← e2400]; exact x_up_i (by first | decide | omega)
          have q2404 : h2387 75 33 = h2182 75 33 := jK 0 f2389 rg_75_33_0_1 (by first | decide | omega) (by first | decide | omega) (by decide)
          have q2405 : h2182 75 33 = h2170 75 33 := jK 0 f2184 rg_75_33_0_1 (by first | decide | omega) (by first | decide | omega) (by decide)
          have q2406 : h2170 75 33 = h1813 75 33 := by rw [← e2172]; exact x_up_i (by first | decide | omega)
          have q2407 : h1813 75 33 = h2 75 33 := jK 0 f1815 rg_75_33_0_1 (by first | decide | omega) (by first | decide | omega) (by decide)
          have q2408 : h2 75 33 = h 75 33 := by rw [← e4]; exact x_up_i (by first | decide | omega)
          have b2409 := jB (e := 33) 0 hJ rg_75_33_0_1 (by first | decide | omega) (by first | decide | omega)
          refine x_getC (np := 80) (x := 737) (f := 33) (q := (h 75 33)) (by decide +kernel) (by decide) (by decide +kernel) (((((q2403.trans q2404).trans q2405).trans q2406).trans q2407).trans q2408) (fun l2410 => ?_)
          refine x_ifz (k := 0) (tg := 85) (np := 83) (by decide +kernel) (by decide) l2410 (fun q2411 => ?_) (fun q2412 => ?_)
          · have q2411 : (h 75 33) = 2147483648 := q2411
            refine x_iload (np := 86) (x := 3) (by decide +kernel) rfl l2180 ?_
            refine x_const (np := 87) (x := 9223372043297226753) (a := 2147483649) (by decide +kernel) (by decide) (by decide) ?_
            refine x_icmp (k := 0) (tg := 95) (np := 90) (by decide +kernel) (by decide) l2180 (by decide) (fun q2413 => ?_) (fun q2414 => ?_)
            · have q2413 : v2179 = 2147483649 := q2413
              refine x_aload (np := 96) (x := 0) (by decide +kernel) rfl (x_nc_le (by decide)) ?_
              have q2415 : h2398 75 28 = 94 := by have z := jB (e := 28) 0 j2399 rg_75_28_0_1 (by decide) (by decide); omega
              refine x_getR (np := 99) (x := 732) (f := 28) (q := 94) (by decide +kernel) (by decide) (by decide +kernel) q2415 ?_
              refine x_iload (np := 100) (x := 2) (by decide +kernel) rfl (by decide) ?_
              refine x_const (np := 101) (x := 9223372034707292159) (a := 2147483647) (by decide +kernel) (by decide) (by decide) ?_
              refine x_ast (np := 102) (x := 0) (kd := 1) (n := 6) (i := 1) (by decide +kernel) (Or.inl rfl) (by decide +kernel) (by first | decide | omega) (by first | decide | omega) (by decide) (by decide) (fun z => absurd z (by decide)) ?_
              have j2417 := jU (e := 1) (v := 2147483647) 1 j2399 rg_94_0_1_6 (by first | decide | omega) (by first | decide | omega) (by first | decide | omega)
              have f2419 := jF (e := 1) (v := 2147483647) 1 f2401 rg_94_0_1_6 (by first | decide | omega) (by first | decide | omega) (by decide)
              have f2420 := jF (e := 1) (v := 2147483647) 1 f2402 rg_94_0_1_6 (by first | decide | omega) (by first | decide | omega) (by decide)
              generalize e2418 : x_up h2398 94 1 2147483647 = h2416 at j2417 f2419 f2420 ⊢
              refine x_aload (np := 103) (x := 0) (by decide +kernel) rfl (x_nc_le (by decide)) ?_
              have q2421 : h2416 75 27 = 93 := by have z := jB (e := 27) 0 j2417 rg_75_27_0_1 (by decide) (by decide); omega
              refine x_getR (np := 106) (x := 731) (f := 27) (q := 93) (by decide +kernel) (by decide) (by decide +kernel) q2421 ?_
              refine x_iload (np := 107) (x := 2) (by decide +kernel) rfl (by decide) ?_
              have q2422 : h2416 93 1 = h2398 93 1 := by rw [← e2418]; exact x_up_k (by decide)
              have q2423 : h2398 93 1 = h2387 93 1 := by rw [← e2400]; exact x_up_k (by decide)
              have q2424 : h2387 93 1 = h2182 93 1 := jK 1 f2389 rg_93_0_1_6 (by first | decide | omega) (by first | decide | omega) (by decide)
              have b2425 := jB (e := 1) 1 j2183 rg_93_0_1_6 (by first | decide | omega) (by first | decide | omega)
              refine x_aldC (np := 108) (x := 0) (n := 6) (i := 1) (q := (h2182 93 1)) (by decide +kernel) (by decide +kernel) (by first | decide | omega) (by first | decide | omega) (by decide) ((q2422.trans q2423).trans q2424) (fun l2426 => ?_)
              refine x_ifz (k := 2) (tg := 122) (np := 111) (by decide +kernel) (by decide) l2426 (fun q2427 => ?_) (fun q2428 => ?_)
              · have q2427 : (h2182 93 1) < 2147483648 := q2427
                refine x_aload (np := 123) (x := 0) (by decide +kernel) rfl (x_nc_le (by decide)) ?_
                have q2429 : h2416 75 28 = 94 := by have z := jB (e := 28) 0 j2417 rg_75_28_0_1 (by decide) (by decide); omega
                refine x_getR (np := 126) (x := 732) (f := 28) (q := 94) (by decide +kernel) (by decide) (by decide +kernel) q2429 ?_
                refine x_iload (np := 127) (x := 2) (by decide +kernel) rfl (by decide) ?_
                have q2430 : h2416 94 1 = 2147483647 := by rw [← e2418]; exact x_up_at
                refine x_aldC (np := 128) (x := 0) (n := 6) (i := 1) (q := 2147483647) (by decide +kernel) (by decide +kernel) (by first | decide | omega) (by first | decide | omega) (by decide) q2430 (fun l2431 => ?_)
                refine x_ifz (k := 3) (tg := 135) (np := 131) (by decide +kernel) (by decide) (by decide) (fun q2432 => ?_) (fun q2433 => ?_)
                · have q2432 : 2147483648 ≤ 2147483647 := q2432
                  exfalso; omega
                have q2433 : ¬ (2147483648 ≤ 2147483647) := q2433
                refine x_const (np := 132) (x := 9223372034707292159) (a := 2147483647) (by decide +kernel) (by decide) (by decide) ?_
                refine x_goto (np := 135) (x := 140) (by decide +kernel) ?_
                refine x_istore (np := 142) (x := 5) (lo' := [x_r 75, iv_c 2147483650, iv_c 2147483649, iv_c v2179, iv_c 2147483649, iv_c 2147483647]) (by decide +kernel) (by decide) (Nat.le_of_ble_eq_true rfl) rfl ?_
                refine x_iload (np := 144) (x := 5) (by decide +kernel) rfl (by decide) ?_
                refine x_ifz (k := 2) (tg := 151) (np := 147) (by decide +kernel) (by decide) (by decide) (fun q2434 => ?_) (fun q2435 => ?_)
                · have q2434 : 2147483647 < 2147483648 := q2434
                  refine x_const (np := 152) (x := 9223372039002259456) (a := 2147483648) (by decide +kernel) (by decide) (by decide) ?_
                  refine x_istore (np := 154) (x := 4) (lo' := [x_r 75, iv_c 2147483650, iv_c 2147483649, iv_c v2179, iv_c 2147483648, iv_c 2147483647]) (by decide +kernel) (by decide) (Nat.le_of_ble_eq_true rfl) rfl ?_
                  refine x_iload (np := 156) (x := 4) (by decide +kernel) rfl (by decide) ?_
                  refine x_ifz (k := 0) (tg := 180) (np := 159) (by decide +kernel) (by decide) (by decide) (fun q2436 => ?_) (fun q2437 => ?_)
                  · have q2436 : 2147483648 = 2147483648 := q2436
                    refine x_iinc (np := 183) (i := 2) (j := 2147483647) (v := 2147483648) (lo' := [x_r 75, iv_c 2147483650, iv_c 2147483648, iv_c v2179, iv_c 2147483648, iv_c 2147483647]) (by decide +kernel) (by decide) (by decide) rfl (by decide) (by first | decide | omega) (by first | decide | omega) rfl ?_
                    refine x_goto (np := 186) (x := 12) (by decide +kernel) ?_
                    have q2438 : h2416 75 30 = h2398 75 30 := by rw [← e2418]; exact x_up_k (by decide)
                    have q2439 : h2398 75 30 = h2387 75 30 := by rw [← e2400]; exact x_up_i (by first | decide | omega)
                    have q2440 : h2387 75 30 = h2182 75 30 := jK 0 f2389 rg_75_30_0_1 (by first | decide | omega) (by first | decide | omega) (by decide)
                    have q2441 : h2182 75 30 = h2170 75 30 := jK 0 f2184 rg_75_30_0_1 (by first | decide | omega) (by first | decide | omega) (by decide)
                    have q2442 : h2170 75 30 = (1 + (h1813 75 30)) := by rw [← e2172]; exact x_up_at
                    exact i1845 (iv_c v2179) (iv_c 2147483647) h2416 (by first | decide | omega) j2417 f2420 (by first | decide | omega)
                  have q2437 : ¬ (2147483648 = 2147483648) := q2437
                  exfalso; omega
                have q2435 : ¬ (2147483647 < 2147483648) := q2435
                exfalso; omega
              have q2428 : ¬ ((h2182 93 1) < 2147483648) := q2428
              refine x_aload (np := 112) (x := 0) (by decide +kernel) rfl (x_nc_le (by decide)) ?_
              refine x_aload (np := 113) (x := 0) (by decide +kernel) rfl (x_nc_le (by decide)) ?_
              have q2443 : h2416 75 27 = 93 := by have z := jB (e := 27) 0 j2417 rg_75_27_0_1 (by decide) (by decide); omega
              refine x_getR (np := 116) (x := 731) (f := 27) (q := 93) (by decide +kernel) (by decide) (by decide +kernel) q2443 ?_
              refine x_iload (np := 117) (x := 2) (by decide +kernel) rfl (by decide) ?_
              have q2444 : h2416 93 1 = h2398 93 1 := by rw [← e2418]; exact x_up_k (by decide)
              have q2445 : h2398 93 1 = h2387 93 1 := by rw [← e2400]; exact x_up_k (by decide)
              have q2446 : h2387 93 1 = h2182 93 1 := jK 1 f2389 rg_93_0_1_6 (by first | decide | omega) (by first | decide | omega) (by decide)
              refine x_aldC (np := 118) (x := 0) (n := 6) (i := 1) (q := (h2182 93 1)) (by decide +kernel) (by decide +kernel) (by first | decide | omega) (by first | decide | omega) (by decide) ((q2444.trans q2445).trans q2446) (fun l2447 => ?_)
              refine x_const (np := 119) (x := 9223372039002259456) (a := 2147483648) (by decide +kernel) (by decide) (by decide) ?_
              refine x_cV (t := 6) (mj := 248) (n := 3) (rc := 12) (ml := 4) (nr := 0) (np := 122) (as := [x_r 75, iv_c (h2182 93 1), iv_c 2147483648]) (rest := []) (lo1 := [x_r 75, iv_c (h2182 93 1), iv_c 2147483648, 147573952589676412928]) (by decide +kernel) (by decide) (by decide +kernel) (x_rb_of (by decide +kernel)) rfl rfl (x_wr (by decide) (x_wi l2426 (x_wi (by decide) x_wn))) x_wn (by decide) rfl (c248_75 j2417  (by first | decide | omega) (by first | decide | omega)) (fun h2451 q2450 => ?_)
              obtain ⟨j2452, f2453⟩ := q2450
              have f2456 := Fr.trans f2419 f2453 (by decide)
              have f2457 := Fr.trans f2420 f2453 (by decide)
              refine x_aload (np := 123) (x := 0) (by decide +kernel) rfl (x_nc_le (by decide)) ?_
              have q2458 : h2451 75 28 = 94 := by have z := jB (e := 28) 0 j2452 rg_75_28_0_1 (by decide) (by decide); omega
              refine x_getR (np := 126) (x := 732) (f := 28) (q := 94) (by decide +kernel) (by decide) (by decide +kernel) q2458 ?_
              refine x_iload (np := 127) (x := 2) (by decide +kernel) rfl (by decide) ?_
              have q2459 : h2451 94 1 = h2416 94 1 := jK 1 f2453 rg_94_0_1_6 (by first | decide | omega) (by first | decide | omega) (by decide)
              have q2460 : h2416 94 1 = 2147483647 := by rw [← e2418]; exact x_up_at
              refine x_aldC (np := 128) (x := 0) (n := 6) (i := 1) (q := 2147483647) (by decide +kernel) (by decide +kernel) (by first | decide | omega) (by first | decide | omega) (by decide) (q2459.trans q2460) (fun l2461 => ?_)
              refine x_ifz (k := 3) (tg := 135) (np := 131) (by decide +kernel) (by decide) (by decide) (fun q2462 => ?_) (fun q2463 => ?_)
              · have q2462 : 2147483648 ≤ 2147483647 := q2462
                exfalso; omega
              have q2463 : ¬ (2147483648 ≤ 2147483647) := q2463
              refine x_const (np := 132) (x := 9223372034707292159) (a := 2147483647) (by decide +kernel) (by decide) (by decide) ?_
              refine x_goto (np := 135) (x := 140) (by decide +kernel) ?_
              refine x_istore (np := 142) (x := 5) (lo' := [x_r 75, iv_c 2147483650, iv_c 2147483649, iv_c v2179, iv_c 2147483649, iv_c 2147483647]) (by decide +kernel) (by decide) (Nat.le_of_ble_eq_true rfl) rfl ?_
              refine x_iload (np := 144) (x := 5) (by decide +kernel) rfl (by decide) ?_
              refine x_ifz (k := 2) (tg := 151) (np := 147) (by decide +kernel) (by decide) (by decide) (fun q2464 => ?_) (fun q2465 => ?_)
              · have q2464 : 2147483647 < 2147483648 := q2464
                refine x_const (np := 152) (x := 9223372039002259456) (a := 2147483648) (by decide +kernel) (by decide) (by decide) ?_
                refine x_istore (np := 154) (x := 4) (lo' := [x_r 75, iv_c 2147483650, iv_c 2147483649, iv_c v2179, iv_c 2147483648, iv_c 2147483647]) (by decide +kernel) (by decide) (Nat.le_of_ble_eq_true rfl) rfl ?_
                refine x_iload (np := 156) (x := 4) (by decide +kernel) rfl (by decide) ?_
                refine x_ifz (k := 0) (tg := 180) (np := 159) (by decide +kernel) (by decide) (by decide) (fun q2466 => ?_) (fun q2467 => ?_)
                · have q2466 : 2147483648 = 2147483648 := q2466
                  refine x_iinc (np := 183) (i := 2) (j := 2147483647) (v := 2147483648) (lo' := [x_r 75, iv_c 2147483650, iv_c 2147483648, iv_c v2179, iv_c 2147483648, iv_c 2147483647]) (by decide +kernel) (by decide) (by decide) rfl (by decide) (by first | decide | omega) (by first | decide | omega) rfl ?_
                  refine x_goto (np := 186) (x := 12) (by decide +kernel) ?_
                  have q2468 : h2451 75 30 = h2416 75 30 := jK 0 f2453 rg_75_30_0_1 (by first | decide | omega) (by first | decide | omega) (by decide)
                  have q2469 : h2416 75 30 = h2398 75 30 := by rw [← e2418]; exact x_up_k (by decide)
                  have q2470 : h2398 75 30 = h2387 75 30 := by rw [← e2400]; exact x_up_i (by first | decide | omega)
                  have q2471 : h2387 75 30 = h2182 75 30 := jK 0 f2389 rg_75_30_0_1 (by first | decide | omega) (by first | decide | omega) (by decide)
                  have q2472 : h2182 75 30 = h2170 75 30 := jK 0 f2184 rg_75_30_0_1 (by first | decide | omega) (by first | decide | omega) (by decide)
                  have q2473 : h2170 75 30 = (1 + (h1813 75 30)) := by rw [← e2172]; exact x_up_at
                  exact i1845 (iv_c v2179) (iv_c 2147483647) h2451 (by first | decide | omega) j2452 f2457 (by first | decide | omega)
                have q2467 : ¬ (2147483648 = 2147483648) := q2467
                exfalso; omega
              have q2465 : ¬ (2147483647 < 2147483648) := q2465
              exfalso; omega
            have q2414 : ¬ (v2179 = 2147483649) := q2414
            exfalso; omega
          have q2412 : ¬ ((h 75 33) = 2147483648) := q2412
          refine x_const (np := 84) (x := 9223372043297226753) (a := 2147483649) (by decide +kernel) (by decide) (by decide) ?_
          have q2474 : h2398 75 30 = h2387 75 30 := by rw [← e2400]; exact x_up_i (by first | decide | omega)
          have q2475 : h2387 75 30 = h2182 75 30 := jK 0 f2389 rg_75_30_0_1 (by first | decide | omega) (by first | decide | omega) (by decide)
          have q2476 : h2182 75 30 = h2170 75 30 := jK 0 f2184 rg_75_30_0_1 (by first | decide | omega) (by first | decide | omega) (by decide)
          have q2477 : h2170 75 30 = (1 + (h1813 75 30)) := by rw [← e2172]; exact x_up_at
          refine x_retI (np := 85) (x := 0) (by decide +kernel) (by decide) (Or.inr ⟨by decide +kernel, by first | decide | omega, by first | decide | omega⟩) ⟨_, rfl, (by decide), ?_⟩
          exact ⟨j2399, f2401, (by first | decide | omega), (fun z => by first | decide | omega)⟩
        have q2178 : ¬ ((1 + (h1813 75 30)) ≤ 2147503648) := q2178
        refine x_const (np := 42) (x := 9223372039002259456) (a := 2147483648) (by decide +kernel) (by decide) (by decide) ?_
        have q2478 : h2170 75 30 = (1 + (h1813 75 30)) := by rw [← e2172]; exact x_up_at
        refine x_retI (np := 43) (x := 0) (by decide +kernel) (by decide) (Or.inr ⟨by decide +kernel, by first | decide | omega, by first | decide | omega⟩) ⟨_, rfl, (by decide), ?_⟩
        exact ⟨j2171, f2173, (by first | decide | omega), (fun z => by first | decide | omega)⟩
      · intro w1817 w1818 h1819 q2479 j1822 f1821 b1820
        have f2480 := Fr.trans f5 f1821 (by decide)
        refine x_iload (np := 13) (x := 2) (by decide +kernel) rfl (by decide) ?_
        refine x_ifz (k := 2) (tg := 186) (np := 16) (by decide +kernel) (by decide) (by decide) (fun q2481 => ?_) (fun q2482 => ?_)
        · have q2481 : 2147483650 < 2147483648 := q2481
          exfalso; omega
        have q2482 : ¬ (2147483650 < 2147483648) := q2482
        refine x_iload (np := 18) (x := 4) (by decide +kernel) rfl (by decide) ?_
        refine x_ifz (k := 0) (tg := 102) (np := 21) (by decide +kernel) (by decide) (by decide) (fun q2483 => ?_) (fun q2484 => ?_)
        · have q2483 : 2147483649 = 2147483648 := q2483
          exfalso; omega
        have q2484 : ¬ (2147483649 = 2147483648) := q2484
        refine x_aload (np := 22) (x := 0) (by decide +kernel) rfl (x_nc_le (by decide)) ?_
        refine x_dup (np := 23) (x := 0) (by decide +kernel) (by have z := x_nc_le (k := 75) (by decide); unfold x_r; omega) ?_
        refine x_getC (np := 26) (x := 734) (f := 30) (q := (h1819 75 30)) (by decide +kernel) (by decide) (by decide +kernel) rfl (fun l2485 => ?_)
        refine x_const (np := 27) (x := 9223372043297226753) (a := 2147483649) (by decide +kernel) (by decide) (by decide) ?_
        refine x_iadd (np := 28) (x := 0) (v := (1 + (h1819 75 30))) (by decide +kernel) l2485 (by decide) (by first | decide | omega) (by first | decide | omega) ?_
        refine x_putI (np := 31) (x := 734) (f := 30) (by decide +kernel) (by decide +kernel) (by first | decide | omega) (Or.inl (by decide)) ?_
        have j2487 := jU (e := 30) (v := (1 + (h1819 75 30))) 0 j1822 rg_75_30_0_1 (by first | decide | omega) (by first | decide | omega) (by first | decide | omega)
        have f2489 := jF (e := 30) (v := (1 + (h1819 75 30))) 0 f2480 rg_75_30_0_1 (by first | decide | omega) (by first | decide | omega) (by decide)
        have f2490 := jF (e := 30) (v := (1 + (h1819 75 30))) 0 f1821 rg_75_30_0_1 (by first | decide | omega) (by first | decide | omega) (by decide)
        generalize e2488 : x_up h1819 75 30 (1 + (h1819 75 30)) = h2486 at j2487 f2489 f2490 ⊢
        refine x_aload (np := 32) (x := 0) (by decide +kernel) rfl (x_nc_le (by decide)) ?_
        have q2491 : h2486 75 30 = (1 + (h1819 75 30)) := by rw [← e2488]; exact x_up_at
        refine x_getC (np := 35) (x := 734) (f := 30) (q := (1 + (h1819 75 30))) (by decide +kernel) (by decide) (by decide +kernel) q2491 (fun l2492 => ?_)
        refine x_const (np := 38) (x := 9223457938348199456) (a := 2147503648) (by decide +kernel) (by decide) (by decide) ?_
        refine x_icmp (k := 5) (tg := 43) (np := 41) (by decide +kernel) (by decide) (by first | decide | omega) (by decide) (fun q2493 => ?_) (fun q2494 => ?_)
        · have q2493 : (1 + (h1819 75 30)) ≤ 2147503648 := q2493
          refine x_aload (np := 44) (x := 0) (by decide +kernel) rfl (x_nc_le (by decide)) ?_
          refine x_iload (np := 45) (x := 2) (by decide +kernel) rfl (by decide) ?_
          refine x_cI (t := 6) (mj := 254) (n := 2) (rc := 12) (ml := 4) (nr := 0) (np := 48) (as := [x_r 75, iv_c 2147483650]) (rest := []) (lo1 := [x_r 75, iv_c 2147483650, 147573952589676412928, 147573952589676412928]) (by decide +kernel) (by decide) (by decide +kernel) (x_rb_of (by decide +kernel)) rfl rfl (x_wr (by decide) (x_wi (by decide) x_wn)) x_wn (by decide) rfl (c254_75 j2487  (by first | decide | omega)) (fun v2495 h2498 l2496 q2497 => ?_)
          obtain ⟨j2499, f2500, b2501⟩ := q2497
          have f2502 := Fr.trans f2489 f2500 (by decide)
          have f2503 := Fr.trans f2490 f2500 (by decide)
          refine x_istore (np := 49) (x := 3) (lo' := [x_r 75, iv_c 2147483650, iv_c 2147483650, iv_c v2495, iv_c 2147483649, w1818]) (by decide +kernel) l2496 (Nat.le_of_ble_eq_true rfl) rfl ?_
          refine x_iload (np := 50) (x := 3) (by decide +kernel) rfl l2496 ?_
          refine x_const (np := 51) (x := 9223372043297226753) (a := 2147483649) (by decide +kernel) (by decide) (by decide) ?_
          refine x_icmp (k := 1) (tg := 85) (np := 54) (by decide +kernel) (by decide) l2496 (by decide) (fun q2504 => ?_) (fun q2505 => ?_)
          · have q2504 : v2495 ≠ 2147483649 := q2504
            refine x_iload (np := 86) (x := 3) (by decide +kernel) rfl l2496 ?_
            refine x_const (np := 87) (x := 9223372043297226753) (a := 2147483649) (by decide +kernel) (by decide) (by decide) ?_
            refine x_icmp (k := 0) (tg := 95) (np := 90) (by decide +kernel) (by decide) l2496 (by decide) (fun q2506 => ?_) (fun q2507 => ?_)
            · have q2506 : v2495 = 2147483649 := q2506
              exfalso; omega
            have q2507 : ¬ (v2495 = 2147483649) := q2507
            refine x_iload (np := 91) (x := 2) (by decide +kernel) rfl (by decide) ?_
            refine x_iload (np := 92) (x := 1) (by decide +kernel) rfl (by decide) ?_
            refine x_icmp (k := 1) (tg := 102) (np := 95) (by decide +kernel) (by decide) (by decide) (by decide) (fun q2508 => ?_) (fun q2509 => ?_)
            · have q2508 : 2147483650 ≠ 2147483650 := q2508
              exfalso; omega
            have q2509 : ¬ (2147483650 ≠ 2147483650) := q2509
            refine x_aload (np := 96) (x := 0) (by decide +kernel) rfl (x_nc_le (by decide)) ?_
            have q2510 : h2498 75 28 = 94 := by have z := jB (e := 28) 0 j2499 rg_75_28_0_1 (by decide) (by decide); omega
            refine x_getR (np := 99) (x := 732) (f := 28) (q := 94) (by decide +kernel) (by decide) (by decide +kernel) q2510 ?_
            refine x_iload (np := 100) (x := 2) (by decide +kernel) rfl (by decide) ?_
            refine x_const (np := 101) (x := 9223372034707292159) (a := 2147483647) (by decide +kernel) (by decide) (by decide) ?_
            refine x_ast (np := 102) (x := 0) (kd := 1) (n := 6) (i := 2) (by decide +kernel) (Or.inl rfl) (by decide +kernel) (by first | decide | omega) (by first | decide | omega) (by decide) (by decide) (fun z => absurd z (by decide)) ?_
            have j2512 := jU (e := 2) (v := 2147483647) 2 j2499 rg_94_0_1_6 (by first | decide | omega) (by first | decide | omega) (by first | decide | omega)
            have f2514 := jF (e := 2) (v := 2147483647) 2 f2502 rg_94_0_1_6 (by first | decide | omega) (by first | decide | omega) (by decide)
            have f2515 := jF (e := 2) (v := 2147483647) 2 f2503 rg_94_0_1_6 (by first | decide | omega) (by first | decide | omega) (by decide)
            generalize e2513 : x_up h2498 94 2 2147483647 = h2511 at j2512 f2514 f2515 ⊢
            refine x_aload (np := 103) (x := 0) (by decide +kernel) rfl (x_nc_le (by decide)) ?_
            have q2516 : h2511 75 27 = 93 := by have z := jB (e := 27) 0 j2512 rg_75_27_0_1 (by decide) (by decide); omega
            refine x_getR (np := 106) (x := 731) (f := 27) (q := 93) (by decide +kernel) (by decide) (by decide +kernel) q2516 ?_
            refine x_iload (np := 107) (x := 2) (by decide +kernel) rfl (by decide) ?_
            have q2517 : h2511 93 2 = h2498 93 2 := by rw [← e2513]; exact x_up_k (by decide)
            have b2518 := jB (e := 2) 2 j2499 rg_93_0_1_6 (by first | decide | omega) (by first | decide | omega)
            refine x_aldC (np := 108) (x := 0) (n := 6) (i := 2) (q := (h2498 93 2)) (by decide +kernel) (by decide +kernel) (by first | decide | omega) (by first | decide | omega) (by decide) q2517 (fun l2519 => ?_)
            refine x_ifz (k := 2) (tg := 122) (np := 111) (by decide +kernel) (by decide) l2519 (fun q2520 => ?_) (fun q2521 => ?_)
            · have q2520 : (h2498 93 2) < 2147483648 := q2520
              refine x_aload (np := 123) (x := 0) (by decide +kernel) rfl (x_nc_le (by decide)) ?_
              have q2522 : h2511 75 28 = 94 := by have z := jB (e := 28) 0 j2512 rg_75_28_0_1 (by decide) (by decide); omega
              refine x_getR (np := 126) (x := 732) (f := 28) (q := 94) (by decide +kernel) (by decide) (by decide +kernel) q2522 ?_
              refine x_iload (np := 127) (x := 2) (by decide +kernel) rfl (by decide) ?_
              have q2523 : h2511 94 2 = 2147483647 := by rw [← e2513]; exact x_up_at
              refine x_aldC (np := 128) (x := 0) (n := 6) (i := 2) (q := 2147483647) (by decide +kernel) (by decide +kernel) (by first | decide | omega) (by first | decide | omega) (by decide) q2523 (fun l2524 => ?_)
              refine x_ifz (k := 3) (tg := 135) (np := 131) (by decide +kernel) (by decide) (by decide) (fun q2525 => ?_) (fun q2526 => ?_)
              · have q2525 : 2147483648 ≤ 2147483647 := q2525
                exfalso; omega
              have q2526 : ¬ (2147483648 ≤ 2147483647) := q2526
              refine x_const (np := 132) (x := 9223372034707292159) (a := 2147483647) (by decide +kernel) (by decide) (by decide) ?_
              refine x_goto (np := 135) (x := 140) (by decide +kernel) ?_
              refine x_istore (np := 142) (x := 5) (lo' := [x_r 75, iv_c 2147483650, iv_c 2147483650, iv_c v2495, iv_c 2147483649, iv_c 2147483647]) (by decide +kernel) (by decide) (Nat.le_of_ble_eq_true rfl) rfl ?_
              refine x_iload (np := 144) (x := 5) (by decide +kernel) rfl (by decide) ?_
              refine x_ifz (k := 2) (tg := 151) (np := 147) (by decide +kernel) (by decide) (by decide) (fun q2527 => ?_) (fun q2528 => ?_)
              · have q2527 : 2147483647 < 2147483648 := q2527
                refine x_const (np := 152) (x := 9223372039002259456) (a := 2147483648) (by decide +kernel) (by decide) (by decide) ?_
                refine x_istore (np := 154) (x := 4) (lo' := [x_r 75, iv_c 2147483650, iv_c 2147483650, iv_c v2495, iv_c 2147483648, iv_c 2147483647]) (by decide +kernel) (by decide) (Nat.le_of_ble_eq_true rfl) rfl ?_
                refine x_iload (np := 156) (x := 4) (by decide +kernel) rfl (by decide) ?_
                refine x_ifz (k := 0) (tg := 180) (np := 159) (by decide +kernel) (by decide) (by decide) (fun q2529 => ?_) (fun q2530 => ?_)
                · have q2529 : 2147483648 = 2147483648 := q2529
                  refine x_iinc (np := 183) (i := 2) (j := 2147483647) (v := 2147483649) (lo' := [x_r 75, iv_c 2147483650, iv_c 2147483649, iv_c v2495, iv_c 2147483648, iv_c 2147483647]) (by decide +kernel) (by decide) (by decide) rfl (by decide) (by first | decide | omega) (by first | decide | omega) rfl ?_
                  refine x_goto (np := 186) (x := 12) (by decide +kernel) ?_
                  have q2531 : h2511 75 30 = h2498 75 30 := by rw [← e2513]; exact x_up_k (by decide)
                  have q2532 : h2498 75 30 = h2486 75 30 := jK 0 f2500 rg_75_30_0_1 (by first | decide | omega) (by first | decide | omega) (by decide)
                  have q2533 : h2486 75 30 = (1 + (h1819 75 30)) := by rw [← e2488]; exact x_up_at
                  exact i1846 (iv_c v2495) (iv_c 2147483647) h2511 (by first | decide | omega) j2512 f2515 (by first | decide | omega)
                have q2530 : ¬ (2147483648 = 2147483648) := q2530
                exfalso; omega
              have q2528 : ¬ (2147483647 < 2147483648) := q2528
              exfalso; omega
            have q2521 : ¬ ((h2498 93 2) < 2147483648) := q2521
            refine x_aload (np := 112) (x := 0) (by decide +kernel) rfl (x_nc_le (by decide)) ?_
            refine x_aload (np := 113) (x := 0) (by decide +kernel) rfl (x_nc_le (by decide)) ?_
            have q2534 : h2511 75 27 = 93 := by have z := jB (e := 27) 0 j2512 rg_75_27_0_1 (by decide) (by decide); omega
            refine x_getR (np := 116) (x := 731) (f := 27) (q := 93) (by decide +kernel) (by decide) (by decide +kernel) q2534 ?_
            refine x_iload (np := 117) (x := 2) (by decide +kernel) rfl (by decide) ?_
            have q2535 : h2511 93 2 = h2498 93 2 := by rw [← e2513]; exact x_up_k (by decide)
            refine x_aldC (np := 118) (x := 0) (n := 6) (i := 2) (q := (h2498 93 2)) (by decide +kernel) (by decide +kernel) (by first | decide | omega) (by first | decide | omega) (by decide) q2535 (fun l2536 => ?_)
            refine x_const (np := 119) (x := 9223372039002259456) (a := 2147483648) (by decide +kernel) (by decide) (by decide) ?_
            refine x_cV (t := 6) (mj := 248) (n := 3) (rc := 12) (ml := 4) (nr := 0) (np := 122) (as := [x_r 75, iv_c (h2498 93 2), iv_c 2147483648]) (rest := []) (lo1 := [x_r 75, iv_c (h2498 93 2), iv_c 2147483648, 147573952589676412928]) (by decide +kernel) (by decide) (by decide +kernel) (x_rb_of (by decide +kernel)) rfl rfl (x_wr (by decide) (x_wi l2519 (x_wi (by decide) x_wn))) x_wn (by decide) rfl (c248_75 j2512  (by first | decide | omega) (by first | decide | omega)) (fun h2540 q2539 => ?_)
            obtain ⟨j2541, f2542⟩ := q2539
            have f2545 := Fr.trans f2514 f2542 (by decide)
            have f2546 := Fr.trans f2515 f2542 (by decide)
            refine x_aload (np := 123) (x := 0) (by decide +kernel) rfl (x_nc_le (by decide)) ?_
            have q2547 : h2540 75 28 = 94 := by have z := jB (e := 28) 0 j2541 rg_75_28_0_1 (by decide) (by decide); omega
            refine x_getR (np := 126) (x := 732) (f := 28) (q := 94) (by decide +kernel) (by decide) (by decide +kernel) q2547 ?_
            refine x_iload (np := 127) (x := 2) (by decide +kernel) rfl (by decide) ?_
            have q2548 : h2540 94 2 = h2511 94 2 := jK 2 f2542 rg_94_0_1_6 (by first | decide | omega) (by first | decide | omega) (by decide)
            have q2549 : h2511 94 2 = 2147483647 := by rw [← e2513]; exact x_up_at
            refine x_aldC (np := 128) (x := 0) (n := 6) (i := 2) (q := 2147483647) (by decide +kernel) (by decide +kernel) (by first | decide | omega) (by first | decide | omega) (by decide) (q2548.trans q2549) (fun l2550 => ?_)
            refine x_ifz (k := 3) (tg := 135) (np := 131) (by decide +kernel) (by decide) (by decide) (fun q2551 => ?_) (fun q2552 => ?_)
            · have q2551 : 2147483648 ≤ 2147483647 := q2551
              exfalso; omega
            have q2552 : ¬ (2147483648 ≤ 2147483647) := q2552
            refine x_const (np := 132) (x := 9223372034707292159) (a := 2147483647) (by decide +kernel) (by decide) (by decide) ?_
            refine x_goto (np := 135) (x := 140) (by decide +kernel) ?_
            refine x_istore (np := 142) (x := 5) (lo' := [x_r 75, iv_c 2147483650, iv_c 2147483650, iv_c v2495, iv_c 2147483649, iv_c 2147483647]) (by decide +kernel) (by decide) (Nat.le_of_ble_eq_true rfl) rfl ?_
            refine x_iload (np := 144) (x := 5) (by decide +kernel) rfl (by decide) ?_
            refine x_ifz (k := 2) (tg := 151) (np := 147) (by decide +kernel) (by decide) (by decide) (fun q2553 => ?_) (fun q2554 => ?_)
            · have q2553 : 2147483647 < 2147483648 := q2553
              refine x_const (np := 152) (x := 9223372039002259456) (a := 2147483648) (by decide +kernel) (by decide) (by decide) ?_
              refine x_istore (np := 154) (x := 4) (lo' := [x_r 75, iv_c 2147483650, iv_c 2147483650, iv_c v2495, iv_c 2147483648, iv_c 2147483647]) (by decide +kernel) (by decide) (Nat.le_of_ble_eq_true rfl) rfl ?_
              refine x_iload (np := 156) (x := 4) (by decide +kernel) rfl (by decide) ?_
              refine x_ifz (k := 0) (tg := 180) (np := 159) (by decide +kernel) (by decide) (by decide) (fun q2555 => ?_) (fun q2556 => ?_)
              · have q2555 : 2147483648 = 2147483648 := q2555
                refine x_iinc (np := 183) (i := 2) (j := 2147483647) (v := 2147483649) (lo' := [x_r 75, iv_c 2147483650, iv_c 2147483649, iv_c v2495, iv_c 2147483648, iv_c 2147483647]) (by decide +kernel) (by decide) (by decide) rfl (by decide) (by first | decide | omega) (by first | decide | omega) rfl ?_
                refine x_goto (np := 186) (x := 12) (by decide +kernel) ?_
                have q2557 : h2540 75 30 = h2511 75 30 := jK 0 f2542 rg_75_30_0_1 (by first | decide | omega) (by first | decide | omega) (by decide)
                have q2558 : h2511 75 30 = h2498 75 30 := by rw [← e2513]; exact x_up_k (by decide)
                have q2559 : h2498 75 30 = h2486 75 30 := jK 0 f2500 rg_75_30_0_1 (by first | decide | omega) (by first | decide | omega) (by decide)
                have q2560 : h2486 75 30 = (1 + (h1819 75 30)) := by rw [← e2488]; exact x_up_at
                exact i1846 (iv_c v2495) (iv_c 2147483647) h2540 (by first | decide | omega) j2541 f2546 (by first | decide | omega)
              have q2556 : ¬ (2147483648 = 2147483648) := q2556
              exfalso; omega
            have q2554 : ¬ (2147483647 < 2147483648) := q2554
            exfalso; omega
          have q2505 : ¬ (v2495 ≠ 2147483649) := q2505
          refine x_aload (np := 55) (x := 0) (by decide +kernel) rfl (x_nc_le (by decide)) ?_
          have q2561 : h2498 75 34 = h2486 75 34 := jK 0 f2500 rg_75_34_0_1 (by first | decide | omega) (by first | decide | omega) (by decide)
          have q2562 : h2486 75 34 = h1819 75 34 := by rw [← e2488]; exact x_up_i (by first | decide | omega)
          refine x_getC (np := 58) (x := 738) (f := 34) (q := (h1819 75 34)) (by decide +kernel) (by decide) (by decide +kernel) (q2561.trans q2562) (fun l2563 => ?_)
          refine x_ifz (k := 1) (tg := 66) (np := 61) (by decide +kernel) (by decide) l2563 (fun q2564 => ?_) (fun q2565 => ?_)
          · have q2564 : (h1819 75 34) ≠ 2147483648 := q2564
            refine x_aload (np := 67) (x := 0) (by decide +kernel) rfl (x_nc_le (by decide)) ?_
            refine x_dup (np := 68) (x := 0) (by decide +kernel) (by have z := x_nc_le (k := 75) (by decide); unfold x_r; omega) ?_
            have q2566 : h2498 75 34 = h2486 75 34 := jK 0 f2500 rg_75_34_0_1 (by first | decide | omega) (by first | decide | omega) (by decide)
            have q2567 : h2486 75 34 = h1819 75 34 := by rw [← e2488]; exact x_up_i (by first | decide | omega)
            refine x_getC (np := 71) (x := 738) (f := 34) (q := (h1819 75 34)) (by decide +kernel) (by decide) (by decide +kernel) (q2566.trans q2567) (fun l2568 => ?_)
            refine x_const (np := 72) (x := 9223372043297226753) (a := 2147483649) (by decide +kernel) (by decide) (by decide) ?_
            refine x_addA (by rw [tb_b259]; decide +kernel) l2563 (by decide) (fun v2569 l2570 => ?_)
            refine x_putI (np := 76) (x := 738) (f := 34) (by decide +kernel) (by decide +kernel) l2570 (Or.inl (by decide)) ?_
            have j2572 := jU (e := 34) (v := v2569) 0 j2499 rg_75_34_0_1 (by first | decide | omega) (by first | decide | omega) (by first | decide | omega)
            have f2574 := jF (e := 34) (v := v2569) 0 f2502 rg_75_34_0_1 (by first | decide | omega) (by first | decide | omega) (by decide)
            have f2575 := jF (e := 34) (v := v2569) 0 f2503 rg_75_34_0_1 (by first | decide | omega) (by first | decide | omega) (by decide)
            generalize e2573 : x_up h2498 75 34 v2569 = h2571 at j2572 f2574 f2575 ⊢
            refine x_aload (np := 77) (x := 0) (by decide +kernel) rfl (x_nc_le (by decide)) ?_
            have q2576 : h2571 75 33 = h2498 75 33 := by rw [← e2573]; exact x_up_i (by first | decide | omega)
            have q2577 : h2498 75 33 = h2486 75 33 := jK 0 f2500 rg_75_33_0_1 (by first | decide | omega) (by first | decide | omega) (by decide)
            have q2578 : h2486 75 33 = h1819 75 33 := by rw [← e2488]; exact x_up_i (by first | decide | omega)
            have q2579 : h1819 75 33 = h2 75 33 := jK 0 f1821 rg_75_33_0_1 (by first | decide | omega) (by first | decide | omega) (by decide)
            have q2580 : h2 75 33 = h 75 33 := by rw [← e4]; exact x_up_i (by first | decide | omega)
            have b2581 := jB (e := 33) 0 hJ rg_75_33_0_1 (by first | decide | omega) (by first | decide | omega)
            refine x_getC (np := 80) (x := 737) (f := 33) (q := (h 75 33)) (by decide +kernel) (by decide) (by decide +kernel) ((((q2576.trans q2577).trans q2578).trans q2579).trans q2580) (fun l2582 => ?_)
            refine x_ifz (k := 0) (tg := 85) (np := 83) (by decide +kernel) (by decide) l2582 (fun q2583 => ?_) (fun q2584 => ?_)
            · have q2583 : (h 75 33) = 2147483648 := q2583
              refine x_iload (np := 86) (x := 3) (by decide +kernel) rfl l2496 ?_
              refine x_const (np := 87) (x := 9223372043297226753) (a := 2147483649) (by decide +kernel) (by decide) (by decide) ?_
              refine x_icmp (k := 0) (tg := 95) (np := 90) (by decide +kernel) (by decide) l2496 (by decide) (fun q2585 => ?_) (fun q2586 => ?_)
              · have q2585 : v2495 = 2147483649 := q2585
                refine x_aload (np := 96) (x := 0) (by decide +kernel) rfl (x_nc_le (by decide)) ?_
                have q2587 : h2571 75 28 = 94 := by have z := jB (e := 28) 0 j2572 rg_75_28_0_1 (by decide) (by decide); omega
                refine x_getR (np := 99) (x := 732) (f := 28) (q := 94) (by decide +kernel) (by decide) (by decide +kernel) q2587 ?_
                refine x_iload (np := 100) (x := 2) (by decide +kernel) rfl (by decide) ?_
                refine x_const (np := 101) (x := 9223372034707292159) (a := 2147483647) (by decide +kernel) (by decide) (by decide) ?_
                refine x_ast (np := 102) (x := 0) (kd := 1) (n := 6) (i := 2) (by decide +kernel) (Or.inl rfl) (by decide +kernel) (by first | decide | omega) (by first | decide | omega) (by decide) (by decide) (fun z => absurd z (by decide)) ?_
                have j2589 := jU (e := 2) (v := 2147483647) 2 j2572 rg_94_0_1_6 (by first | decide | omega) (by first | decide | omega) (by first | decide | omega)
                have f2591 := jF (e := 2) (v := 2147483647) 2 f2574 rg_94_0_1_6 (by first | decide | omega) (by first | decide | omega) (by decide)
                have f2592 := jF (e := 2) (v := 2147483647) 2 f2575 rg_94_0_1_6 (by first | decide | omega) (by first | decide | omega) (by decide)
                generalize e2590 : x_up h2571 94 2 2147483647 = h2588 at j2589 f2591 f2592 ⊢
                refine x_aload (np := 103) (x := 0) (by decide +kernel) rfl (x_nc_le (by decide)) ?_
                have q2593 : h2588 75 27 = 93 := by have z := jB (e := 27) 0 j2589 rg_75_27_0_1 (by decide) (by decide); omega
                refine x_getR (np := 106) (x := 731) (f := 27) (q := 93) (by decide +kernel) (by decide) (by decide +kernel) q2593 ?_
                refine x_iload (np := 107) (x := 2) (by decide +kernel) rfl (by decide) ?_
                have q2594 : h2588 93 2 = h2571 93 2 := by rw [← e2590]; exact x_up_k (by decide)
                have q2595 : h2571 93 2 = h2498 93 2 := by rw [← e2573]; exact x_up_k (by decide)
                have b2596 := jB (e := 2) 2 j2499 rg_93_0_1_6 (by first | decide | omega) (by first | decide | omega)
                refine x_aldC (np := 108) (x := 0) (n := 6) (i := 2) (q := (h2498 93 2)) (by decide +kernel) (by decide +kernel) (by first | decide | omega) (by first | decide | omega) (by decide) (q2594.trans q2595) (fun l2597 => ?_)
                refine x_ifz (k := 2) (tg := 122) (np := 111) (by decide +kernel) (by decide) l2597 (fun q2598 => ?_) (fun q2599 => ?_)
                · have q2598 : (h2498 93 2) < 2147483648 := q2598
                  refine x_aload (np := 123) (x := 0) (by decide +kernel) rfl (x_nc_le (by decide)) ?_
                  have q2600 : h2588 75 28 = 94 := by have z := jB (e := 28) 0 j2589 rg_75_28_0_1 (by decide) (by decide); omega
                  refine x_getR (np := 126) (x := 732) (f := 28) (q := 94) (by decide +kernel) (by decide) (by decide +kernel) q2600 ?_
                  refine x_iload (np := 127) (x := 2) (by decide +kernel) rfl (by decide) ?_
                  have q2601 : h2588 94 2 = 2147483647 := by rw [← e2590]; exact x_up_at
                  refine x_aldC (np := 128) (x := 0) (n := 6) (i := 2) (q := 2147483647) (by decide +kernel) (by decide +kernel) (by first | decide | omega) (by first | decide | omega) (by decide) q2601 (fun l2602 => ?_)
                  refine x_ifz (k := 3) (tg := 135) (np := 131) (by decide +kernel) (by decide) (by decide) (fun q2603 => ?_) (fun q2604 => ?_)
                  · have q2603 : 2147483648 ≤ 2147483647 := q2603
                    exfalso; omega
                  have q2604 : ¬ (2147483648 ≤ 2147483647) := q2604
                  refine x_const (np := 132) (x := 9223372034707292159) (a := 2147483647) (by decide +kernel) (by decide) (by decide) ?_
                  refine x_goto (np := 135) (x := 140) (by decide +kernel) ?_
                  refine x_istore (np := 142) (x := 5) (lo' := [x_r 75, iv_c 2147483650, iv_c 2147483650, iv_c v2495, iv_c 2147483649, iv_c 2147483647]) (by decide +kernel) (by decide) (Nat.le_of_ble_eq_true rfl) rfl ?_
                  refine x_iload (np := 144) (x := 5) (by decide +kernel) rfl (by decide) ?_
                  refine x_ifz (k := 2) (tg := 151) (np := 147) (by decide +kernel) (by decide) (by decide) (fun q2605 => ?_) (fun q2606 => ?_)
                  · have q2605 : 2147483647 < 2147483648 := q2605
                    refine x_const (np := 152) (x := 9223372039002259456) (a := 2147483648) (by decide +kernel) (by decide) (by decide) ?_
                    refine x_istore (np := 154) (x := 4) (lo' := [x_r 75, iv_c 2147483650, iv_c 2147483650, iv_c v2495, iv_c 2147483648, iv_c 2147483647]) (by decide +kernel) (by decide) (Nat.le_of_ble_eq_true rfl) rfl ?_
                    refine x_iload (np := 156) (x := 4) (by decide +kernel) rfl (by decide) ?_
                    refine x_ifz (k := 0) (tg := 180) (np := 159) (by decide +kernel) (by decide) (by decide) (fun q2607 => ?_) (fun q2608 => ?_)
                    · have q2607 : 2147483648 = 2147483648 := q2607
                      refine x_iinc (np := 183) (i := 2) (j := 2147483647) (v := 2147483649) (lo' := [x_r 75, iv_c 2147483650, iv_c 2147483649, iv_c v2495, iv_c 2147483648, iv_c 2147483647]) (by decide +kernel) (by decide) (by decide) rfl (by decide) (by first | decide | omega) (by first | decide | omega) rfl ?_
                      refine x_goto (np := 186) (x := 12) (by decide +kernel) ?_
                      have q2609 : h2588 75 30 = h2571 75 30 := by rw [← e2590]; exact x_up_k (by decide)
                      have q2610 : h2571 75 30 = h2498 75 30 := by rw [← e2573]; exact x_up_i (by first | decide | omega)
                      have q2611 : h2498 75 30 = h2486 75 30 := jK 0 f2500 rg_75_30_0_1 (by first | decide | omega) (by first | decide | omega) (by decide)
                      have q2612 : h2486 75 30 = (1 + (h1819 75 30)) := by rw [← e2488]; exact x_up_at
                      exact i1846 (iv_c v2495) (iv_c 2147483647) h2588 (by first | decide | omega) j2589 f2592 (by first | decide | omega)
                    have q2608 : ¬ (2147483648 = 2147483648) := q2608
                    exfalso; omega
                  have q2606 : ¬ (2147483647 < 2147483648) := q2606
                  exfalso; omega
                have q2599 : ¬ ((h2498 93 2) < 2147483648) := q2599
                refine x_aload (np := 112) (x := 0) (by decide +kernel) rfl (x_nc_le (by decide)) ?_
                refine x_aload (np := 113) (x := 0) (by decide +kernel) rfl (x_nc_le (by decide)) ?_
                have q2613 : h2588 75 27 = 93 := by have z := jB (e := 27) 0 j2589 rg_75_27_0_1 (by decide) (by decide); omega
                refine x_getR (np := 116) (x := 731) (f := 27) (q := 93) (by decide +kernel) (by decide) (by decide +kernel) q2613 ?_
                refine x_iload (np := 117) (x := 2) (by decide +kernel) rfl (by decide) ?_
                have q2614 : h2588 93 2 = h2571 93 2 := by rw [← e2590]; exact x_up_k (by decide)
                have q2615 : h2571 93 2 = h2498 93 2 := by rw [← e2573]; exact x_up_k (by decide)
                refine x_aldC (np := 118) (x := 0) (n := 6) (i := 2) (q := (h2498 93 2)) (by decide +kernel) (by decide +kernel) (by first | decide | omega) (by first | decide | omega) (by decide) (q2614.trans q2615) (fun l2616 => ?_)
                refine x_const (np := 119) (x := 9223372039002259456) (a := 2147483648) (by decide +kernel) (by decide) (by decide) ?_
                refine x_cV (t := 6) (mj := 248) (n := 3) (rc := 12) (ml := 4) (nr := 0) (np := 122) (as := [x_r 75, iv_c (h2498 93 2), iv_c 2147483648]) (rest := []) (lo1 := [x_r 75, iv_c (h2498 93 2), iv_c 2147483648, 147573952589676412928]) (by decide +kernel) (by decide) (by decide +kernel) (x_rb_of (by decide +kernel)) rfl rfl (x_wr (by decide) (x_wi l2597 (x_wi (by decide) x_wn))) x_wn (by decide) rfl (c248_75 j2589  (by first | decide | omega) (by first | decide | omega)) (fun h2620 q2619 => ?_)
                obtain ⟨j2621, f2622⟩ := q2619
                have f2625 := Fr.trans f2591 f2622 (by decide)
                have f2626 := Fr.trans f2592 f2622 (by decide)
                refine x_aload (np := 123) (x := 0) (by decide +kernel) rfl (x_nc_le (by decide)) ?_
                have q2627 : h2620 75 28 = 94 := by have z := jB (e := 28) 0 j2621 rg_75_28_0_1 (by decide) (by decide); omega
                refine x_getR (np := 126) (x := 732) (f := 28) (q := 94) (by decide +kernel) (by decide) (by decide +kernel) q2627 ?_
                refine x_iload (np := 127) (x := 2) (by decide +kernel) rfl (by decide) ?_
                have q2628 : h2620 94 2 = h2588 94 2 := jK 2 f2622 rg_94_0_1_6 (by first | decide | omega) (by first | decide | omega) (by decide)
                have q2629 : h2588 94 2 = 2147483647 := by rw [← e2590]; exact x_up_at
                refine x_aldC (np := 128) (x := 0) (n := 6) (i := 2) (q := 2147483647) (by decide +kernel) (by decide +kernel) (by first | decide | omega) (by first | decide | omega) (by decide) (q2628.trans q2629) (fun l2630 => ?_)
                refine x_ifz (k := 3) (tg := 135) (np := 131) (by decide +kernel) (by decide) (by decide) (fun q2631 => ?_) (fun q2632 => ?_)
                · have q2631 : 2147483648 ≤ 2147483647 := q2631
                  exfalso; omega
                have q2632 : ¬ (2147483648 ≤ 2147483647) := q2632
                refine x_const (np := 132) (x := 9223372034707292159) (a := 2147483647) (by decide +kernel) (by decide) (by decide) ?_
                refine x_goto (np := 135) (x := 140) (by decide +kernel) ?_
                refine x_istore (np := 142) (x := 5) (lo' := [x_r 75, iv_c 2147483650, iv_c 2147483650, iv_c v2495, iv_c 2147483649, iv_c 2147483647]) (by decide +kernel) (by decide) (Nat.le_of_ble_eq_true rfl) rfl ?_
                refine x_iload (np := 144) (x := 5) (by decide +kernel) rfl (by decide) ?_
                refine x_ifz (k := 2) (tg := 151) (np := 147) (by decide +kernel) (by decide) (by decide) (fun q2633 => ?_) (fun q2634 => ?_)
                · have q2633 : 2147483647 < 2147483648 := q2633
                  refine x_const (np := 152) (x := 9223372039002259456) (a := 2147483648) (by decide +kernel) (by decide) (by decide) ?_
                  refine x_istore (np := 154) (x := 4) (lo' := [x_r 75, iv_c 2147483650, iv_c 2147483650, iv_c v2495, iv_c 2147483648, iv_c 2147483647]) (by decide +kernel) (by decide) (Nat.le_of_ble_eq_true rfl) rfl ?_
                  refine x_iload (np := 156) (x := 4) (by decide +kernel) rfl (by decide) ?_
                  refine x_ifz (k := 0) (tg := 180) (np := 159) (by decide +kernel) (by decide) (by decide) (fun q2635 => ?_) (fun q2636 => ?_)
                  · have q2635 : 2147483648 = 2147483648 := q2635
                    refine x_iinc (np := 183) (i := 2) (j := 2147483647) (v := 2147483649) (lo' := [x_r 75, iv_c 2147483650, iv_c 2147483649, iv_c v2495, iv_c 2147483648, iv_c 2147483647]) (by decide +kernel) (by decide) (by decide) rfl (by decide) (by first | decide | omega) (by first | decide | omega) rfl ?_
                    refine x_goto (np := 186) (x := 12) (by decide +kernel) ?_
                    have q2637 : h2620 75 30 = h2588 75 30 := jK 0 f2622 rg_75_30_0_1 (by first | decide | omega) (by first | decide | omega) (by decide)
                    have q2638 : h2588 75 30 = h2571 75 30 := by rw [← e2590]; exact x_up_k (by decide)
                    have q2639 : h2571 75 30 = h2498 75 30 := by rw [← e2573]; exact x_up_i (by first | decide | omega)
                    have q2640 : h2498 75 30 = h2486 75 30 := jK 0 f2500 rg_75_30_0_1 (by first | decide | omega) (by first | decide | omega) (by decide)
                    have q2641 : h2486 75 30 = (1 + (h1819 75 30)) := by rw [← e2488]; exact x_up_at
                    exact i1846 (iv_c v2495) (iv_c 2147483647) h2620 (by first | decide | omega) j2621 f2626 (by first | decide | omega)
                  have q2636 : ¬ (2147483648 = 2147483648) := q2636
                  exfalso; omega
                have q2634 : ¬ (2147483647 < 2147483648) := q2634
                exfalso; omega
              have q2586 : ¬ (v2495 = 2147483649) := q2586
              exfalso; omega
            have q2584 : ¬ ((h 75 33) = 2147483648) := q2584
            refine x_const (np := 84) (x := 9223372043297226753) (a := 2147483649) (by decide +kernel) (by decide) (by decide) ?_
            have q2642 : h2571 75 30 = h2498 75 30 := by rw [← e2573]; exact x_up_i (by first | decide | omega)
            have q2643 : h2498 75 30 = h2486 75 30 := jK 0 f2500 rg_75_30_0_1 (by first | decide | omega) (by first | decide | omega) (by decide)
            have q2644 : h2486 75 30 = (1 + (h1819 75 30)) := by rw [← e2488]; exact x_up_at
            refine x_retI (np := 85) (x := 0) (by decide +kernel) (by decide) (Or.inr ⟨by decide +kernel, by first | decide | omega, by first | decide | omega⟩) ⟨_, rfl, (by decide), ?_⟩
            exact ⟨j2572, f2574, (by first | decide | omega), (fun z => by first | decide | omega)⟩
          have q2565 : ¬ ((h1819 75 34) ≠ 2147483648) := q2565
          refine x_aload (np := 62) (x := 0) (by decide +kernel) rfl (x_nc_le (by decide)) ?_
          refine x_iload (np := 63) (x := 2) (by decide +kernel) rfl (by decide) ?_
          refine x_cV (t := 6) (mj := 258) (n := 2) (rc := 12) (ml := 4) (nr := 0) (np := 66) (as := [x_r 75, iv_c 2147483650]) (rest := []) (lo1 := [x_r 75, iv_c 2147483650, 147573952589676412928, 147573952589676412928]) (by decide +kernel) (by decide) (by decide +kernel) (x_rb_of (by decide +kernel)) rfl rfl (x_wr (by decide) (x_wi (by decide) x_wn)) x_wn (by decide) rfl (c258_75 j2499  (by first | decide | omega)) (fun h2648 q2647 => ?_)
          obtain ⟨j2649, f2650⟩ := q2647
          have f2653 := Fr.trans f2502 f2650 (by decide)
          have f2654 := Fr.trans f2503 f2650 (by decide)
          refine x_aload (np := 67) (x := 0) (by decide +kernel) rfl (x_nc_le (by decide)) ?_
          refine x_dup (np := 68) (x := 0) (by decide +kernel) (by have z := x_nc_le (k := 75) (by decide); unfold x_r; omega) ?_
          have q2655 : h2648 75 34 = h2498 75 34 := jK 0 f2650 rg_75_34_0_1 (by first | decide | omega) (by first | decide | omega) (by decide)
          have q2656 : h2498 75 34 = h2486 75 34 := jK 0 f2500 rg_75_34_0_1 (by first | decide | omega) (by first | decide | omega) (by decide)
          have q2657 : h2486 75 34 = h1819 75 34 := by rw [← e2488]; exact x_up_i (by first | decide | omega)
          refine x_getC (np := 71) (x := 738) (f := 34) (q := (h1819 75 34)) (by decide +kernel) (by decide) (by decide +kernel) ((q2655.trans q2656).trans q2657) (fun l2658 => ?_)
          refine x_const (np := 72) (x := 9223372043297226753) (a := 2147483649) (by decide +kernel) (by decide) (by decide) ?_
          refine x_iadd (np := 73) (x := 0) (v := (1 + (h1819 75 34))) (by decide +kernel) l2563 (by decide) (by first | decide | omega) (by first | decide | omega) ?_
          refine x_putI (np := 76) (x := 738) (f := 34) (by decide +kernel) (by decide +kernel) (by first | decide | omega) (Or.inl (by decide)) ?_
          have j2660 := jU (e := 34) (v := (1 + (h1819 75 34))) 0 j2649 rg_75_34_0_1 (by first | decide | omega) (by first | decide | omega) (by first | decide | omega)
          have f2662 := jF (e := 34) (v := (1 + (h1819 75 34))) 0 f2653 rg_75_34_0_1 (by first | decide | omega) (by first | decide | omega) (by decide)
          have f2663 := jF (e := 34) (v := (1 + (h1819 75 34))) 0 f2654 rg_75_34_0_1 (by first | decide | omega) (by first | decide | omega) (by decide)
          generalize e2661 : x_up h2648 75 34 (1 + (h1819 75 34)) = h2659 at j2660 f2662 f2663 ⊢
          refine x_aload (np := 77) (x := 0) (by decide +kernel) rfl (x_nc_le (by decide)) ?_
          have q2664 : h2659 75 33 = h2648 75 33 := by rw [← e2661]; exact x_up_i (by first | decide | omega)
          have q2665 : h2648 75 33 = h2498 75 33 := jK 0 f2650 rg_75_33_0_1 (by first | decide | omega) (by first | decide | omega) (by decide)
          have q2666 : h2498 75 33 = h2486 75 33 := jK 0 f2500 rg_75_33_0_1 (by first | decide | omega) (by first | decide | omega) (by decide)
          have q2667 : h2486 75 33 = h1819 75 33 := by rw [← e2488]; exact x_up_i (by first | decide | omega)
          have q2668 : h1819 75 33 = h2 75 33 := jK 0 f1821 rg_75_33_0_1 (by first | decide | omega) (by first | decide | omega) (by decide)
          have q2669 : h2 75 33 = h 75 33 := by rw [← e4]; exact x_up_i (by first | decide | omega)
          have b2670 := jB (e := 33) 0 hJ rg_75_33_0_1 (by first | decide | omega) (by first | decide | omega)
          refine x_getC (np := 80) (x := 737) (f := 33) (q := (h 75 33)) (by decide +kernel) (by decide) (by decide +kernel) (((((q2664.trans q2665).trans q2666).trans q2667).trans q2668).trans q2669) (fun l2671 => ?_)
          refine x_ifz (k := 0) (tg := 85) (np := 83) (by decide +kernel) (by decide) l2671 (fun q2672 => ?_) (fun q2673 => ?_)
          · have q2672 : (h 75 33) = 2147483648 := q2672
            refine x_iload (np := 86) (x := 3) (by decide +kernel) rfl l2496 ?_
            refine x_const (np := 87) (x := 9223372043297226753) (a := 2147483649) (by decide +kernel) (by decide) (by decide) ?_
            refine x_icmp (k := 0) (tg := 95) (np := 90) (by decide +kernel) (by decide) l2496 (by decide) (fun q2674 => ?_) (fun q2675 => ?_)
            · have q2674 : v2495 = 2147483649 := q2674
              refine x_aload (np := 96) (x := 0) (by decide +kernel) rfl (x_nc_le (by decide)) ?_
              have q2676 : h2659 75 28 = 94 := by have z := jB (e := 28) 0 j2660 rg_75_28_0_1 (by decide) (by decide); omega
              refine x_getR (np := 99) (x := 732) (f := 28) (q := 94) (by decide +kernel) (by decide) (by decide +kernel) q2676 ?_
              refine x_iload (np := 100) (x := 2) (by decide +kernel) rfl (by decide) ?_
              refine x_const (np := 101) (x := 9223372034707292159) (a := 2147483647) (by decide +kernel) (by decide) (by decide) ?_
              refine x_ast (np := 102) (x := 0) (kd := 1) (n := 6) (i := 2) (by decide +kernel) (Or.inl rfl) (by decide +kernel) (by first | decide | omega) (by first | decide | omega) (by decide) (by decide) (fun z => absurd z (by decide)) ?_
              have j2678 := jU (e := 2) (v := 2147483647) 2 j2660 rg_94_0_1_6 (by first | decide | omega) (by first | decide | omega) (by first | decide | omega)
              have f2680 := jF (e := 2) (v := 2147483647) 2 f2662 rg_94_0_1_6 (by first | decide | omega) (by first | decide | omega) (by decide)
              have f2681 := jF (e := 2) (v := 2147483647) 2 f2663 rg_94_0_1_6 (by first | decide | omega) (by first | decide | omega) (by decide)
              generalize e2679 : x_up h2659 94 2 2147483647 = h2677 at j2678 f2680 f2681 ⊢
              refine x_aload (np := 103) (x := 0) (by decide +kernel) rfl (x_nc_le (by decide)) ?_
              have q2682 : h2677 75 27 = 93 := by have z := jB (e := 27) 0 j2678 rg_75_27_0_1 (by decide) (by decide); omega
              refine x_getR (np := 106) (x := 731) (f := 27) (q := 93) (by decide +kernel) (by decide) (by decide +kernel) q2682 ?_
              refine x_iload (np := 107) (x := 2) (by decide +kernel) rfl (by decide) ?_
              have q2683 : h2677 93 2 = h2659 93 2 := by rw [← e2679]; exact x_up_k (by decide)
              have q2684 : h2659 93 2 = h2648 93 2 := by rw [← e2661]; exact x_up_k (by decide)
              have q2685 : h2648 93 2 = h2498 93 2 := jK 2 f2650 rg_93_0_1_6 (by first | decide | omega) (by first | decide | omega) (by decide)
              have b2686 := jB (e := 2) 2 j2499 rg_93_0_1_6 (by first | decide | omega) (by first | decide | omega)
              refine x_aldC (np := 108) (x := 0) (n := 6) (i := 2) (q := (h2498 93 2)) (by decide +kernel) (by decide +kernel) (by first | decide | omega) (by first | decide | omega) (by decide) ((q2683.trans q2684).trans q2685) (fun l2687 => ?_)
              refine x_ifz (k := 2) (tg := 122) (np := 111) (by decide +kernel) (by decide) l2687 (fun q2688 => ?_) (fun q2689 => ?_)
              · have q2688 : (h2498 93 2) < 2147483648 := q2688
                refine x_aload (np := 123) (x := 0) (by decide +kernel) rfl (x_nc_le (by decide)) ?_
                have q2690 : h2677 75 28 = 94 := by have z := jB (e := 28) 0 j2678 rg_75_28_0_1 (by decide) (by decide); omega
                refine x_getR (np := 126) (x := 732) (f := 28) (q := 94) (by decide +kernel) (by decide) (by decide +kernel) q2690 ?_
                refine x_iload (np := 127) (x := 2) (by decide +kernel) rfl (by decide) ?_
                have q2691 : h2677 94 2 = 2147483647 := by rw [← e2679]; exact x_up_at
                refine x_aldC (np := 128) (x := 0) (n := 6) (i := 2) (q := 2147483647) (by decide +kernel) (by decide +kernel) (by first | decide | omega) (by first | decide | omega) (by decide) q2691 (fun l2692 => ?_)
                refine x_ifz (k := 3) (tg := 135) (np := 131) (by decide +kernel) (by decide) (by decide) (fun q2693 => ?_) (fun q2694 => ?_)
                · have q2693 : 2147483648 ≤ 2147483647 := q2693
                  exfalso; omega
                have q2694 : ¬ (2147483648 ≤ 2147483647) := q2694
                refine x_const (np := 132) (x := 9223372034707292159) (a := 2147483647) (by decide +kernel) (by decide) (by decide) ?_
                refine x_goto (np := 135) (x := 140) (by decide +kernel) ?_
                refine x_istore (np := 142) (x := 5) (lo' := [x_r 75, iv_c 2147483650, iv_c 2147483650, iv_c v2495, iv_c 2147483649, iv_c 2147483647]) (by decide +kernel) (by decide) (Nat.le_of_ble_eq_true rfl) rfl ?_
                refine x_iload (np := 144) (x := 5) (by decide +kernel) rfl (by decide) ?_
                refine x_ifz (k := 2) (tg := 151) (np := 147) (by decide +kernel) (by decide) (by decide) (fun q2695 => ?_) (fun q2696 => ?_)
                · have q2695 : 2147483647 < 2147483648 := q2695
                  refine x_const (np := 152) (x := 9223372039002259456) (a := 2147483648) (by decide +kernel) (by decide) (by decide) ?_
                  refine x_istore (np := 154) (x := 4) (lo' := [x_r 75, iv_c 2147483650, iv_c 2147483650, iv_c v2495, iv_c 2147483648, iv_c 2147483647]) (by decide +kernel) (by decide) (Nat.le_of_ble_eq_true rfl) rfl ?_
                  refine x_iload (np := 156) (x := 4) (by decide +kernel) rfl (by decide) ?_
                  refine x_ifz (k := 0) (tg := 180) (np := 159) (by decide +kernel) (by decide) (by decide) (fun q2697 => ?_) (fun q2698 => ?_)
                  · have q2697 : 2147483648 = 2147483648 := q2697
                    refine x_iinc (np := 183) (i := 2) (j := 2147483647) (v := 2147483649) (lo' := [x_r 75, iv_c 2147483650, iv_c 2147483649, iv_c v2495, iv_c 2147483648, iv_c 2147483647]) (by decide +kernel) (by decide) (by decide) rfl (by decide) (by first | decide | omega) (by first | decide | omega) rfl ?_
                    refine x_goto (np := 186) (x := 12) (by decide +kernel) ?_
                    have q2699 : h2677 75 30 = h2659 75 30 := by rw [← e2679]; exact x_up_k (by decide)
                    have q2700 : h2659 75 30 = h2648 75 30 := by rw [← e2661]; exact x_up_i (by first | decide | omega)
                    have q2701 : h2648 75 30 = h2498 75 30 := jK 0 f2650 rg_75_30_0_1 (by first | decide | omega) (by first | decide | omega) (by decide)
                    have q2702 : h2498 75 30 = h2486 75 30 := jK 0 f2500 rg_75_30_0_1 (by first | decide | omega) (by first | decide | omega) (by decide)
                    have q2703 : h2486 75 30 = (1 + (h1819 75 30)) := by rw [← e2488]; exact x_up_at
                    exact i1846 (iv_c v2495) (iv_c 2147483647) h2677 (by first | decide | omega) j2678 f2681 (by first | decide | omega)
                  have q2698 : ¬ (2147483648 = 2147483648) := q2698
                  exfalso; omega
                have q2696 : ¬ (2147483647 < 2147483648) := q2696
                exfalso; omega
              have q2689 : ¬ ((h2498 93 2) < 2147483648) := q2689
              refine x_aload (np := 112) (x := 0) (by decide +kernel) rfl (x_nc_le (by decide)) ?_
              refine x_aload (np := 113) (x := 0) (by decide +kernel) rfl (x_nc_le (by decide)) ?_
              have q2704 : h2677 75 27 = 93 := by have z := jB (e := 27) 0 j2678 rg_75_27_0_1 (by decide) (by decide); omega
              refine x_getR (np := 116) (x := 731) (f := 27) (q := 93) (by decide +kernel) (by decide) (by decide +kernel) q2704 ?_
              refine x_iload (np := 117) (x := 2) (by decide +kernel) rfl (by decide) ?_
              have q2705 : h2677 93 2 = h2659 93 2 := by rw [← e2679]; exact x_up_k (by decide)
              have q2706 : h2659 93 2 = h2648 93 2 := by rw [← e2661]; exact x_up_k (by decide)
              have q2707 : h2648 93 2 = h2498 93 2 := jK 2 f2650 rg_93_0_1_6 (by first | decide | omega) (by first | decide | omega) (by decide)
              refine x_aldC (np := 118) (x := 0) (n := 6) (i := 2) (q := (h2498 93 2)) (by decide +kernel) (by decide +kernel) (by first | decide | omega) (by first | decide | omega) (by decide) ((q2705.trans q2706).trans q2707) (fun l2708 => ?_)
              refine x_const (np := 119) (x := 9223372039002259456) (a := 2147483648) (by decide +kernel) (by decide) (by decide) ?_
              refine x_cV (t := 6) (mj := 248) (n := 3) (rc := 12) (ml := 4) (nr := 0) (np := 122) (as := [x_r 75, iv_c (h2498 93 2), iv_c 2147483648]) (rest := []) (lo1 := [x_r 75, iv_c (h2498 93 2), iv_c 2147483648, 147573952589676412928]) (by decide +kernel) (by decide) (by decide +kernel) (x_rb_of (by decide +kernel)) rfl rfl (x_wr (by decide) (x_wi l2687 (x_wi (by decide) x_wn))) x_wn (by decide) rfl (c248_75 j2678  (by first | decide | omega) (by first | decide | omega)) (fun h2712 q2711 => ?_)
              obtain ⟨j2713, f2714⟩ := q2711
              have f2717 := Fr.trans f2680 f2714 (by decide)
              have f2718 := Fr.trans f2681 f2714 (by decide)
              refine x_aload (np := 123) (x := 0) (by decide +kernel) rfl (x_nc_le (by decide)) ?_
              have q2719 : h2712 75 28 = 94 := by have z := jB (e := 28) 0 j2713 rg_75_28_0_1 (by decide) (by decide); omega
              refine x_getR (np := 126) (x := 732) (f := 28) (q := 94) (by decide +kernel) (by decide) (by decide +kernel) q2719 ?_
              refine x_iload (np := 127) (x := 2) (by decide +kernel) rfl (by decide) ?_
              have q2720 : h2712 94 2 = h2677 94 2 := jK 2 f2714 rg_94_0_1_6 (by first | decide | omega) (by first | decide | omega) (by decide)
              have q2721 : h2677 94 2 = 2147483647 := by rw [← e2679]; exact x_up_at
              refine x_aldC (np := 128) (x := 0) (n := 6) (i := 2) (q := 2147483647) (by decide +kernel) (by decide +kernel) (by first | decide | omega) (by first | decide | omega) (by decide) (q2720.trans q2721) (fun l2722 => ?_)
              refine x_ifz (k := 3) (tg := 135) (np := 131) (by decide +kernel) (by decide) (by decide) (fun q2723 => ?_) (fun q2724 => ?_)
              · have q2723 : 2147483648 ≤ 2147483647 := q2723
                exfalso; omega
              have q2724 : ¬ (2147483648 ≤ 2147483647) := q2724
              refine x_const (np := 132) (x := 9223372034707292159) (a := 2147483647) (by decide +kernel) (by decide) (by decide) ?_
              refine x_goto (np := 135) (x := 140) (by decide +kernel) ?_
              refine x_istore (np := 142) (x := 5) (lo' := [x_r 75, iv_c 2147483650, iv_c 2147483650, iv_c v2495, iv_c 2147483649, iv_c 2147483647]) (by decide +kernel) (by decide) (Nat.le_of_ble_eq_true rfl) rfl ?_
              refine x_iload (np := 144) (x := 5) (by decide +kernel) rfl (by decide) ?_
              refine x_ifz (k := 2) (tg := 151) (np := 147) (by decide +kernel) (by decide) (by decide) (fun q2725 => ?_) (fun q2726 => ?_)
              · have q2725 : 2147483647 < 2147483648 := q2725
                refine x_const (np := 152) (x := 9223372039002259456) (a := 2147483648) (by decide +kernel) (by decide) (by decide) ?_
                refine x_istore (np := 154) (x := 4) (lo' := [x_r 75, iv_c 2147483650, iv_c 2147483650, iv_c v2495, iv_c 2147483648, iv_c 2147483647]) (by decide +kernel) (by decide) (Nat.le_of_ble_eq_true rfl) rfl ?_
                refine x_iload (np := 156) (x := 4) (by decide +kernel) rfl (by decide) ?_
                refine x_ifz (k := 0) (tg := 180) (np := 159) (by decide +kernel) (by decide) (by decide) (fun q2727 => ?_) (fun q2728 => ?_)
                · have q2727 : 2147483648 = 2147483648 := q2727
                  refine x_iinc (np := 183) (i := 2) (j := 2147483647) (v := 2147483649) (lo' := [x_r 75, iv_c 2147483650, iv_c 2147483649, iv_c v2495, iv_c 2147483648, iv_c 2147483647]) (by decide +kernel) (by decide) (by decide) rfl (by decide) (by first | decide | omega) (by first | decide | omega) rfl ?_
                  refine x_goto (np := 186) (x := 12) (by decide +kernel) ?_
                  have q2729 : h2712 75 30 = h2677 75 30 := jK 0 f2714 rg_75_30_0_1 (by first | decide | omega) (by first | decide | omega) (by decide)
                  have q2730 : h2677 75 30 = h2659 75 30 := by rw [← e2679]; exact x_up_k (by decide)
                  have q2731 : h2659 75 30 = h2648 75 30 := by rw [← e2661]; exact x_up_i (by first | decide | omega)
                  have q2732 : h2648 75 30 = h2498 75 30 := jK 0 f2650 rg_75_30_0_1 (by first | decide | omega) (by first | decide | omega) (by decide)
                  have q2733 : h2498 75 30 = h2486 75 30 := jK 0 f2500 rg_75_30_0_1 (by first | decide | omega) (by first | decide | omega) (by decide)
                  have q2734 : h2486 75 30 = (1 + (h1819 75 30)) := by rw [← e2488]; exact x_up_at
                  exact i1846 (iv_c v2495) (iv_c 2147483647) h2712 (by first | decide | omega) j2713 f2718 (by first | decide | omega)
                have q2728 : ¬ (2147483648 = 2147483648) := q2728
                exfalso; omega
              have q2726 : ¬ (2147483647 < 2147483648) := q2726
              exfalso; omega
            have q2675 : ¬ (v2495 = 2147483649) := q2675
            exfalso; omega
          have q2673 : ¬ ((h 75 33) = 2147483648) := q2673
          refine x_const (np := 84) (x := 9223372043297226753) (a := 2147483649) (by decide +kernel) (by decide) (by decide) ?_
          have q2735 : h2659 75 30 = h2648 75 30 := by rw [← e2661]; exact x_up_i (by first | decide | omega)
          have q2736 : h2648 75 30 = h2498 75 30 := jK 0 f2650 rg_75_30_0_1 (by first | decide | omega) (by first | decide | omega) (by decide)
          have q2737 : h2498 75 30 = h2486 75 30 := jK 0 f2500 rg_75_30_0_1 (by first | decide | omega) (by first | decide | omega) (by decide)
          have q2738 : h2486 75 30 = (1 + (h1819 75 30)) := by rw [← e2488]; exact x_up_at
          refine x_retI (np := 85) (x := 0) (by decide +kernel) (by decide) (Or.inr ⟨by decide +kernel, by first | decide | omega, by first | decide | omega⟩) ⟨_, rfl, (by decide), ?_⟩
          exact ⟨j2660, f2662, (by first | decide | omega), (fun z => by first | decide | omega)⟩
        have q2494 : ¬ ((1 + (h1819 75 30)) ≤ 2147503648) := q2494
        refine x_const (np := 42) (x := 9223372039002259456) (a := 2147483648) (by decide +kernel) (by decide) (by decide) ?_
        have q2739 : h2486 75 30 = (1 + (h1819 75 30)) := by rw [← e2488]; exact x_up_at
        refine x_retI (np := 43) (x := 0) (by decide +kernel) (by decide) (Or.inr ⟨by decide +kernel, by first | decide | omega, by first | decide | omega⟩) ⟨_, rfl, (by decide), ?_⟩
        exact ⟨j2487, f2489, (by first | decide | omega), (fun z => by first | decide | omega)⟩
      · intro w1823 w1824 h1825 q2740 j1828 f1827 b1826
        have f2741 := Fr.trans f5 f1827 (by decide)
        refine x_iload (np := 13) (x := 2) (by decide +kernel) rfl (by decide) ?_
        refine x_ifz (k := 2) (tg := 186) (np := 16) (by decide +kernel) (by decide) (by decide) (fun q2742 => ?_) (fun q2743 => ?_)
        · have q2742 : 2147483647 < 2147483648 := q2742
          refine x_const (np := 187) (x := 9223372043297226753) (a := 2147483649) (by decide +kernel) (by decide) (by decide) ?_
          refine x_retI (np := 188) (x := 0) (by decide +kernel) (by decide) (Or.inr ⟨by decide +kernel, by first | decide | omega, by first | decide | omega⟩) ⟨_, rfl, (by decide), ?_⟩
          exact ⟨j1828, f2741, (by first | decide | omega), (fun z => by first | decide | omega)⟩
        have q2743 : ¬ (2147483647 < 2147483648) := q2743
        exfalso; omega
      · intro w1829 w1830 h1831 q2744 j1834 f1833 b1832
        have f2745 := Fr.trans f5 f1833 (by decide)
        refine x_iload (np := 13) (x := 2) (by decide +kernel) rfl (by decide) ?_
        refine x_ifz (k := 2) (tg := 186) (np := 16) (by decide +kernel) (by decide) (by decide) (fun q2746 => ?_) (fun q2747 => ?_)
        · have q2746 : 2147483648 < 2147483648 := q2746
          exfalso; omega
        have q2747 : ¬ (2147483648 < 2147483648) := q2747
        refine x_iload (np := 18) (x := 4) (by decide +kernel) rfl (by decide) ?_
        refine x_ifz (k := 0) (tg := 102) (np := 21) (by decide +kernel) (by decide) (by decide) (fun q2748 => ?_) (fun q2749 => ?_)
        · have q2748 : 2147483648 = 2147483648 := q2748
          refine x_aload (np := 103) (x := 0) (by decide +kernel) rfl (x_nc_le (by decide)) ?_
          have q2750 : h1831 75 27 = 93 := by have z := jB (e := 27) 0 j1834 rg_75_27_0_1 (by decide) (by decide); omega
          refine x_getR (np := 106) (x := 731) (f := 27) (q := 93) (by decide +kernel) (by decide) (by decide +kernel) q2750 ?_
          refine x_iload (np := 107) (x := 2) (by decide +kernel) rfl (by decide) ?_
          have b2751 := jB (e := 0) 0 j1834 rg_93_0_1_6 (by first | decide | omega) (by first | decide | omega)
          refine x_aldC (np := 108) (x := 0) (n := 6) (i := 0) (q := (h1831 93 0)) (by decide +kernel) (by decide +kernel) (by first | decide | omega) (by first | decide | omega) (by decide) rfl (fun l2752 => ?_)
          refine x_ifz (k := 2) (tg := 122) (np := 111) (by decide +kernel) (by decide) l2752 (fun q2753 => ?_) (fun q2754 => ?_)
          · have q2753 : (h1831 93 0) < 2147483648 := q2753
            refine x_aload (np := 123) (x := 0) (by decide +kernel) rfl (x_nc_le (by decide)) ?_
            have q2755 : h1831 75 28 = 94 := by have z := jB (e := 28) 0 j1834 rg_75_28_0_1 (by decide) (by decide); omega
            refine x_getR (np := 126) (x := 732) (f := 28) (q := 94) (by decide +kernel) (by decide) (by decide +kernel) q2755 ?_
            refine x_iload (np := 127) (x := 2) (by decide +kernel) rfl (by decide) ?_
            have b2756 := jB (e := 0) 0 j1834 rg_94_0_1_6 (by first | decide | omega) (by first | decide | omega)
            refine x_aldC (np := 128) (x := 0) (n := 6) (i := 0) (q := (h1831 94 0)) (by decide +kernel) (by decide +kernel) (by first | decide | omega) (by first | decide | omega) (by decide) rfl (fun l2757 => ?_)
            refine x_ifz (k := 3) (tg := 135) (np := 131) (by decide +kernel) (by decide) l2757 (fun q2758 => ?_) (fun q2759 => ?_)
            · have q2758 : 2147483648 ≤ (h1831 94 0) := q2758
              refine x_aload (np := 136) (x := 0) (by decide +kernel) rfl (x_nc_le (by decide)) ?_
              refine x_iload (np := 137) (x := 2) (by decide +kernel) rfl (by decide) ?_
              refine x_cP (t := 6) (mj := 257) (n := 2) (rc := 12) (ml := 3) (nr := 0) (np := 140) (as := [x_r 75, iv_c 2147483648]) (rest := []) (lo1 := [x_r 75, iv_c 2147483648, 147573952589676412928]) (by decide +kernel) (by decide) (by decide +kernel) (x_rb_of (by decide +kernel)) rfl rfl (x_wr (by decide) (x_wi (by decide) x_wn)) x_wn (by decide) rfl (c257_75_c0 j1834   (by first | decide | omega)) (fun v2760 l2761 q2762 => ?_)
              refine x_istore (np := 142) (x := 5) (lo' := [x_r 75, iv_c 2147483650, iv_c 2147483648, w1829, iv_c 2147483648, iv_c v2760]) (by decide +kernel) l2761 (Nat.le_of_ble_eq_true rfl) rfl ?_
              refine x_iload (np := 144) (x := 5) (by decide +kernel) rfl l2761 ?_
              refine x_ifz (k := 2) (tg := 151) (np := 147) (by decide +kernel) (by decide) l2761 (fun q2763 => ?_) (fun q2764 => ?_)
              · have q2763 : v2760 < 2147483648 := q2763
                refine x_const (np := 152) (x := 9223372039002259456) (a := 2147483648) (by decide +kernel) (by decide) (by decide) ?_
                refine x_istore (np := 154) (x := 4) (lo' := [x_r 75, iv_c 2147483650, iv_c 2147483648, w1829, iv_c 2147483648, iv_c v2760]) (by decide +kernel) (by decide) (Nat.le_of_ble_eq_true rfl) rfl ?_
                refine x_iload (np := 156) (x := 4) (by decide +kernel) rfl (by decide) ?_
                refine x_ifz (k := 0) (tg := 180) (np := 159) (by decide +kernel) (by decide) (by decide) (fun q2765 => ?_) (fun q2766 => ?_)
                · have q2765 : 2147483648 = 2147483648 := q2765
                  refine x_iinc (np := 183) (i := 2) (j := 2147483647) (v := 2147483647) (lo' := [x_r 75, iv_c 2147483650, iv_c 2147483647, w1829, iv_c 2147483648, iv_c v2760]) (by decide +kernel) (by decide) (by decide) rfl (by decide) (by first | decide | omega) (by first | decide | omega) rfl ?_
                  refine x_goto (np := 186) (x := 12) (by decide +kernel) ?_
                  exact i1844 w1829 (iv_c v2760) h1831 (by first | decide | omega) j1834 f1833 (by first | decide | omega)
                have q2766 : ¬ (2147483648 = 2147483648) := q2766
                exfalso; omega
              have q2764 : ¬ (v2760 < 2147483648) := q2764
              refine x_const (np := 148) (x := 9223372043297226753) (a := 2147483649) (by decide +kernel) (by decide) (by decide) ?_
              refine x_goto (np := 151) (x := 152) (by decide +kernel) ?_
              refine x_istore (np := 154) (x := 4) (lo' := [x_r 75, iv_c 2147483650, iv_c 2147483648, w1829, iv_c 2147483649, iv_c v2760]) (by decide +kernel) (by decide) (Nat.le_of_ble_eq_true rfl) rfl ?_
              refine x_iload (np := 156) (x := 4) (by decide +kernel) rfl (by decide) ?_
              refine x_ifz (k := 0) (tg := 180) (np := 159) (by decide +kernel) (by decide) (by decide) (fun q2767 => ?_) (fun q2768 => ?_)
              · have q2767 : 2147483649 = 2147483648 := q2767
                exfalso; omega
              have q2768 : ¬ (2147483649 = 2147483648) := q2768
              refine x_aload (np := 160) (x := 0) (by decide +kernel) rfl (x_nc_le (by decide)) ?_
              have q2769 : h1831 75 27 = 93 := by have z := jB (e := 27) 0 j1834 rg_75_27_0_1 (by decide) (by decide); omega
              refine x_getR (np := 163) (x := 731) (f := 27) (q := 93) (by decide +kernel) (by decide) (by decide +kernel) q2769 ?_
              refine x_iload (np := 164) (x := 2) (by decide +kernel) rfl (by decide) ?_
              refine x_iload (np := 166) (x := 5) (by decide +kernel) rfl l2761 ?_
              refine x_ast (np := 167) (x := 0) (kd := 1) (n := 6) (i := 0) (by decide +kernel) (Or.inl rfl) (by decide +kernel) (by first | decide | omega) (by first | decide | omega) (by decide) l2761 (fun z => absurd z (by decide)) ?_
              have j2771 := jU (e := 0) (v := v2760) 0 j1834 rg_93_0_1_6 (by first | decide | omega) (by first | decide | omega) (by first | decide | omega)
              have f2773 := jF (e := 0) (v := v2760) 0 f2745 rg_93_0_1_6 (by first | decide | omega) (by first | decide | omega) (by decide)
              have f2774 := jF (e := 0) (v := v2760) 0 f1833 rg_93_0_1_6 (by first | decide | omega) (by first | decide | omega) (by decide)
              generalize e2772 : x_up h1831 93 0 v2760 = h2770 at j2771 f2773 f2774 ⊢
              refine x_aload (np := 168) (x := 0) (by decide +kernel) rfl (x_nc_le (by decide)) ?_
              refine x_iload (np := 170) (x := 5) (by decide +kernel) rfl l2761 ?_
              refine x_const (np := 171) (x := 9223372043297226753) (a := 2147483649) (by decide +kernel) (by decide) (by decide) ?_
              refine x_cV (t := 6) (mj := 248) (n := 3) (rc := 12) (ml := 4) (nr := 0) (np := 174) (as := [x_r 75, iv_c v2760, iv_c 2147483649]) (rest := []) (lo1 := [x_r 75, iv_c v2760, iv_c 2147483649, 147573952589676412928]) (by decide +kernel) (by decide) (by decide +kernel) (x_rb_of (by decide +kernel)) rfl rfl (x_wr (by decide) (x_wi l2761 (x_wi (by decide) x_wn))) x_wn (by decide) rfl (c248_75 j2771  (by first | decide | omega) (by first | decide | omega)) (fun h2778 q2777 => ?_)
              obtain ⟨j2779, f2780⟩ := q2777
              have f2783 := Fr.trans f2773 f2780 (by decide)
              have f2784 := Fr.trans f2774 f2780 (by decide)
              refine x_iinc (np := 177) (i := 2) (j := 2147483649) (v := 2147483649) (lo' := [x_r 75, iv_c 2147483650, iv_c 2147483649, w1829, iv_c 2147483649, iv_c v2760]) (by decide +kernel) (by decide) (by decide) rfl (by decide) (by first | decide | omega) (by first | decide | omega) rfl ?_
              refine x_goto (np := 180) (x := 183) (by decide +kernel) ?_
              refine x_goto (np := 186) (x := 12) (by decide +kernel) ?_
              have q2785 : h2778 75 30 = h2770 75 30 := jK 0 f2780 rg_75_30_0_1 (by first | decide | omega) (by first | decide | omega) (by decide)
              have q2786 : h2770 75 30 = h1831 75 30 := by rw [← e2772]; exact x_up_k (by decide)
              exact i1842 w1829 (iv_c v2760) h2778 (by first | decide | omega) j2779 f2784 (by first | decide | omega)
            have q2759 : ¬ (2147483648 ≤ (h1831 94 0)) := q2759
            refine x_const (np := 132) (x := 9223372034707292159) (a := 2147483647) (by decide +kernel) (by decide) (by decide) ?_
            refine x_goto (np := 135) (x := 140) (by decide +kernel) ?_
            refine x_istore (np := 142) (x := 5) (lo' := [x_r 75, iv_c 2147483650, iv_c 2147483648, w1829, iv_c 2147483648, iv_c 2147483647]) (by decide +kernel) (by decide) (Nat.le_of_ble_eq_true rfl) rfl ?_
            refine x_iload (np := 144) (x := 5) (by decide +kernel) rfl (by decide) ?_
            refine x_ifz (k := 2) (tg := 151) (np := 147) (by decide +kernel) (by decide) (by decide) (fun q2787 => ?_) (fun q2788 => ?_)
            · have q2787 : 2147483647 < 2147483648 := q2787
              refine x_const (np := 152) (x := 9223372039002259456) (a := 2147483648) (by decide +kernel) (by decide) (by decide) ?_
              refine x_istore (np := 154) (x := 4) (lo' := [x_r 75, iv_c 2147483650, iv_c 2147483648, w1829, iv_c 2147483648, iv_c 2147483647]) (by decide +kernel) (by decide) (Nat.le_of_ble_eq_true rfl) rfl ?_
              refine x_iload (np := 156) (x := 4) (by decide +kernel) rfl (by decide) ?_
              refine x_ifz (k := 0) (tg := 180) (np := 159) (by decide +kernel) (by decide) (by decide) (fun q2789 => ?_) (fun q2790 => ?_)
              · have q2789 : 2147483648 = 2147483648 := q2789
                refine x_iinc (np := 183) (i := 2) (j := 2147483647) (v := 2147483647) (lo' := [x_r 75, iv_c 2147483650, iv_c 2147483647, w1829, iv_c 2147483648, iv_c 2147483647]) (by decide +kernel) (by decide) (by decide) rfl (by decide) (by first | decide | omega) (by first | decide | omega) rfl ?_
                refine x_goto (np := 186) (x := 12) (by decide +kernel) ?_
                exact i1844 w1829 (iv_c 2147483647) h1831 (by first | decide | omega) j1834 f1833 (by first | decide | omega)
              have q2790 : ¬ (2147483648 = 2147483648) := q2790
              exfalso; omega
            have q2788 : ¬ (2147483647 < 2147483648) := q2788
            exfalso; omega
          have q2754 : ¬ ((h1831 93 0) < 2147483648) := q2754
          refine x_aload (np := 112) (x := 0) (by decide +kernel) rfl (x_nc_le (by decide)) ?_
          refine x_aload (np := 113) (x := 0) (by decide +kernel) rfl (x_nc_le (by decide)) ?_
          have q2791 : h1831 75 27 = 93 := by have z := jB (e := 27) 0 j1834 rg_75_27_0_1 (by decide) (by decide); omega
          refine x_getR (np := 116) (x := 731) (f := 27) (q := 93) (by decide +kernel) (by decide) (by decide +kernel) q2791 ?_
          refine x_iload (np := 117) (x := 2) (by decide +kernel) rfl (by decide) ?_
          refine x_aldC (np := 118) (x := 0) (n := 6) (i := 0) (q := (h1831 93 0)) (by decide +kernel) (by decide +kernel) (by first | decide | omega) (by first | decide | omega) (by decide) rfl (fun l2792 => ?_)
          refine x_const (np := 119) (x := 9223372039002259456) (a := 2147483648) (by decide +kernel) (by decide) (by decide) ?_
          refine x_cV (t := 6) (mj := 248) (n := 3) (rc := 12) (ml := 4) (nr := 0) (np := 122) (as := [x_r 75, iv_c (h1831 93 0), iv_c 2147483648]) (rest := []) (lo1 := [x_r 75, iv_c (h1831 93 0), iv_c 2147483648, 147573952589676412928]) (by decide +kernel) (by decide) (by decide +kernel) (x_rb_of (by decide +kernel)) rfl rfl (x_wr (by decide) (x_wi l2752 (x_wi (by decide) x_wn))) x_wn (by decide) rfl (c248_75 j1834  (by first | decide | omega) (by first | decide | omega)) (fun h2796 q2795 => ?_)
          obtain ⟨j2797, f2798⟩ := q2795
          have f2801 := Fr.trans f2745 f2798 (by decide)
          have f2802 := Fr.trans f1833 f2798 (by decide)
          refine x_aload (np := 123) (x := 0) (by decide +kernel) rfl (x_nc_le (by decide)) ?_
          have q2803 : h2796 75 28 = 94 := by have z := jB (e := 28) 0 j2797 rg_75_28_0_1 (by decide) (by decide); omega
          refine x_getR (np := 126) (x := 732) (f := 28) (q := 94) (by decide +kernel) (by decide) (by decide +kernel) q2803 ?_
          refine x_iload (np := 127) (x := 2) (by decide +kernel) rfl (by decide) ?_
          have q2804 : h2796 94 0 = h1831 94 0 := jK 0 f2798 rg_94_0_1_6 (by first | decide | omega) (by first | decide | omega) (by decide)
          have b2805 := jB (e := 0) 0 j1834 rg_94_0_1_6 (by first | decide | omega) (by first | decide | omega)
          refine x_aldC (np := 128) (x := 0) (n := 6) (i := 0) (q := (h1831 94 0)) (by decide +kernel) (by decide +kernel) (by first | decide | omega) (by first | decide | omega) (by decide) q2804 (fun l2806 => ?_)
          refine x_ifz (k := 3) (tg := 135) (np := 131) (by decide +kernel) (by decide) l2806 (fun q2807 => ?_) (fun q2808 => ?_)
          · have q2807 : 2147483648 ≤ (h1831 94 0) := q2807
            refine x_aload (np := 136) (x := 0) (by decide +kernel) rfl (x_nc_le (by decide)) ?_
            refine x_iload (np := 137) (x := 2) (by decide +kernel) rfl (by decide) ?_
            have q2809 : h2796 94 0 = h1831 94 0 := jK 0 f2798 rg_94_0_1_6 (by first | decide | omega) (by first | decide | omega) (by decide)
            refine x_cP (t := 6) (mj := 257) (n := 2) (rc := 12) (ml := 3) (nr := 0) (np := 140) (as := [x_r 75, iv_c 2147483648]) (rest := []) (lo1 := [x_r 75, iv_c 2147483648, 147573952589676412928]) (by decide +kernel) (by decide) (by decide +kernel) (x_rb_of (by decide +kernel)) rfl rfl (x_wr (by decide) (x_wi (by decide) x_wn)) x_wn (by decide) rfl (c257_75_c0 j2797   (by first | decide | omega)) (fun v2810 l2811 q2812 => ?_)
            refine x_istore (np := 142) (x := 5) (lo' := [x_r 75, iv_c 2147483650, iv_c 2147483648, w1829, iv_c 2147483648, iv_c v2810]) (by decide +kernel) l2811 (Nat.le_of_ble_eq_true rfl) rfl ?_
            refine x_iload (np := 144) (x := 5) (by decide +kernel) rfl l2811 ?_
            refine x_ifz (k := 2) (tg := 151) (np := 147) (by decide +kernel) (by decide) l2811 (fun q2813 => ?_) (fun q2814 => ?_)
            · have q2813 : v2810 < 2147483648 := q2813
              refine x_const (np := 152) (x := 9223372039002259456) (a := 2147483648) (by decide +kernel) (by decide) (by decide) ?_
              refine x_istore (np := 154) (x := 4) (lo' := [x_r 75, iv_c 2147483650, iv_c 2147483648, w1829, iv_c 2147483648, iv_c v2810]) (by decide +kernel) (by decide) (Nat.le_of_ble_eq_true rfl) rfl ?_
              refine x_iload (np := 156) (x := 4) (by decide +kernel) rfl (by decide) ?_
              refine x_ifz (k := 0) (tg := 180) (np := 159) (by decide +kernel) (by decide) (by decide) (fun q2815 => ?_) (fun q2816 => ?_)
              · have q2815 : 2147483648 = 2147483648 := q2815
                refine x_iinc (np := 183) (i := 2) (j := 2147483647) (v := 2147483647) (lo' := [x_r 75, iv_c 2147483650, iv_c 2147483647, w1829, iv_c 2147483648, iv_c v2810]) (by decide +kernel) (by decide) (by decide) rfl (by decide) (by first | decide | omega) (by first | decide | omega) rfl ?_
                refine x_goto (np := 186) (x := 12) (by decide +kernel) ?_
                have q2817 : h2796 75 30 = h1831 75 30 := jK 0 f2798 rg_75_30_0_1 (by first | decide | omega) (by first | decide | omega) (by decide)
                exact i1844 w1829 (iv_c v2810) h2796 (by first | decide | omega) j2797 f2802 (by first | decide | omega)
              have q2816 : ¬ (2147483648 = 2147483648) := q2816
              exfalso; omega
            have q2814 : ¬ (v2810 < 2147483648) := q2814
            refine x_const (np := 148) (x := 9223372043297226753) (a := 2147483649) (by decide +kernel) (by decide) (by decide) ?_
            refine x_goto (np := 151) (x := 152) (by decide +kernel) ?_
            refine x_istore (np := 154) (x := 4) (lo' := [x_r 75, iv_c 2147483650, iv_c 2147483648, w1829, iv_c 2147483649, iv_c v2810]) (by decide +kernel) (by decide) (Nat.le_of_ble_eq_true rfl) rfl ?_
            refine x_iload (np := 156) (x := 4) (by decide +kernel) rfl (by decide) ?_
            refine x_ifz (k := 0) (tg := 180) (np := 159) (by decide +kernel) (by decide) (by decide) (fun q2818 => ?_) (fun q2819 => ?_)
            · have q2818 : 2147483649 = 2147483648 := q2818
              exfalso; omega
            have q2819 : ¬ (2147483649 = 2147483648) := q2819
            refine x_aload (np := 160) (x := 0) (by decide +kernel) rfl (x_nc_le (by decide)) ?_
            have q2820 : h2796 75 27 = 93 := by have z := jB (e := 27) 0 j2797 rg_75_27_0_1 (by decide) (by decide); omega
            refine x_getR (np := 163) (x := 731) (f := 27) (q := 93) (by decide +kernel) (by decide) (by decide +kernel) q2820 ?_
            refine x_iload (np := 164) (x := 2) (by decide +kernel) rfl (by decide) ?_
            refine x_iload (np := 166) (x := 5) (by decide +kernel) rfl l2811 ?_
            refine x_ast (np := 167) (x := 0) (kd := 1) (n := 6) (i := 0) (by decide +kernel) (Or.inl rfl) (by decide +kernel) (by first | decide | omega) (by first | decide | omega) (by decide) l2811 (fun z => absurd z (by decide)) ?_
            have j2822 := jU (e := 0) (v := v2810) 0 j2797 rg_93_0_1_6 (by first | decide | omega) (by first | decide | omega) (by first | decide | omega)
            have f2824 := jF (e := 0) (v := v2810) 0 f2801 rg_93_0_1_6 (by first | decide | omega) (by first | decide | omega) (by decide)
            have f2825 := jF (e := 0) (v := v2810) 0 f2802 rg_93_0_1_6 (by first | decide | omega) (by first | decide | omega) (by decide)
            generalize e2823 : x_up h2796 93 0 v2810 = h2821 at j2822 f2824 f2825 ⊢
            refine x_aload (np := 168) (x := 0) (by decide +kernel) rfl (x_nc_le (by decide)) ?_
            refine x_iload (np := 170) (x := 5) (by decide +kernel) rfl l2811 ?_
            refine x_const (np := 171) (x := 9223372043297226753) (a := 2147483649) (by decide +kernel) (by decide) (by decide) ?_
            refine x_cV (t := 6) (mj := 248) (n := 3) (rc := 12) (ml := 4) (nr := 0) (np := 174) (as := [x_r 75, iv_c v2810, iv_c 2147483649]) (rest := []) (lo1 := [x_r 75, iv_c v2810, iv_c 2147483649, 147573952589676412928]) (by decide +kernel) (by decide) (by decide +kernel) (x_rb_of (by decide +kernel)) rfl rfl (x_wr (by decide) (x_wi l2811 (x_wi (by decide) x_wn))) x_wn (by decide) rfl (c248_75 j2822  (by first | decide | omega) (by first | decide | omega)) (fun h2829 q2828 => ?_)
            obtain ⟨j2830, f2831⟩ := q2828
            have f2834 := Fr.trans f2824 f2831 (by decide)
            have f2835 := Fr.trans f2825 f2831 (by decide)
            refine x_iinc (np := 177) (i := 2) (j := 2147483649) (v := 2147483649) (lo' := [x_r 75, iv_c 2147483650, iv_c 2147483649, w1829, iv_c 2147483649, iv_c v2810]) (by decide +kernel) (by decide) (by decide) rfl (by decide) (by first | decide | omega) (by first | decide | omega) rfl ?_
            refine x_goto (np := 180) (x := 183) (by decide +kernel) ?_
            refine x_goto (np := 186) (x := 12) (by decide +kernel) ?_
            have q2836 : h2829 75 30 = h2821 75 30 := jK 0 f2831 rg_75_30_0_1 (by first | decide | omega) (by first | decide | omega) (by decide)
            have q2837 : h2821 75 30 = h2796 75 30 := by rw [← e2823]; exact x_up_k (by decide)
            have q2838 : h2796 75 30 = h1831 75 30 := jK 0 f2798 rg_75_30_0_1 (by first | decide | omega) (by first | decide | omega) (by decide)
            exact i1842 w1829 (iv_c v2810) h2829 (by first | decide | omega) j2830 f2835 (by first | decide | omega)
          have q2808 : ¬ (2147483648 ≤ (h1831 94 0)) := q2808
          refine x_const (np := 132) (x := 9223372034707292159) (a := 2147483647) (by decide +kernel) (by decide) (by decide) ?_
          refine x_goto (np := 135) (x := 140) (by decide +kernel) ?_
          refine x_istore (np := 142) (x := 5) (lo' := [x_r 75, iv_c 2147483650, iv_c 2147483648, w1829, iv_c 2147483648, iv_c 2147483647]) (by decide +kernel) (by decide) (Nat.le_of_ble_eq_true rfl) rfl ?_
          refine x_iload (np := 144) (x := 5) (by decide +kernel) rfl (by decide) ?_
          refine x_ifz (k := 2) (tg := 151) (np := 147) (by decide +kernel) (by decide) (by decide) (fun q2839 => ?_) (fun q2840 => ?_)
          · have q2839 : 2147483647 < 2147483648 := q2839
            refine x_const (np := 152) (x := 9223372039002259456) (a := 2147483648) (by decide +kernel) (by decide) (by decide) ?_
            refine x_istore (np := 154) (x := 4) (lo' := [x_r 75, iv_c 2147483650, iv_c 2147483648, w1829, iv_c 2147483648, iv_c 2147483647]) (by decide +kernel) (by decide) (Nat.le_of_ble_eq_true rfl) rfl ?_
            refine x_iload (np := 156) (x := 4) (by decide +kernel) rfl (by decide) ?_
            refine x_ifz (k := 0) (tg := 180) (np := 159) (by decide +kernel) (by decide) (by decide) (fun q2841 => ?_) (fun q2842 => ?_)
            · have q2841 : 2147483648 = 2147483648 := q2841
              refine x_iinc (np := 183) (i := 2) (j := 2147483647) (v := 2147483647) (lo' := [x_r 75, iv_c 2147483650, iv_c 2147483647, w1829, iv_c 2147483648, iv_c 2147483647]) (by decide +kernel) (by decide) (by decide) rfl (by decide) (by first | decide | omega) (by first | decide | omega) rfl ?_
              refine x_goto (np := 186) (x := 12) (by decide +kernel) ?_
              have q2843 : h2796 75 30 = h1831 75 30 := jK 0 f2798 rg_75_30_0_1 (by first | decide | omega) (by first | decide | omega) (by decide)
              exact i1844 w1829 (iv_c 2147483647) h2796 (by first | decide | omega) j2797 f2802 (by first | decide | omega)
            have q2842 : ¬ (2147483648 = 2147483648) := q2842
            exfalso; omega
          have q2840 : ¬ (2147483647 < 2147483648) := q2840
          exfalso; omega
        have q2749 : ¬ (2147483648 = 2147483648) := q2749
        exfalso; omega
      · intro w1835 w1836 h1837 q2844 j1840 f1839 b1838
        have f2845 := Fr.trans f5 f1839 (by decide)
        refine x_iload (np := 13) (x := 2) (by decide +kernel) rfl (by decide) ?_
        refine x_ifz (k := 2) (tg := 186) (np := 16) (by decide +kernel) (by decide) (by decide) (fun q2846 => ?_) (fun q2847 => ?_)
        · have q2846 : 2147483649 < 2147483648 := q2846
          exfalso; omega
        have q2847 : ¬ (2147483649 < 2147483648) := q2847
        refine x_iload (np := 18) (x := 4) (by decide +kernel) rfl (by decide) ?_
        refine x_ifz (k := 0) (tg := 102) (np := 21) (by decide +kernel) (by decide) (by decide) (fun q2848 => ?_) (fun q2849 => ?_)
        · have q2848 : 2147483648 = 2147483648 := q2848
          refine x_aload (np := 103) (x := 0) (by decide +kernel) rfl (x_nc_le (by decide)) ?_
          have q2850 : h1837 75 27 = 93 := by have z := jB (e := 27) 0 j1840 rg_75_27_0_1 (by decide) (by decide); omega
          refine x_getR (np := 106) (x := 731) (f := 27) (q := 93) (by decide +kernel) (by decide) (by decide +kernel) q2850 ?_
          refine x_iload (np := 107) (x := 2) (by decide +kernel) rfl (by decide) ?_
          have b2851 := jB (e := 1) 1 j1840 rg_93_0_1_6 (by first | decide | omega) (by first | decide | omega)
          refine x_aldC (np := 108) (x := 0) (n := 6) (i := 1) (q := (h1837 93 1)) (by decide +kernel) (by decide +kernel) (by first | decide | omega) (by first | decide | omega) (by decide) rfl (fun l2852 => ?_)
          refine x_ifz (k := 2) (tg := 122) (np := 111) (by decide +kernel) (by decide) l2852 (fun q2853 => ?_) (fun q2854 => ?_)
          · have q2853 : (h1837 93 1) < 2147483648 := q2853
            refine x_aload (np := 123) (x := 0) (by decide +kernel) rfl (x_nc_le (by decide)) ?_
            have q2855 : h1837 75 28 = 94 := by have z := jB (e := 28) 0 j1840 rg_75_28_0_1 (by decide) (by decide); omega
            refine x_getR (np := 126) (x := 732) (f := 28) (q := 94) (by decide +kernel) (by decide) (by decide +kernel) q2855 ?_
            refine x_iload (np := 127) (x := 2) (by decide +kernel) rfl (by decide) ?_
            have b2856 := jB (e := 1) 1 j1840 rg_94_0_1_6 (by first | decide | omega) (by first | decide | omega)
            refine x_aldC (np := 128) (x := 0) (n := 6) (i := 1) (q := (h1837 94 1)) (by decide +kernel) (by decide +kernel) (by first | decide | omega) (by first | decide | omega) (by decide) rfl (fun l2857 => ?_)
            refine x_ifz (k := 3) (tg := 135) (np := 131) (by decide +kernel) (by decide) l2857 (fun q2858 => ?_) (fun q2859 => ?_)
            · have q2858 : 2147483648 ≤ (h1837 94 1) := q2858
              refine x_aload (np := 136) (x := 0) (by decide +kernel) rfl (x_nc_le (by decide)) ?_
              refine x_iload (np := 137) (x := 2) (by decide +kernel) rfl (by decide) ?_
              refine x_cP (t := 6) (mj := 257) (n := 2) (rc := 12) (ml := 3) (nr := 0) (np := 140) (as := [x_r 75, iv_c 2147483649]) (rest := []) (lo1 := [x_r 75, iv_c 2147483649, 147573952589676412928]) (by decide +kernel) (by decide) (by decide +kernel) (x_rb_of (by decide +kernel)) rfl rfl (x_wr (by decide) (x_wi (by decide) x_wn)) x_wn (by decide) rfl (c257_75_c1 j1840   (by first | decide | omega)) (fun v2860 l2861 q2862 => ?_)
              refine x_istore (np := 142) (x := 5) (lo' := [x_r 75, iv_c 2147483650, iv_c 2147483649, w1835, iv_c 2147483648, iv_c v2860]) (by decide +kernel) l2861 (Nat.le_of_ble_eq_true rfl) rfl ?_
              refine x_iload (np := 144) (x := 5) (by decide +kernel) rfl l2861 ?_
              refine x_ifz (k := 2) (tg := 151) (np := 147) (by decide +kernel) (by decide) l2861 (fun q2863 => ?_) (fun q2864 => ?_)
              · have q2863 : v2860 < 2147483648 := q2863
                refine x_const (np := 152) (x := 9223372039002259456) (a := 2147483648) (by decide +kernel) (by decide) (by decide) ?_
                refine x_istore (np := 154) (x := 4) (lo' := [x_r 75, iv_c 2147483650, iv_c 2147483649, w1835, iv_c 2147483648, iv_c v2860]) (by decide +kernel) (by decide) (Nat.le_of_ble_eq_true rfl) rfl ?_
                refine x_iload (np := 156) (x := 4) (by decide +kernel) rfl (by decide) ?_
                refine x_ifz (k := 0) (tg := 180) (np := 159) (by decide +kernel) (by decide) (by decide) (fun q2865 => ?_) (fun q2866 => ?_)
                · have q2865 : 2147483648 = 2147483648 := q2865
                  refine x_iinc (np := 183) (i := 2) (j := 2147483647) (v := 2147483648) (lo' := [x_r 75, iv_c 2147483650, iv_c 2147483648, w1835, iv_c 2147483648, iv_c v2860]) (by decide +kernel) (by decide) (by decide) rfl (by decide) (by first | decide | omega) (by first | decide | omega) rfl ?_
                  refine x_goto (np := 186) (x := 12) (by decide +kernel) ?_
                  exact i1845 w1835 (iv_c v2860) h1837 (by first | decide | omega) j1840 f1839 (by first | decide | omega)
                have q2866 : ¬ (2147483648 = 2147483648) := q2866
                exfalso; omega
              have q2864 : ¬ (v2860 < 2147483648) := q2864
              refine x_const (np := 148) (x := 9223372043297226753) (a := 2147483649) (by decide +kernel) (by decide) (by decide) ?_
              refine x_goto (np := 151) (x := 152) (by decide +kernel) ?_
              refine x_istore (np := 154) (x := 4) (lo' := [x_r 75, iv_c 2147483650, iv_c 2147483649, w1835, iv_c 2147483649, iv_c v2860]) (by decide +kernel) (by decide) (Nat.le_of_ble_eq_true rfl) rfl ?_
              refine x_iload (np := 156) (x := 4) (by decide +kernel) rfl (by decide) ?_
              refine x_ifz (k := 0) (tg := 180) (np := 159) (by decide +kernel) (by decide) (by decide) (fun q2867 => ?_) (fun q2868 => ?_)
              · have q2867 : 2147483649 = 2147483648 := q2867
                exfalso; omega
              have q2868 : ¬ (2147483649 = 2147483648) := q2868
              refine x_aload (np := 160) (x := 0) (by decide +kernel) rfl (x_nc_le (by decide)) ?_
              have q2869 : h1837 75 27 = 93 := by have z := jB (e := 27) 0 j1840 rg_75_27_0_1 (by decide) (by decide); omega
              refine x_getR (np := 163) (x := 731) (f := 27) (q := 93) (by decide +kernel) (by decide) (by decide +kernel) q2869 ?_
              refine x_iload (np := 164) (x := 2) (by decide +kernel) rfl (by decide) ?_
              refine x_iload (np := 166) (x := 5) (by decide +kernel) rfl l2861 ?_
              refine x_ast (np := 167) (x := 0) (kd := 1) (n := 6) (i := 1) (by decide +kernel) (Or.inl rfl) (by decide +kernel) (by first | decide | omega) (by first | decide | omega) (by decide) l2861 (fun z => absurd z (by decide)) ?_
              have j2871 := jU (e := 1) (v := v2860) 1 j1840 rg_93_0_1_6 (by first | decide | omega) (by first | decide | omega) (by first | decide | omega)
              have f2873 := jF (e := 1) (v := v2860) 1 f2845 rg_93_0_1_6 (by first | decide | omega) (by first | decide | omega) (by decide)
              have f2874 := jF (e := 1) (v := v2860) 1 f1839 rg_93_0_1_6 (by first | decide | omega) (by first | decide | omega) (by decide)
              generalize e2872 : x_up h1837 93 1 v2860 = h2870 at j2871 f2873 f2874 ⊢
              refine x_aload (np := 168) (x := 0) (by decide +kernel) rfl (x_nc_le (by decide)) ?_
              refine x_iload (np := 170) (x := 5) (by decide +kernel) rfl l2861 ?_
              refine x_const (np := 171) (x := 9223372043297226753) (a := 2147483649) (by decide +kernel) (by decide) (by decide) ?_
              refine x_cV (t := 6) (mj := 248) (n := 3) (rc := 12) (ml := 4) (nr := 0) (np := 174) (as := [x_r 75, iv_c v2860, iv_c 2147483649]) (rest := []) (lo1 := [x_r 75, iv_c v2860, iv_c 2147483649, 147573952589676412928]) (by decide +kernel) (by decide) (by decide +kernel) (x_rb_of (by decide +kernel)) rfl rfl (x_wr (by decide) (x_wi l2861 (x_wi (by decide) x_wn))) x_wn (by decide) rfl (c248_75 j2871  (by first | decide | omega) (by first | decide | omega)) (fun h2878 q2877 => ?_)
              obtain ⟨j2879, f2880⟩ := q2877
              have f2883 := Fr.trans f2873 f2880 (by decide)
              have f2884 := Fr.trans f2874 f2880 (by decide)
              refine x_iinc (np := 177) (i := 2) (j := 2147483649) (v := 2147483650) (lo' := [x_r 75, iv_c 2147483650, iv_c 2147483650, w1835, iv_c 2147483649, iv_c v2860]) (by decide +kernel) (by decide) (by decide) rfl (by decide) (by first | decide | omega) (by first | decide | omega) rfl ?_
              refine x_goto (np := 180) (x := 183) (by decide +kernel) ?_
              refine x_goto (np := 186) (x := 12) (by decide +kernel) ?_
              have q2885 : h2878 75 30 = h2870 75 30 := jK 0 f2880 rg_75_30_0_1 (by first | decide | omega) (by first | decide | omega) (by decide)
              have q2886 : h2870 75 30 = h1837 75 30 := by rw [← e2872]; exact x_up_k (by decide)
              exact i1843 w1835 (iv_c v2860) h2878 (by first | decide | omega) j2879 f2884 (by first | decide | omega)
            have q2859 : ¬ (2147483648 ≤ (h1837 94 1)) := q2859
            refine x_const (np := 132) (x := 9223372034707292159) (a := 2147483647) (by decide +kernel) (by decide) (by decide) ?_
            refine x_goto (np := 135) (x := 140) (by decide +kernel) ?_
            refine x_istore (np := 142) (x := 5) (lo' := [x_r 75, iv_c 2147483650, iv_c 2147483649, w1835, iv_c 2147483648, iv_c 2147483647]) (by decide +kernel) (by decide) (Nat.le_of_ble_eq_true rfl) rfl ?_
            refine x_iload (np := 144) (x := 5) (by decide +kernel) rfl (by decide) ?_
            refine x_ifz (k := 2) (tg := 151) (np := 147) (by decide +kernel) (by decide) (by decide) (fun q2887 => ?_) (fun q2888 => ?_)
            · have q2887 : 2147483647 < 2147483648 := q2887
              refine x_const (np := 152) (x := 9223372039002259456) (a := 2147483648) (by decide +kernel) (by decide) (by decide) ?_
              refine x_istore (np := 154) (x := 4) (lo' := [x_r 75, iv_c 2147483650, iv_c 2147483649, w1835, iv_c 2147483648, iv_c 2147483647]) (by decide +kernel) (by decide) (Nat.le_of_ble_eq_true rfl) rfl ?_
              refine x_iload (np := 156) (x := 4) (by decide +kernel) rfl (by decide) ?_
              refine x_ifz (k := 0) (tg := 180) (np := 159) (by decide +kernel) (by decide) (by decide) (fun q2889 => ?_) (fun q2890 => ?_)
              · have q2889 : 2147483648 = 2147483648 := q2889
                refine x_iinc (np := 183) (i := 2) (j := 2147483647) (v := 2147483648) (lo' := [x_r 75, iv_c 2147483650, iv_c 2147483648, w1835, iv_c 2147483648, iv_c 2147483647]) (by decide +kernel) (by decide) (by decide) rfl (by decide) (by first | decide | omega) (by first | decide | omega) rfl ?_
                refine x_goto (np := 186) (x := 12) (by decide +kernel) ?_
                exact i1845 w1835 (iv_c 2147483647) h1837 (by first | decide | omega) j1840 f1839 (by first | decide | omega)
              have q2890 : ¬ (2147483648 = 2147483648) := q2890
              exfalso; omega
            have q2888 : ¬ (2147483647 < 2147483648) := q2888
            exfalso; omega
          have q2854 : ¬ ((h1837 93 1) < 2147483648) := q2854
          refine x_aload (np := 112) (x := 0) (by decide +kernel) rfl (x_nc_le (by decide)) ?_
          refine x_aload (np := 113) (x := 0) (by decide +kernel) rfl (x_nc_le (by decide)) ?_
          have q2891 : h1837 75 27 = 93 := by have z := jB (e := 27) 0 j1840 rg_75_27_0_1 (by decide) (by decide); omega
          refine x_getR (np := 116) (x := 731) (f := 27) (q := 93) (by decide +kernel) (by decide) (by decide +kernel) q2891 ?_
          refine x_iload (np := 117) (x := 2) (by decide +kernel) rfl (by decide) ?_
          refine x_aldC (np := 118) (x := 0) (n := 6) (i := 1) (q := (h1837 93 1)) (by decide +kernel) (by decide +kernel) (by first | decide | omega) (by first | decide | omega) (by decide) rfl (fun l2892 => ?_)
          refine x_const (np := 119) (x := 9223372039002259456) (a := 2147483648) (by decide +kernel) (by decide) (by decide) ?_
          refine x_cV (t := 6) (mj := 248) (n := 3) (rc := 12) (ml := 4) (nr := 0) (np := 122) (as := [x_r 75, iv_c (h1837 93 1), iv_c 2147483648]) (rest := []) (lo1 := [x_r 75, iv_c (h1837 93 1), iv_c 2147483648, 147573952589676412928]) (by decide +kernel) (by decide) (by decide +kernel) (x_rb_of (by decide +kernel)) rfl rfl (x_wr (by decide) (x_wi l2852 (x_wi (by decide) x_wn))) x_wn (by decide) rfl (c248_75 j1840  (by first | decide | omega) (by first | decide | omega)) (fun h2896 q2895 => ?_)
          obtain ⟨j2897, f2898⟩ := q2895
          have f2901 := Fr.trans f2845 f2898 (by decide)
          have f2902 := Fr.trans f1839 f2898 (by decide)
          refine x_aload (np := 123) (x := 0) (by decide +kernel) rfl (x_nc_le (by decide)) ?_
          have q2903 : h2896 75 28 = 94 := by have z := jB (e := 28) 0 j2897 rg_75_28_0_1 (by decide) (by decide); omega
          refine x_getR (np := 126) (x := 732) (f := 28) (q := 94) (by decide +kernel) (by decide) (by decide +kernel) q2903 ?_
          refine x_iload (np := 127) (x := 2) (by decide +kernel) rfl (by decide) ?_
          have q2904 : h2896 94 1 = h1837 94 1 := jK 1 f2898 rg_94_0_1_6 (by first | decide | omega) (by first | decide | omega) (by decide)
          have b2905 := jB (e := 1) 1 j1840 rg_94_0_1_6 (by first | decide | omega) (by first | decide | omega)
          refine x_aldC (np := 128) (x := 0) (n := 6) (i := 1) (q := (h1837 94 1)) (by decide +kernel) (by decide +kernel) (by first | decide | omega) (by first | decide | omega) (by decide) q2904 (fun l2906 => ?_)
          refine x_ifz (k := 3) (tg := 135) (np := 131) (by decide +kernel) (by decide) l2906 (fun q2907 => ?_) (fun q2908 => ?_)
          · have q2907 : 2147483648 ≤ (h1837 94 1) := q2907
            refine x_aload (np := 136) (x := 0) (by decide +kernel) rfl (x_nc_le (by decide)) ?_
            refine x_iload (np := 137) (x := 2) (by decide +kernel) rfl (by decide) ?_
            have q2909 : h2896 94 1 = h1837 94 1 := jK 1 f2898 rg_94_0_1_6 (by first | decide | omega) (by first | decide | omega) (by decide)
            refine x_cP (t := 6) (mj := 257) (n := 2) (rc := 12) (ml := 3) (nr := 0) (np := 140) (as := [x_r 75, iv_c 2147483649]) (rest := []) (lo1 := [x_r 75, iv_c 2147483649, 147573952589676412928]) (by decide +kernel) (by decide) (by decide +kernel) (x_rb_of (by decide +kernel)) rfl rfl (x_wr (by decide) (x_wi (by decide) x_wn)) x_wn (by decide) rfl (c257_75_c1 j2897   (by first | decide | omega)) (fun v2910 l2911 q2912 => ?_)
            refine x_istore (np := 142) (x := 5) (lo' := [x_r 75, iv_c 2147483650, iv_c 2147483649, w1835, iv_c 2147483648, iv_c v2910]) (by decide +kernel) l2911 (Nat.le_of_ble_eq_true rfl) rfl ?_
            refine x_iload (np := 144) (x := 5) (by decide +kernel) rfl l2911 ?_
            refine x_ifz (k := 2) (tg := 151) (np := 147) (by decide +kernel) (by decide) l2911 (fun q2913 => ?_) (fun q2914 => ?_)
            · have q2913 : v2910 < 2147483648 := q2913
              refine x_const (np := 152) (x := 9223372039002259456) (a := 2147483648) (by decide +kernel) (by decide) (by decide) ?_
              refine x_istore (np := 154) (x := 4) (lo' := [x_r 75, iv_c 2147483650, iv_c 2147483649, w1835, iv_c 2147483648, iv_c v2910]) (by decide +kernel) (by decide) (Nat.le_of_ble_eq_true rfl) rfl ?_
              refine x_iload (np := 156) (x := 4) (by decide +kernel) rfl (by decide) ?_
              refine x_ifz (k := 0) (tg := 180) (np := 159) (by decide +kernel) (by decide) (by decide) (fun q2915 => ?_) (fun q2916 => ?_)
              · have q2915 : 2147483648 = 2147483648 := q2915
                refine x_iinc (np := 183) (i := 2) (j := 2147483647) (v := 2147483648) (lo' := [x_r 75, iv_c 2147483650, iv_c 2147483648, w1835, iv_c 2147483648, iv_c v2910]) (by decide +kernel) (by decide) (by decide) rfl (by decide) (by first | decide | omega) (by first | decide | omega) rfl ?_
                refine x_goto (np := 186) (x := 12) (by decide +kernel) ?_
                have q2917 : h2896 75 30 = h1837 75 30 := jK 0 f2898 rg_75_30_0_1 (by first | decide | omega) (by first | decide | omega) (by decide)
                exact i1845 w1835 (iv_c v2910) h2896 (by first | decide | omega) j2897 f2902 (by first | decide | omega)
              have q2916 : ¬ (2147483648 = 2147483648) := q2916
              exfalso; omega
            have q2914 : ¬ (v2910 < 2147483648) := q2914
            refine x_const (np := 148) (x := 9223372043297226753) (a := 2147483649) (by decide +kernel) (by decide) (by decide) ?_
            refine x_goto (np := 151) (x := 152) (by decide +kernel) ?_
            refine x_istore (np := 154) (x := 4) (lo' := [x_r 75, iv_c 2147483650, iv_c 2147483649, w1835, iv_c 2147483649, iv_c v2910]) (by decide +kernel) (by decide) (Nat.le_of_ble_eq_true rfl) rfl ?_
            refine x_iload (np := 156) (x := 4) (by decide +kernel) rfl (by decide) ?_
            refine x_ifz (k := 0) (tg := 180) (np := 159) (by decide +kernel) (by decide) (by decide) (fun q2918 => ?_) (fun q2919 => ?_)
            · have q2918 : 2147483649 = 2147483648 := q2918
              exfalso; omega
            have q2919 : ¬ (2147483649 = 2147483648) := q2919
            refine x_aload (np := 160) (x := 0) (by decide +kernel) rfl (x_nc_le (by decide)) ?_
            have q2920 : h2896 75 27 = 93 := by have z := jB (e := 27) 0 j2897 rg_75_27_0_1 (by decide) (by decide); omega
            refine x_getR (np := 163) (x := 731) (f := 27) (q := 93) (by decide +kernel) (by decide) (by decide +kernel) q2920 ?_
            refine x_iload (np := 164) (x := 2) (by decide +kernel) rfl (by decide) ?_
            refine x_iload (np := 166) (x := 5) (by decide +kernel) rfl l2911 ?_
            refine x_ast (np := 167) (x := 0) (kd := 1) (n := 6) (i := 1) (by decide +kernel) (Or.inl rfl) (by decide +kernel) (by first | decide | omega) (by first | decide | omega) (by decide) l2911 (fun z => absurd z (by decide)) ?_
            have j2922 := jU (e := 1) (v := v2910) 1 j2897 rg_93_0_1_6 (by first | decide | omega) (by first | decide | omega) (by first | decide | omega)
            have f2924 := jF (e := 1) (v := v2910) 1 f2901 rg_93_0_1_6 (by first | decide | omega) (by first | decide | omega) (by decide)
            have f2925 := jF (e := 1) (v := v2910) 1 f2902 rg_93_0_1_6 (by first | decide | omega) (by first | decide | omega) (by decide)
            generalize e2923 : x_up h2896 93 1 v2910 = h2921 at j2922 f2924 f2925 ⊢
            refine x_aload (np := 168) (x := 0) (by decide +kernel) rfl (x_nc_le (by decide)) ?_
            refine x_iload (np := 170) (x := 5) (by decide +kernel) rfl l2911 ?_
            refine x_const (np := 171) (x := 9223372043297226753) (a := 2147483649) (by decide +kernel) (by decide) (by decide) ?_
            refine x_cV (t := 6) (mj := 248) (n := 3) (rc := 12) (ml := 4) (nr := 0) (np := 174) (as := [x_r 75, iv_c v2910, iv_c 2147483649]) (rest := []) (lo1 := [x_r 75, iv_c v2910, iv_c 2147483649, 147573952589676412928]) (by decide +kernel) (by decide) (by decide +kernel) (x_rb_of (by decide +kernel)) rfl rfl (x_wr (by decide) (x_wi l2911 (x_wi (by decide) x_wn))) x_wn (by decide) rfl (c248_75 j2922  (by first | decide | omega) (by first | decide | omega)) (fun h2929 q2928 => ?_)
            obtain ⟨j2930, f2931⟩ := q2928
            have f2934 := Fr.trans f2924 f2931 (by decide)
            have f2935 := Fr.trans f2925 f2931 (by decide)
            refine x_iinc (np := 177) (i := 2) (j := 2147483649) (v := 2147483650) (lo' := [x_r 75, iv_c 2147483650, iv_c 2147483650, w1835, iv_c 2147483649, iv_c v2910]) (by decide +kernel) (by decide) (by decide) rfl (by decide) (by first | decide | omega) (by first | decide | omega) rfl ?_
            refine x_goto (np := 180) (x := 183) (by decide +kernel) ?_
            refine x_goto (np := 186) (x := 12) (by decide +kernel) ?_
            have q2936 : h2929 75 30 = h2921 75 30 := jK 0 f2931 rg_75_30_0_1 (by first | decide | omega) (by first | decide | omega) (by decide)
            have q2937 : h2921 75 30 = h2896 75 30 := by rw [← e2923]; exact x_up_k (by decide)
            have q2938 : h2896 75 30 = h1837 75 30 := jK 0 f2898 rg_75_30_0_1 (by first | decide | omega) (by first | decide | omega) (by decide)
            exact i1843 w1835 (iv_c v2910) h2929 (by first | decide | omega) j2930 f2935 (by first | decide | omega)
          have q2908 : ¬ (2147483648 ≤ (h1837 94 1)) := q2908
          refine x_const (np := 132) (x := 9223372034707292159) (a := 2147483647) (by decide +kernel) (by decide) (by decide) ?_
          refine x_goto (np := 135) (x := 140) (by decide +kernel) ?_
          refine x_istore (np := 142) (x := 5) (lo' := [x_r 75, iv_c 2147483650, iv_c 2147483649, w1835, iv_c 2147483648, iv_c 2147483647]) (by decide +kernel) (by decide) (Nat.le_of_ble_eq_true rfl) rfl ?_
          refine x_iload (np := 144) (x := 5) (by decide +kernel) rfl (by decide) ?_
          refine x_ifz (k := 2) (tg := 151) (np := 147) (by decide +kernel) (by decide) (by decide) (fun q2939 => ?_) (fun q2940 => ?_)
          · have q2939 : 2147483647 < 2147483648 := q2939
            refine x_const (np := 152) (x := 9223372039002259456) (a := 2147483648) (by decide +kernel) (by decide) (by decide) ?_
            refine x_istore (np := 154) (x := 4) (lo' := [x_r 75, iv_c 2147483650, iv_c 2147483649, w1835, iv_c 2147483648, iv_c 2147483647]) (by decide +kernel) (by decide) (Nat.le_of_ble_eq_true rfl) rfl ?_
            refine x_iload (np := 156) (x := 4) (by decide +kernel) rfl (by decide) ?_
            refine x_ifz (k := 0) (tg := 180) (np := 159) (by decide +kernel) (by decide) (by decide) (fun q2941 => ?_) (fun q2942 => ?_)
            · have q2941 : 2147483648 = 2147483648 := q2941
              refine x_iinc (np := 183) (i := 2) (j := 2147483647) (v := 2147483648) (lo' := [x_r 75, iv_c 2147483650, iv_c 2147483648, w1835, iv_c 2147483648, iv_c 2147483647]) (by decide +kernel) (by decide) (by decide) rfl (by decide) (by first | decide | omega) (by first | decide | omega) rfl ?_
              refine x_goto (np := 186) (x := 12) (by decide +kernel) ?_
              have q2943 : h2896 75 30 = h1837 75 30 := jK 0 f2898 rg_75_30_0_1 (by first | decide | omega) (by first | decide | omega) (by decide)
              exact i1845 w1835 (iv_c 2147483647) h2896 (by first | decide | omega) j2897 f2902 (by first | decide | omega)
            have q2942 : ¬ (2147483648 = 2147483648) := q2942
            exfalso; omega
          have q2940 : ¬ (2147483647 < 2147483648) := q2940
          exfalso; omega
        have q2849 : ¬ (2147483648 = 2147483648) := q2849
        exfalso; omega
  have q2944 : h2 75 30 = h 75 30 := by rw [← e4]; exact x_up_i (by first | decide | omega)
  exact (p1803 _).1 (iv_c 2147483648) 147573952589676412928 h2 (Nat.lt_succ_self _) j3 (Fr.refl _ _) (by first | decide | omega)
