/-! ===== methods ===== -/
set_option maxHeartbeats 0 in
/-- LentNamesModel.isAsked(II)Z -/
theorem c256_75_c3 {sc : Nat × Nat} {d a2 : Nat} {h : xh} (hJ : J h) (ba2 : 2147483648 ≤ a2 ∧ a2 ≤ 2147488831) (hr0 : 2147483648 ≤ (h 94 3)) : X sc 256 (d + 3) (xI fun r h' => h' = h ∧ (2147483648 ≤ r ∧ r ≤ 2147483649)) 0 0 0 [x_r 75, iv_c 2147483651, iv_c a2, 147573952589676412928, 147573952589676412928, 147573952589676412928, 147573952589676412928, 147573952589676412928] [] h := by
  have la2 : a2 < 4294967296 := by first | decide | omega
  have b1 := jB (e := 3) 3 hJ rg_94_0_1_6 (by first | decide | omega) (by first | decide | omega)
  refine x_iload (np := 1) (x := 2) (by decide +kernel) rfl la2 ?_
  refine x_nI (t := 0) (mj := 242) (n := 1) (rc := 0) (ml := 1) (nr := 0) (np := 4) (as := [iv_c a2]) (rest := []) (lo1 := [iv_c a2]) (by decide +kernel) (by decide) (by decide +kernel) (Or.inl rfl) rfl rfl (x_wi la2 x_wn) x_wn (by decide) rfl ?_
  refine x_iload (np := 1) (x := 0) (by decide +kernel) rfl la2 ?_
  refine x_const (np := 4) (x := 9223375749854004064) (a := 2147484512) (by decide +kernel) (by decide) (by decide) ?_
  obtain ⟨u2, q3⟩ : ∃ z, a2 = 2147483648 + z := ⟨a2 - 2147483648, by first | decide | omega⟩
  obtain ⟨u4, q5⟩ : ∃ z, z = u2 / 864 := ⟨_, rfl⟩
  refine x_div (np := 5) (i := u2) (j := 864) (by decide +kernel) (by first | decide | omega) (by decide) (by first | decide | omega) (by decide) ?_
  rw [← q5]
  refine x_retI (np := 6) (x := 0) (by decide +kernel) (by first | decide | omega) (Or.inl (by decide +kernel)) ⟨_, rfl, (by first | decide | omega), ?_⟩
  refine x_istore (np := 5) (x := 3) (lo' := [x_r 75, iv_c 2147483651, iv_c a2, iv_c (2147483648 + u4), 147573952589676412928, 147573952589676412928, 147573952589676412928, 147573952589676412928]) (by decide +kernel) (by first | decide | omega) (Nat.le_of_ble_eq_true rfl) rfl ?_
  refine x_iload (np := 6) (x := 2) (by decide +kernel) rfl la2 ?_
  refine x_nI (t := 0) (mj := 243) (n := 1) (rc := 0) (ml := 1) (nr := 0) (np := 9) (as := [iv_c a2]) (rest := []) (lo1 := [iv_c a2]) (by decide +kernel) (by decide) (by decide +kernel) (Or.inl rfl) rfl rfl (x_wi la2 x_wn) x_wn (by decide) rfl ?_
  refine x_iload (np := 1) (x := 0) (by decide +kernel) rfl la2 ?_
  refine x_const (np := 4) (x := 9223372657477550224) (a := 2147483792) (by decide +kernel) (by decide) (by decide) ?_
  obtain ⟨u6, q7⟩ : ∃ z, z = u2 / 144 := ⟨_, rfl⟩
  refine x_div (np := 5) (i := u2) (j := 144) (by decide +kernel) (by first | decide | omega) (by decide) (by first | decide | omega) (by decide) ?_
  rw [← q7]
  refine x_const (np := 7) (x := 9223372064772063238) (a := 2147483654) (by decide +kernel) (by decide) (by decide) ?_
  obtain ⟨u8, q9⟩ : ∃ z, z = u6 % 6 := ⟨_, rfl⟩
  refine x_rem (np := 8) (i := u6) (j := 6) (by decide +kernel) (by first | decide | omega) (by decide) (by first | decide | omega) (by decide) ?_
  rw [← q9]
  refine x_retI (np := 9) (x := 0) (by decide +kernel) (by first | decide | omega) (Or.inl (by decide +kernel)) ⟨_, rfl, (by first | decide | omega), ?_⟩
  refine x_istore (np := 11) (x := 4) (lo' := [x_r 75, iv_c 2147483651, iv_c a2, iv_c (2147483648 + u4), iv_c (2147483648 + u8), 147573952589676412928, 147573952589676412928, 147573952589676412928]) (by decide +kernel) (by first | decide | omega) (Nat.le_of_ble_eq_true rfl) rfl ?_
  refine x_iload (np := 12) (x := 2) (by decide +kernel) rfl la2 ?_
  refine x_nI (t := 0) (mj := 244) (n := 1) (rc := 0) (ml := 1) (nr := 0) (np := 15) (as := [iv_c a2]) (rest := []) (lo1 := [iv_c a2]) (by decide +kernel) (by decide) (by decide +kernel) (Or.inl rfl) rfl rfl (x_wi la2 x_wn) x_wn (by decide) rfl ?_
  refine x_iload (np := 1) (x := 0) (by decide +kernel) rfl la2 ?_
  refine x_const (np := 3) (x := 9223372090541867020) (a := 2147483660) (by decide +kernel) (by decide) (by decide) ?_
  obtain ⟨u10, q11⟩ : ∃ z, z = u2 / 12 := ⟨_, rfl⟩
  refine x_div (np := 4) (i := u2) (j := 12) (by decide +kernel) (by first | decide | omega) (by decide) (by first | decide | omega) (by decide) ?_
  rw [← q11]
  refine x_const (np := 6) (x := 9223372090541867020) (a := 2147483660) (by decide +kernel) (by decide) (by decide) ?_
  obtain ⟨u12, q13⟩ : ∃ z, z = u10 % 12 := ⟨_, rfl⟩
  refine x_rem (np := 7) (i := u10) (j := 12) (by decide +kernel) (by first | decide | omega) (by decide) (by first | decide | omega) (by decide) ?_
  rw [← q13]
  refine x_retI (np := 8) (x := 0) (by decide +kernel) (by first | decide | omega) (Or.inl (by decide +kernel)) ⟨_, rfl, (by first | decide | omega), ?_⟩
  refine x_istore (np := 17) (x := 5) (lo' := [x_r 75, iv_c 2147483651, iv_c a2, iv_c (2147483648 + u4), iv_c (2147483648 + u8), iv_c (2147483648 + u12), 147573952589676412928, 147573952589676412928]) (by decide +kernel) (by first | decide | omega) (Nat.le_of_ble_eq_true rfl) rfl ?_
  refine x_iload (np := 18) (x := 2) (by decide +kernel) rfl la2 ?_
  refine x_nI (t := 0) (mj := 245) (n := 1) (rc := 0) (ml := 1) (nr := 0) (np := 21) (as := [iv_c a2]) (rest := []) (lo1 := [iv_c a2]) (by decide +kernel) (by decide) (by decide +kernel) (Or.inl rfl) rfl rfl (x_wi la2 x_wn) x_wn (by decide) rfl ?_
  refine x_iload (np := 1) (x := 0) (by decide +kernel) rfl la2 ?_
  refine x_const (np := 3) (x := 9223372090541867020) (a := 2147483660) (by decide +kernel) (by decide) (by decide) ?_
  obtain ⟨u14, q15⟩ : ∃ z, z = u2 % 12 := ⟨_, rfl⟩
  refine x_rem (np := 4) (i := u2) (j := 12) (by decide +kernel) (by first | decide | omega) (by decide) (by first | decide | omega) (by decide) ?_
  rw [← q15]
  refine x_retI (np := 5) (x := 0) (by decide +kernel) (by first | decide | omega) (Or.inl (by decide +kernel)) ⟨_, rfl, (by first | decide | omega), ?_⟩
  refine x_istore (np := 23) (x := 6) (lo' := [x_r 75, iv_c 2147483651, iv_c a2, iv_c (2147483648 + u4), iv_c (2147483648 + u8), iv_c (2147483648 + u12), iv_c (2147483648 + u14), 147573952589676412928]) (by decide +kernel) (by first | decide | omega) (Nat.le_of_ble_eq_true rfl) rfl ?_
  refine x_aload (np := 24) (x := 0) (by decide +kernel) rfl (x_nc_le (by decide)) ?_
  have q16 : h 75 28 = 94 := by have z := jB (e := 28) 0 hJ rg_75_28_0_1 (by decide) (by decide); omega
  refine x_getR (np := 27) (x := 732) (f := 28) (q := 94) (by decide +kernel) (by decide) (by decide +kernel) q16 ?_
  refine x_iload (np := 28) (x := 1) (by decide +kernel) rfl (by decide) ?_
  refine x_aldC (np := 29) (x := 0) (n := 6) (i := 3) (q := (h 94 3)) (by decide +kernel) (by decide +kernel) (by first | decide | omega) (by first | decide | omega) (by decide) rfl (fun l17 => ?_)
  refine x_istore (np := 31) (x := 7) (lo' := [x_r 75, iv_c 2147483651, iv_c a2, iv_c (2147483648 + u4), iv_c (2147483648 + u8), iv_c (2147483648 + u12), iv_c (2147483648 + u14), iv_c (h 94 3)]) (by decide +kernel) l17 (Nat.le_of_ble_eq_true rfl) rfl ?_
  refine x_aload (np := 32) (x := 0) (by decide +kernel) rfl (x_nc_le (by decide)) ?_
  have b18 := jB (e := 33) 0 hJ rg_75_33_0_1 (by first | decide | omega) (by first | decide | omega)
  refine x_getC (np := 35) (x := 737) (f := 33) (q := (h 75 33)) (by decide +kernel) (by decide) (by decide +kernel) rfl (fun l19 => ?_)
  refine x_ifz (k := 1) (tg := 108) (np := 38) (by decide +kernel) (by decide) l19 (fun q20 => ?_) (fun q21 => ?_)
  · have q20 : (h 75 33) ≠ 2147483648 := q20
    refine x_iload (np := 110) (x := 7) (by decide +kernel) rfl l17 ?_
    refine x_const (np := 112) (x := 9223372468498989156) (a := 2147483748) (by decide +kernel) (by decide) (by decide) ?_
    refine x_icmp (k := 3) (tg := 161) (np := 115) (by decide +kernel) (by decide) l17 (by decide) (fun q22 => ?_) (fun q23 => ?_)
    · have q22 : 2147483748 ≤ (h 94 3) := q22
      refine x_iload (np := 163) (x := 4) (by decide +kernel) rfl (by first | decide | omega) ?_
      refine x_iload (np := 165) (x := 7) (by decide +kernel) rfl l17 ?_
      refine x_const (np := 167) (x := 9223372468498989156) (a := 2147483748) (by decide +kernel) (by decide) (by decide) ?_
      obtain ⟨v24, q25⟩ : ∃ z, z + 2147483748 = (h 94 3) + 2147483648 := ⟨(h 94 3) + 2147483648 - 2147483748, by first | decide | omega⟩
      refine x_isub (np := 168) (x := 0) (v := v24) (by decide +kernel) l17 (by decide) (by first | decide | omega) (by first | decide | omega) ?_
      refine x_icmp (k := 1) (tg := 202) (np := 171) (by decide +kernel) (by decide) (by first | decide | omega) (by first | decide | omega) (fun q26 => ?_) (fun q27 => ?_)
      · have q26 : (2147483648 + u8) ≠ v24 := q26
        refine x_const (np := 203) (x := 9223372039002259456) (a := 2147483648) (by decide +kernel) (by decide) (by decide) ?_
        refine x_retI (np := 204) (x := 0) (by decide +kernel) (by decide) (Or.inr ⟨by decide +kernel, by first | decide | omega, by first | decide | omega⟩) ⟨_, rfl, (by decide), ?_⟩
        exact ⟨rfl, (by first | decide | omega)⟩
      have q27 : ¬ ((2147483648 + u8) ≠ v24) := q27
      refine x_iload (np := 173) (x := 6) (by decide +kernel) rfl (by first | decide | omega) ?_
      refine x_aload (np := 174) (x := 0) (by decide +kernel) rfl (x_nc_le (by decide)) ?_
      have q28 : h 75 29 = 95 := by have z := jB (e := 29) 0 hJ rg_75_29_0_1 (by decide) (by decide); omega
      refine x_getR (np := 177) (x := 733) (f := 29) (q := 95) (by decide +kernel) (by decide) (by decide +kernel) q28 ?_
      refine x_iload (np := 178) (x := 1) (by decide +kernel) rfl (by decide) ?_
      have b29 := jB (e := 3) 3 hJ rg_95_0_1_6 (by first | decide | omega) (by first | decide | omega)
      refine x_aldC (np := 179) (x := 0) (n := 6) (i := 3) (q := (h 95 3)) (by decide +kernel) (by decide +kernel) (by first | decide | omega) (by first | decide | omega) (by decide) rfl (fun l30 => ?_)
      refine x_aload (np := 180) (x := 0) (by decide +kernel) rfl (x_nc_le (by decide)) ?_
      have b31 := jB (e := 31) 0 hJ rg_75_31_0_1 (by first | decide | omega) (by first | decide | omega)
      refine x_getC (np := 183) (x := 735) (f := 31) (q := (h 75 31)) (by decide +kernel) (by decide) (by decide +kernel) rfl (fun l32 => ?_)
      obtain ⟨v33, q34⟩ : ∃ z, z + (h 75 31) = (h 95 3) + 2147483648 := ⟨(h 95 3) + 2147483648 - (h 75 31), by first | decide | omega⟩
      refine x_isub (np := 184) (x := 0) (v := v33) (by decide +kernel) l30 l32 (by first | decide | omega) (by first | decide | omega) ?_
      refine x_icmp (k := 2) (tg := 202) (np := 187) (by decide +kernel) (by decide) (by first | decide | omega) (by first | decide | omega) (fun q35 => ?_) (fun q36 => ?_)
      · have q35 : (2147483648 + u14) < v33 := q35
        refine x_const (np := 203) (x := 9223372039002259456) (a := 2147483648) (by decide +kernel) (by decide) (by decide) ?_
        refine x_retI (np := 204) (x := 0) (by decide +kernel) (by decide) (Or.inr ⟨by decide +kernel, by first | decide | omega, by first | decide | omega⟩) ⟨_, rfl, (by decide), ?_⟩
        exact ⟨rfl, (by first | decide | omega)⟩
      have q36 : ¬ ((2147483648 + u14) < v33) := q36
      refine x_iload (np := 189) (x := 5) (by decide +kernel) rfl (by first | decide | omega) ?_
      refine x_aload (np := 190) (x := 0) (by decide +kernel) rfl (x_nc_le (by decide)) ?_
      have q37 : h 75 29 = 95 := by have z := jB (e := 29) 0 hJ rg_75_29_0_1 (by decide) (by decide); omega
      refine x_getR (np := 193) (x := 733) (f := 29) (q := 95) (by decide +kernel) (by decide) (by decide +kernel) q37 ?_
      refine x_iload (np := 194) (x := 1) (by decide +kernel) rfl (by decide) ?_
      refine x_aldC (np := 195) (x := 0) (n := 6) (i := 3) (q := (h 95 3)) (by decide +kernel) (by decide +kernel) (by first | decide | omega) (by first | decide | omega) (by decide) rfl (fun l38 => ?_)
      refine x_icmp (k := 4) (tg := 202) (np := 198) (by decide +kernel) (by decide) (by first | decide | omega) l30 (fun q39 => ?_) (fun q40 => ?_)
      · have q39 : (h 95 3) < (2147483648 + u12) := q39
        refine x_const (np := 203) (x := 9223372039002259456) (a := 2147483648) (by decide +kernel) (by decide) (by decide) ?_
        refine x_retI (np := 204) (x := 0) (by decide +kernel) (by decide) (Or.inr ⟨by decide +kernel, by first | decide | omega, by first | decide | omega⟩) ⟨_, rfl, (by decide), ?_⟩
        exact ⟨rfl, (by first | decide | omega)⟩
      have q40 : ¬ ((h 95 3) < (2147483648 + u12)) := q40
      refine x_const (np := 199) (x := 9223372043297226753) (a := 2147483649) (by decide +kernel) (by decide) (by decide) ?_
      refine x_goto (np := 202) (x := 203) (by decide +kernel) ?_
      refine x_retI (np := 204) (x := 0) (by decide +kernel) (by decide) (Or.inr ⟨by decide +kernel, by first | decide | omega, by first | decide | omega⟩) ⟨_, rfl, (by decide), ?_⟩
      exact ⟨rfl, (by first | decide | omega)⟩
    have q23 : ¬ (2147483748 ≤ (h 94 3)) := q23
    refine x_iload (np := 116) (x := 3) (by decide +kernel) rfl (by first | decide | omega) ?_
    refine x_aload (np := 117) (x := 0) (by decide +kernel) rfl (x_nc_le (by decide)) ?_
    refine x_iload (np := 119) (x := 7) (by decide +kernel) rfl l17 ?_
    refine x_const (np := 120) (x := 9223372039002259456) (a := 2147483648) (by decide +kernel) (by decide) (by decide) ?_
    refine x_nI (t := 6) (mj := 162) (n := 3) (rc := 12) (ml := 3) (nr := 1) (np := 123) (as := [x_r 75, iv_c (h 94 3), iv_c 2147483648]) (rest := [iv_c (2147483648 + u4)]) (lo1 := [x_r 75, iv_c (h 94 3), iv_c 2147483648]) (by decide +kernel) (by decide) (by decide +kernel) (x_rb_of (by decide +kernel)) rfl rfl (x_wr (by decide) (x_wi l17 (x_wi (by decide) x_wn))) (x_wi (by first | decide | omega) x_wn) (by decide) rfl ?_
    refine x_aload (np := 1) (x := 0) (by decide +kernel) rfl (x_nc_le (by decide)) ?_
    have q41 : h 75 1 = 76 := by have z := jB (e := 1) 0 hJ rg_75_1_0_1 (by decide) (by decide); omega
    refine x_getR (np := 4) (x := 705) (f := 1) (q := 76) (by decide +kernel) (by decide) (by decide +kernel) q41 ?_
    refine x_const (np := 7) (x := 9223372726197026976) (a := 2147483808) (by decide +kernel) (by decide) (by decide) ?_
    refine x_const (np := 8) (x := 9223372056182128644) (a := 2147483652) (by decide +kernel) (by decide) (by decide) ?_
    refine x_iload (np := 9) (x := 1) (by decide +kernel) rfl l17 ?_
    obtain ⟨u42, q43⟩ : ∃ z, (h 94 3) = 2147483648 + z := ⟨(h 94 3) - 2147483648, by first | decide | omega⟩
    refine x_imul (np := 10) (x := 0) (i := 4) (j := u42) (v := (2147483648 + 4 * u42)) (by decide +kernel) (by first | decide | omega) (by first | decide | omega) (by first | decide | omega) (by first | decide | omega) (by decide) l17 ?_
    refine x_iadd (np := 11) (x := 0) (v := (2147483808 + 4 * u42)) (by decide +kernel) (by decide) (by first | decide | omega) (by first | decide | omega) (by first | decide | omega) ?_
    refine x_iload (np := 12) (x := 2) (by decide +kernel) rfl (by decide) ?_
    refine x_iadd (np := 13) (x := 0) (v := (2147483808 + 4 * u42)) (by decide +kernel) (by first | decide | omega) (by decide) (by first | decide | omega) (by first | decide | omega) ?_
    refine x_aldC (np := 14) (x := 0) (n := 1952) (i := (160 + 4 * u42)) (q := ((h 76 (160 + 4 * u42)))) (by decide +kernel) (by decide +kernel) (by first | decide | omega) (by first | decide | omega) (by decide) rfl (fun l45 => ?_)
    refine x_retI (np := 15) (x := 0) (by decide +kernel) l45 (Or.inl (by decide +kernel)) ⟨_, rfl, l45, ?_⟩
    refine x_icmp (k := 1) (tg := 159) (np := 126) (by decide +kernel) (by decide) (by first | decide | omega) l45 (fun q46 => ?_) (fun q47 => ?_)
    · have q46 : (2147483648 + u4) ≠ ((h 76 (160 + 4 * u42))) := q46
      refine x_const (np := 160) (x := 9223372039002259456) (a := 2147483648) (by decide +kernel) (by decide) (by decide) ?_
      refine x_retI (np := 161) (x := 0) (by decide +kernel) (by decide) (Or.inr ⟨by decide +kernel, by first | decide | omega, by first | decide | omega⟩) ⟨_, rfl, (by decide), ?_⟩
      exact ⟨rfl, (by first | decide | omega)⟩
    have q47 : ¬ ((2147483648 + u4) ≠ ((h 76 (160 + 4 * u42)))) := q47
    refine x_iload (np := 128) (x := 4) (by decide +kernel) rfl (by first | decide | omega) ?_
    refine x_aload (np := 129) (x := 0) (by decide +kernel) rfl (x_nc_le (by decide)) ?_
    refine x_iload (np := 131) (x := 7) (by decide +kernel) rfl l17 ?_
    refine x_const (np := 132) (x := 9223372051887161347) (a := 2147483651) (by decide +kernel) (by decide) (by decide) ?_
    refine x_nI (t := 6) (mj := 162) (n := 3) (rc := 12) (ml := 3) (nr := 1) (np := 135) (as := [x_r 75, iv_c (h 94 3), iv_c 2147483651]) (rest := [iv_c (2147483648 + u8)]) (lo1 := [x_r 75, iv_c (h 94 3), iv_c 2147483651]) (by decide +kernel) (by decide) (by decide +kernel) (x_rb_of (by decide +kernel)) rfl rfl (x_wr (by decide) (x_wi l17 (x_wi (by decide) x_wn))) (x_wi (by first | decide | omega) x_wn) (by decide) rfl ?_
    refine x_aload (np := 1) (x := 0) (by decide +kernel) rfl (x_nc_le (by decide)) ?_
    have q48 : h 75 1 = 76 := by have z := jB (e := 1) 0 hJ rg_75_1_0_1 (by decide) (by decide); omega
    refine x_getR (np := 4) (x := 705) (f := 1) (q := 76) (by decide +kernel) (by decide) (by decide +kernel) q48 ?_
    refine x_const (np := 7) (x := 9223372726197026976) (a := 2147483808) (by decide +kernel) (by decide) (by decide) ?_
    refine x_const (np := 8) (x := 9223372056182128644) (a := 2147483652) (by decide +kernel) (by decide) (by decide) ?_
    refine x_iload (np := 9) (x := 1) (by decide +kernel) rfl l17 ?_
    refine x_imul (np := 10) (x := 0) (i := 4) (j := u42) (v := (2147483648 + 4 * u42)) (by decide +kernel) (by first | decide | omega) (by first | decide | omega) (by first | decide | omega) (by first | decide | omega) (by decide) l17 ?_
    refine x_iadd (np := 11) (x := 0) (v := (2147483808 + 4 * u42)) (by decide +kernel) (by decide) (by first | decide | omega) (by first | decide | omega) (by first | decide | omega) ?_
    refine x_iload (np := 12) (x := 2) (by decide +kernel) rfl (by decide) ?_
    refine x_iadd (np := 13) (x := 0) (v := (2147483811 + 4 * u42)) (by decide +kernel) (by first | decide | omega) (by decide) (by first | decide | omega) (by first | decide | omega) ?_
    refine x_aldC (np := 14) (x := 0) (n := 1952) (i := (163 + 4 * u42)) (q := ((h 76 (163 + 4 * u42)))) (by decide +kernel) (by decide +kernel) (by first | decide | omega) (by first | decide | omega) (by decide) rfl (fun l50 => ?_)
    refine x_retI (np := 15) (x := 0) (by decide +kernel) l50 (Or.inl (by decide +kernel)) ⟨_, rfl, l50, ?_⟩
    refine x_icmp (k := 1) (tg := 159) (np := 138) (by decide +kernel) (by decide) (by first | decide | omega) l50 (fun q51 => ?_) (fun q52 => ?_)
    · have q51 : (2147483648 + u8) ≠ ((h 76 (163 + 4 * u42))) := q51
      refine x_const (np := 160) (x := 9223372039002259456) (a := 2147483648) (by decide +kernel) (by decide) (by decide) ?_
      refine x_retI (np := 161) (x := 0) (by decide +kernel) (by decide) (Or.inr ⟨by decide +kernel, by first | decide | omega, by first | decide | omega⟩) ⟨_, rfl, (by decide), ?_⟩
      exact ⟨rfl, (by first | decide | omega)⟩
    have q52 : ¬ ((2147483648 + u8) ≠ ((h 76 (163 + 4 * u42)))) := q52
    refine x_aload (np := 139) (x := 0) (by decide +kernel) rfl (x_nc_le (by decide)) ?_
    refine x_iload (np := 141) (x := 7) (by decide +kernel) rfl l17 ?_
    refine x_const (np := 142) (x := 9223372047592194050) (a := 2147483650) (by decide +kernel) (by decide) (by decide) ?_
    refine x_nI (t := 6) (mj := 162) (n := 3) (rc := 12) (ml := 3) (nr := 0) (np := 145) (as := [x_r 75, iv_c (h 94 3), iv_c 2147483650]) (rest := []) (lo1 := [x_r 75, iv_c (h 94 3), iv_c 2147483650]) (by decide +kernel) (by decide) (by decide +kernel) (x_rb_of (by decide +kernel)) rfl rfl (x_wr (by decide) (x_wi l17 (x_wi (by decide) x_wn))) x_wn (by decide) rfl ?_
    refine x_aload (np := 1) (x := 0) (by decide +kernel) rfl (x_nc_le (by decide)) ?_
    have q53 : h 75 1 = 76 := by have z := jB (e := 1) 0 hJ rg_75_1_0_1 (by decide) (by decide); omega
    refine x_getR (np := 4) (x := 705) (f := 1) (q := 76) (by decide +kernel) (by decide) (by decide +kernel) q53 ?_
    refine x_const (np := 7) (x := 9223372726197026976) (a := 2147483808) (by decide +kernel) (by decide) (by decide) ?_
    refine x_const (np := 8) (x := 9223372056182128644) (a := 2147483652) (by decide +kernel) (by decide) (by decide) ?_
    refine x_iload (np := 9) (x := 1) (by decide +kernel) rfl l17 ?_
    refine x_imul (np := 10) (x := 0) (i := 4) (j := u42) (v := (2147483648 + 4 * u42)) (by decide +kernel) (by first | decide | omega) (by first | decide | omega) (by first | decide | omega) (by first | decide | omega) (by decide) l17 ?_
    refine x_iadd (np := 11) (x := 0) (v := (2147483808 + 4 * u42)) (by decide +kernel) (by decide) (by first | decide | omega) (by first | decide | omega) (by first | decide | omega) ?_
    refine x_iload (np := 12) (x := 2) (by decide +kernel) rfl (by decide) ?_
    refine x_iadd (np := 13) (x := 0) (v := (2147483810 + 4 * u42)) (by decide +kernel) (by first | decide | omega) (by decide) (by first | decide | omega) (by first | decide | omega) ?_
    refine x_aldC (np := 14) (x := 0) (n := 1952) (i := (162 + 4 * u42)) (q := ((h 76 (162 + 4 * u42)))) (by decide +kernel) (by decide +kernel) (by first | decide | omega) (by first | decide | omega) (by decide) rfl (fun l55 => ?_)
    refine x_retI (np := 15) (x := 0) (by decide +kernel) l55 (Or.inl (by decide +kernel)) ⟨_, rfl, l55, ?_⟩
    refine x_iload (np := 147) (x := 5) (by decide +kernel) rfl (by first | decide | omega) ?_
    refine x_iload (np := 149) (x := 6) (by decide +kernel) rfl (by first | decide | omega) ?_
    refine x_nI (t := 0) (mj := 153) (n := 3) (rc := 0) (ml := 3) (nr := 0) (np := 152) (as := [iv_c ((h 76 (162 + 4 * u42))), iv_c (2147483648 + u12), iv_c (2147483648 + u14)]) (rest := []) (lo1 := [iv_c ((h 76 (162 + 4 * u42))), iv_c (2147483648 + u12), iv_c (2147483648 + u14)]) (by decide +kernel) (by decide) (by decide +kernel) (Or.inl rfl) rfl rfl (x_wi l55 (x_wi (by first | decide | omega) (x_wi (by first | decide | omega) x_wn))) x_wn (by decide) rfl ?_
    refine x_iload (np := 1) (x := 0) (by decide +kernel) rfl l55 ?_
    refine x_iload (np := 2) (x := 1) (by decide +kernel) rfl (by first | decide | omega) ?_
    refine x_icmp (k := 2) (tg := 14) (np := 5) (by decide +kernel) (by decide) l55 (by first | decide | omega) (fun q56 => ?_) (fun q57 => ?_)
    · have q56 : ((h 76 (162 + 4 * u42))) < (2147483648 + u12) := q56
      refine x_const (np := 15) (x := 9223372039002259456) (a := 2147483648) (by decide +kernel) (by decide) (by decide) ?_
      refine x_retI (np := 16) (x := 0) (by decide +kernel) (by decide) (Or.inr ⟨by decide +kernel, by first | decide | omega, by first | decide | omega⟩) ⟨_, rfl, (by decide), ?_⟩
      refine x_ifz (k := 0) (tg := 159) (np := 155) (by decide +kernel) (by decide) (by decide) (fun q58 => ?_) (fun q59 => ?_)
      · have q58 : 2147483648 = 2147483648 := q58
        refine x_const (np := 160) (x := 9223372039002259456) (a := 2147483648) (by decide +kernel) (by decide) (by decide) ?_
        refine x_retI (np := 161) (x := 0) (by decide +kernel) (by decide) (Or.inr ⟨by decide +kernel, by first | decide | omega, by first | decide | omega⟩) ⟨_, rfl, (by decide), ?_⟩
        exact ⟨rfl, (by first | decide | omega)⟩
      have q59 : ¬ (2147483648 = 2147483648) := q59
      exfalso; omega
    have q57 : ¬ (((h 76 (162 + 4 * u42))) < (2147483648 + u12)) := q57
    refine x_iload (np := 6) (x := 0) (by decide +kernel) rfl l55 ?_
    refine x_iload (np := 7) (x := 2) (by decide +kernel) rfl (by first | decide | omega) ?_
    refine x_icmp (k := 4) (tg := 14) (np := 10) (by decide +kernel) (by decide) l55 (by first | decide | omega) (fun q60 => ?_) (fun q61 => ?_)
    · have q60 : (2147483648 + u14) < ((h 76 (162 + 4 * u42))) := q60
      refine x_const (np := 15) (x := 9223372039002259456) (a := 2147483648) (by decide +kernel) (by decide) (by decide) ?_
      refine x_retI (np := 16) (x := 0) (by decide +kernel) (by decide) (Or.inr ⟨by decide +kernel, by first | decide | omega, by first | decide | omega⟩) ⟨_, rfl, (by decide), ?_⟩
      refine x_ifz (k := 0) (tg := 159) (np := 155) (by decide +kernel) (by decide) (by decide) (fun q62 => ?_) (fun q63 => ?_)
      · have q62 : 2147483648 = 2147483648 := q62
        refine x_const (np := 160) (x := 9223372039002259456) (a := 2147483648) (by decide +kernel) (by decide) (by decide) ?_
        refine x_retI (np := 161) (x := 0) (by decide +kernel) (by decide) (Or.inr ⟨by decide +kernel, by first | decide | omega, by first | decide | omega⟩) ⟨_, rfl, (by decide), ?_⟩
        exact ⟨rfl, (by first | decide | omega)⟩
      have q63 : ¬ (2147483648 = 2147483648) := q63
      exfalso; omega
    have q61 : ¬ ((2147483648 + u14) < ((h 76 (162 + 4 * u42)))) := q61
    refine x_const (np := 11) (x := 9223372043297226753) (a := 2147483649) (by decide +kernel) (by decide) (by decide) ?_
    refine x_goto (np := 14) (x := 15) (by decide +kernel) ?_
    refine x_retI (np := 16) (x := 0) (by decide +kernel) (by decide) (Or.inr ⟨by decide +kernel, by first | decide | omega, by first | decide | omega⟩) ⟨_, rfl, (by decide), ?_⟩
    refine x_ifz (k := 0) (tg := 159) (np := 155) (by decide +kernel) (by decide) (by decide) (fun q64 => ?_) (fun q65 => ?_)
    · have q64 : 2147483649 = 2147483648 := q64
      exfalso; omega
    have q65 : ¬ (2147483649 = 2147483648) := q65
    refine x_const (np := 156) (x := 9223372043297226753) (a := 2147483649) (by decide +kernel) (by decide) (by decide) ?_
    refine x_goto (np := 159) (x := 160) (by decide +kernel) ?_
    refine x_retI (np := 161) (x := 0) (by decide +kernel) (by decide) (Or.inr ⟨by decide +kernel, by first | decide | omega, by first | decide | omega⟩) ⟨_, rfl, (by decide), ?_⟩
    exact ⟨rfl, (by first | decide | omega)⟩
  have q21 : ¬ ((h 75 33) ≠ 2147483648) := q21
  refine x_iload (np := 39) (x := 3) (by decide +kernel) rfl (by first | decide | omega) ?_
  refine x_aload (np := 40) (x := 0) (by decide +kernel) rfl (x_nc_le (by decide)) ?_
  refine x_iload (np := 42) (x := 7) (by decide +kernel) rfl l17 ?_
  refine x_const (np := 43) (x := 9223372039002259456) (a := 2147483648) (by decide +kernel) (by decide) (by decide) ?_
  refine x_nI (t := 6) (mj := 164) (n := 3) (rc := 12) (ml := 3) (nr := 1) (np := 46) (as := [x_r 75, iv_c (h 94 3), iv_c 2147483648]) (rest := [iv_c (2147483648 + u4)]) (lo1 := [x_r 75, iv_c (h 94 3), iv_c 2147483648]) (by decide +kernel) (by decide) (by decide +kernel) (x_rb_of (by decide +kernel)) rfl rfl (x_wr (by decide) (x_wi l17 (x_wi (by decide) x_wn))) (x_wi (by first | decide | omega) x_wn) (by decide) rfl ?_
  refine x_aload (np := 1) (x := 0) (by decide +kernel) rfl (x_nc_le (by decide)) ?_
  have q66 : h 75 1 = 76 := by have z := jB (e := 1) 0 hJ rg_75_1_0_1 (by decide) (by decide); omega
  refine x_getR (np := 4) (x := 705) (f := 1) (q := 76) (by decide +kernel) (by decide) (by decide +kernel) q66 ?_
  refine x_const (np := 7) (x := 9223373112744083706) (a := 2147483898) (by decide +kernel) (by decide) (by decide) ?_
  refine x_const (np := 8) (x := 9223372056182128644) (a := 2147483652) (by decide +kernel) (by decide) (by decide) ?_
  refine x_iload (np := 9) (x := 1) (by decide +kernel) rfl l17 ?_
  obtain ⟨u67, q68⟩ : ∃ z, (h 94 3) = 2147483648 + z := ⟨(h 94 3) - 2147483648, by first | decide | omega⟩
  refine x_imul (np := 10) (x := 0) (i := 4) (j := u67) (v := (2147483648 + 4 * u67)) (by decide +kernel) (by first | decide | omega) (by first | decide | omega) (by first | decide | omega) (by first | decide | omega) (by decide) l17 ?_
  refine x_iadd (np := 11) (x := 0) (v := (2147483898 + 4 * u67)) (by decide +kernel) (by decide) (by first | decide | omega) (by first | decide | omega) (by first | decide | omega) ?_
  refine x_iload (np := 12) (x := 2) (by decide +kernel) rfl (by decide) ?_
  refine x_iadd (np := 13) (x := 0) (v := (2147483898 + 4 * u67)) (by decide +kernel) (by first | decide | omega) (by decide) (by first | decide | omega) (by first | decide | omega) ?_
  refine x_aldC (np := 14) (x := 0) (n := 1952) (i := (250 + 4 * u67)) (q := ((h 76 (250 + 4 * u67)))) (by decide +kernel) (by decide +kernel) (by first | decide | omega) (by first | decide | omega) (by decide) rfl (fun l70 => ?_)
  refine x_retI (np := 15) (x := 0) (by decide +kernel) l70 (Or.inl (by decide +kernel)) ⟨_, rfl, l70, ?_⟩
  refine x_icmp (k := 1) (tg := 106) (np := 49) (by decide +kernel) (by decide) (by first | decide | omega) l70 (fun q71 => ?_) (fun q72 => ?_)
  · have q71 : (2147483648 + u4) ≠ ((h 76 (250 + 4 * u67))) := q71
    refine x_const (np := 107) (x := 9223372039002259456) (a := 2147483648) (by decide +kernel) (by decide) (by decide) ?_
    refine x_retI (np := 108) (x := 0) (by decide +kernel) (by decide) (Or.inr ⟨by decide +kernel, by first | decide | omega, by first | decide | omega⟩) ⟨_, rfl, (by decide), ?_⟩
    exact ⟨rfl, (by first | decide | omega)⟩
  have q72 : ¬ ((2147483648 + u4) ≠ ((h 76 (250 + 4 * u67)))) := q72
  refine x_aload (np := 50) (x := 0) (by decide +kernel) rfl (x_nc_le (by decide)) ?_
  refine x_iload (np := 52) (x := 7) (by decide +kernel) rfl l17 ?_
  refine x_const (np := 53) (x := 9223372047592194050) (a := 2147483650) (by decide +kernel) (by decide) (by decide) ?_
  refine x_nI (t := 6) (mj := 164) (n := 3) (rc := 12) (ml := 3) (nr := 0) (np := 56) (as := [x_r 75, iv_c (h 94 3), iv_c 2147483650]) (rest := []) (lo1 := [x_r 75, iv_c (h 94 3), iv_c 2147483650]) (by decide +kernel) (by decide) (by decide +kernel) (x_rb_of (by decide +kernel)) rfl rfl (x_wr (by decide) (x_wi l17 (x_wi (by decide) x_wn))) x_wn (by decide) rfl ?_
  refine x_aload (np := 1) (x := 0) (by decide +kernel) rfl (x_nc_le (by decide)) ?_
  have q73 : h 75 1 = 76 := by have z := jB (e := 1) 0 hJ rg_75_1_0_1 (by decide) (by decide); omega
  refine x_getR (np := 4) (x := 705) (f := 1) (q := 76) (by decide +kernel) (by decide) (by decide +kernel) q73 ?_
  refine x_const (np := 7) (x := 9223373112744083706) (a := 2147483898) (by decide +kernel) (by decide) (by decide) ?_
  refine x_const (np := 8) (x := 9223372056182128644) (a := 2147483652) (by decide +kernel) (by decide) (by decide) ?_
  refine x_iload (np := 9) (x := 1) (by decide +kernel) rfl l17 ?_
  refine x_imul (np := 10) (x := 0) (i := 4) (j := u67) (v := (2147483648 + 4 * u67)) (by decide +kernel) (by first | decide | omega) (by first | decide | omega) (by first | decide | omega) (by first | decide | omega) (by decide) l17 ?_
  refine x_iadd (np := 11) (x := 0) (v := (2147483898 + 4 * u67)) (by decide +kernel) (by decide) (by first | decide | omega) (by first | decide | omega) (by first | decide | omega) ?_
  refine x_iload (np := 12) (x := 2) (by decide +kernel) rfl (by decide) ?_
  refine x_iadd (np := 13) (x := 0) (v := (2147483900 + 4 * u67)) (by decide +kernel) (by first | decide | omega) (by decide) (by first | decide | omega) (by first | decide | omega) ?_
  refine x_aldC (np := 14) (x := 0) (n := 1952) (i := (252 + 4 * u67)) (q := ((h 76 (252 + 4 * u67)))) (by decide +kernel) (by decide +kernel) (by first | decide | omega) (by first | decide | omega) (by decide) rfl (fun l75 => ?_)
  refine x_retI (np := 15) (x := 0) (by decide +kernel) l75 (Or.inl (by decide +kernel)) ⟨_, rfl, l75, ?_⟩
  refine x_iload (np := 58) (x := 4) (by decide +kernel) rfl (by first | decide | omega) ?_
  refine x_any (np := 59) (k9 := 4) (by decide +kernel) (by decide) l75 (by first | decide | omega) (fun v76 l77 => ?_)
  refine x_const (np := 60) (x := 9223372043297226753) (a := 2147483649) (by decide +kernel) (by decide) (by decide) ?_
  refine x_mask (np := 61) (m := 1) (k9 := 2) (by decide +kernel) l77 (by decide +kernel) (by decide) (by decide) (by decide) (fun u78 l79 => ?_)
  refine x_const (np := 62) (x := 9223372043297226753) (a := 2147483649) (by decide +kernel) (by decide) (by decide) ?_
  refine x_icmp (k := 1) (tg := 106) (np := 65) (by decide +kernel) (by decide) (by first | decide | omega) (by decide) (fun q80 => ?_) (fun q81 => ?_)
  · have q80 : (2147483648 + u78) ≠ 2147483649 := q80
    refine x_const (np := 107) (x := 9223372039002259456) (a := 2147483648) (by decide +kernel) (by decide) (by decide) ?_
    refine x_retI (np := 108) (x := 0) (by decide +kernel) (by decide) (Or.inr ⟨by decide +kernel, by first | decide | omega, by first | decide | omega⟩) ⟨_, rfl, (by decide), ?_⟩
    exact ⟨rfl, (by first | decide | omega)⟩
  have q81 : ¬ ((2147483648 + u78) ≠ 2147483649) := q81
  refine x_aload (np := 66) (x := 0) (by decide +kernel) rfl (x_nc_le (by decide)) ?_
  refine x_iload (np := 68) (x := 7) (by decide +kernel) rfl l17 ?_
  refine x_const (np := 69) (x := 9223372043297226753) (a := 2147483649) (by decide +kernel) (by decide) (by decide) ?_
  refine x_nI (t := 6) (mj := 164) (n := 3) (rc := 12) (ml := 3) (nr := 0) (np := 72) (as := [x_r 75, iv_c (h 94 3), iv_c 2147483649]) (rest := []) (lo1 := [x_r 75, iv_c (h 94 3), iv_c 2147483649]) (by decide +kernel) (by decide) (by decide +kernel) (x_rb_of (by decide +kernel)) rfl rfl (x_wr (by decide) (x_wi l17 (x_wi (by decide) x_wn))) x_wn (by decide) rfl ?_
  refine x_aload (np := 1) (x := 0) (by decide +kernel) rfl (x_nc_le (by decide)) ?_
  have q82 : h 75 1 = 76 := by have z := jB (e := 1) 0 hJ rg_75_1_0_1 (by decide) (by decide); omega
  refine x_getR (np := 4) (x := 705) (f := 1) (q := 76) (by decide +kernel) (by decide) (by decide +kernel) q82 ?_
  refine x_const (np := 7) (x := 9223373112744083706) (a := 2147483898) (by decide +kernel) (by decide) (by decide) ?_
  refine x_const (np := 8) (x := 9223372056182128644) (a := 2147483652) (by decide +kernel) (by decide) (by decide) ?_
  refine x_iload (np := 9) (x := 1) (by decide +kernel) rfl l17 ?_
  refine x_imul (np := 10) (x := 0) (i := 4) (j := u67) (v := (2147483648 + 4 * u67)) (by decide +kernel) (by first | decide | omega) (by first | decide | omega) (by first | decide | omega) (by first | decide | omega) (by decide) l17 ?_
  refine x_iadd (np := 11) (x := 0) (v := (2147483898 + 4 * u67)) (by decide +kernel) (by decide) (by first | decide | omega) (by first | decide | omega) (by first | decide | omega) ?_
  refine x_iload (np := 12) (x := 2) (by decide +kernel) rfl (by decide) ?_
  refine x_iadd (np := 13) (x := 0) (v := (2147483899 + 4 * u67)) (by decide +kernel) (by first | decide | omega) (by decide) (by first | decide | omega) (by first | decide | omega) ?_
  refine x_aldC (np := 14) (x := 0) (n := 1952) (i := (251 + 4 * u67)) (q := ((h 76 (251 + 4 * u67)))) (by decide +kernel) (by decide +kernel) (by first | decide | omega) (by first | decide | omega) (by decide) rfl (fun l84 => ?_)
  refine x_retI (np := 15) (x := 0) (by decide +kernel) l84 (Or.inl (by decide +kernel)) ⟨_, rfl, l84, ?_⟩
  refine x_iload (np := 74) (x := 5) (by decide +kernel) rfl (by first | decide | omega) ?_
  refine x_iload (np := 76) (x := 6) (by decide +kernel) rfl (by first | decide | omega) ?_
  refine x_nI (t := 0) (mj := 153) (n := 3) (rc := 0) (ml := 3) (nr := 0) (np := 79) (as := [iv_c ((h 76 (251 + 4 * u67))), iv_c (2147483648 + u12), iv_c (2147483648 + u14)]) (rest := []) (lo1 := [iv_c ((h 76 (251 + 4 * u67))), iv_c (2147483648 + u12), iv_c (2147483648 + u14)]) (by decide +kernel) (by decide) (by decide +kernel) (Or.inl rfl) rfl rfl (x_wi l84 (x_wi (by first | decide | omega) (x_wi (by first | decide | omega) x_wn))) x_wn (by decide) rfl ?_
  refine x_iload (np := 1) (x := 0) (by decide +kernel) rfl l84 ?_
  refine x_iload (np := 2) (x := 1) (by decide +kernel) rfl (by first | decide | omega) ?_
  refine x_icmp (k := 2) (tg := 14) (np := 5) (by decide +kernel) (by decide) l84 (by first | decide | omega) (fun q85 => ?_) (fun q86 => ?_)
  · have q85 : ((h 76 (251 + 4 * u67))) < (2147483648 + u12) := q85
    refine x_const (np := 15) (x := 9223372039002259456) (a := 2147483648) (by decide +kernel) (by decide) (by decide) ?_
    refine x_retI (np := 16) (x := 0) (by decide +kernel) (by decide) (Or.inr ⟨by decide +kernel, by first | decide | omega, by first | decide | omega⟩) ⟨_, rfl, (by decide), ?_⟩
    refine x_ifz (k := 0) (tg := 106) (np := 82) (by decide +kernel) (by decide) (by decide) (fun q87 => ?_) (fun q88 => ?_)
    · have q87 : 2147483648 = 2147483648 := q87
      refine x_const (np := 107) (x := 9223372039002259456) (a := 2147483648) (by decide +kernel) (by decide) (by decide) ?_
      refine x_retI (np := 108) (x := 0) (by decide +kernel) (by decide) (Or.inr ⟨by decide +kernel, by first | decide | omega, by first | decide | omega⟩) ⟨_, rfl, (by decide), ?_⟩
      exact ⟨rfl, (by first | decide | omega)⟩
    have q88 : ¬ (2147483648 = 2147483648) := q88
    exfalso; omega
  have q86 : ¬ (((h 76 (251 + 4 * u67))) < (2147483648 + u12)) := q86
  refine x_iload (np := 6) (x := 0) (by decide +kernel) rfl l84 ?_
  refine x_iload (np := 7) (x := 2) (by decide +kernel) rfl (by first | decide | omega) ?_
  refine x_icmp (k := 4) (tg := 14) (np := 10) (by decide +kernel) (by decide) l84 (by first | decide | omega) (fun q89 => ?_) (fun q90 => ?_)
  · have q89 : (2147483648 + u14) < ((h 76 (251 + 4 * u67))) := q89
    refine x_const (np := 15) (x := 9223372039002259456) (a := 2147483648) (by decide +kernel) (by decide) (by decide) ?_
    refine x_retI (np := 16) (x := 0) (by decide +kernel) (by decide) (Or.inr ⟨by decide +kernel, by first | decide | omega, by first | decide | omega⟩) ⟨_, rfl, (by decide), ?_⟩
    refine x_ifz (k := 0) (tg := 106) (np := 82) (by decide +kernel) (by decide) (by decide) (fun q91 => ?_) (fun q92 => ?_)
    · have q91 : 2147483648 = 2147483648 := q91
      refine x_const (np := 107) (x := 9223372039002259456) (a := 2147483648) (by decide +kernel) (by decide) (by decide) ?_
      refine x_retI (np := 108) (x := 0) (by decide +kernel) (by decide) (Or.inr ⟨by decide +kernel, by first | decide | omega, by first | decide | omega⟩) ⟨_, rfl, (by decide), ?_⟩
      exact ⟨rfl, (by first | decide | omega)⟩
    have q92 : ¬ (2147483648 = 2147483648) := q92
    exfalso; omega
  have q90 : ¬ ((2147483648 + u14) < ((h 76 (251 + 4 * u67)))) := q90
  refine x_const (np := 11) (x := 9223372043297226753) (a := 2147483649) (by decide +kernel) (by decide) (by decide) ?_
  refine x_goto (np := 14) (x := 15) (by decide +kernel) ?_
  refine x_retI (np := 16) (x := 0) (by decide +kernel) (by decide) (Or.inr ⟨by decide +kernel, by first | decide | omega, by first | decide | omega⟩) ⟨_, rfl, (by decide), ?_⟩
  refine x_ifz (k := 0) (tg := 106) (np := 82) (by decide +kernel) (by decide) (by decide) (fun q93 => ?_) (fun q94 => ?_)
  · have q93 : 2147483649 = 2147483648 := q93
    exfalso; omega
  have q94 : ¬ (2147483649 = 2147483648) := q94
  refine x_aload (np := 83) (x := 0) (by decide +kernel) rfl (x_nc_le (by decide)) ?_
  refine x_iload (np := 84) (x := 3) (by decide +kernel) rfl (by first | decide | omega) ?_
  refine x_iload (np := 86) (x := 5) (by decide +kernel) rfl (by first | decide | omega) ?_
  refine x_cP (t := 6) (mj := 255) (n := 3) (rc := 12) (ml := 5) (nr := 0) (np := 89) (as := [x_r 75, iv_c (2147483648 + u4), iv_c (2147483648 + u12)]) (rest := []) (lo1 := [x_r 75, iv_c (2147483648 + u4), iv_c (2147483648 + u12), 147573952589676412928, 147573952589676412928]) (by decide +kernel) (by decide) (by decide +kernel) (x_rb_of (by decide +kernel)) rfl rfl (x_wr (by decide) (x_wi (by first | decide | omega) (x_wi (by first | decide | omega) x_wn))) x_wn (by decide) rfl (c255_75 hJ  (by first | decide | omega) (by first | decide | omega)) (fun v95 l96 q97 => ?_)
  refine x_ifz (k := 0) (tg := 106) (np := 92) (by decide +kernel) (by decide) l96 (fun q98 => ?_) (fun q99 => ?_)
  · have q98 : v95 = 2147483648 := q98
    refine x_const (np := 107) (x := 9223372039002259456) (a := 2147483648) (by decide +kernel) (by decide) (by decide) ?_
    refine x_retI (np := 108) (x := 0) (by decide +kernel) (by decide) (Or.inr ⟨by decide +kernel, by first | decide | omega, by first | decide | omega⟩) ⟨_, rfl, (by decide), ?_⟩
    exact ⟨rfl, (by first | decide | omega)⟩
  have q99 : ¬ (v95 = 2147483648) := q99
  refine x_aload (np := 93) (x := 0) (by decide +kernel) rfl (x_nc_le (by decide)) ?_
  refine x_iload (np := 94) (x := 3) (by decide +kernel) rfl (by first | decide | omega) ?_
  refine x_iload (np := 96) (x := 6) (by decide +kernel) rfl (by first | decide | omega) ?_
  refine x_cP (t := 6) (mj := 255) (n := 3) (rc := 12) (ml := 5) (nr := 0) (np := 99) (as := [x_r 75, iv_c (2147483648 + u4), iv_c (2147483648 + u14)]) (rest := []) (lo1 := [x_r 75, iv_c (2147483648 + u4), iv_c (2147483648 + u14), 147573952589676412928, 147573952589676412928]) (by decide +kernel) (by decide) (by decide +kernel) (x_rb_of (by decide +kernel)) rfl rfl (x_wr (by decide) (x_wi (by first | decide | omega) (x_wi (by first | decide | omega) x_wn))) x_wn (by decide) rfl (c255_75 hJ  (by first | decide | omega) (by first | decide | omega)) (fun v100 l101 q102 => ?_)
  refine x_ifz (k := 0) (tg := 106) (np := 102) (by decide +kernel) (by decide) l101 (fun q103 => ?_) (fun q104 => ?_)
  · have q103 : v100 = 2147483648 := q103
    refine x_const (np := 107) (x := 9223372039002259456) (a := 2147483648) (by decide +kernel) (by decide) (by decide) ?_
    refine x_retI (np := 108) (x := 0) (by decide +kernel) (by decide) (Or.inr ⟨by decide +kernel, by first | decide | omega, by first | decide | omega⟩) ⟨_, rfl, (by decide), ?_⟩
    exact ⟨rfl, (by first | decide | omega)⟩
  have q104 : ¬ (v100 = 2147483648) := q104
  refine x_const (np := 103) (x := 9223372043297226753) (a := 2147483649) (by decide +kernel) (by decide) (by decide) ?_
  refine x_goto (np := 106) (x := 107) (by decide +kernel) ?_
  refine x_retI (np := 108) (x := 0) (by decide +kernel) (by decide) (Or.inr ⟨by decide +kernel, by first | decide | omega, by first | decide | omega⟩) ⟨_, rfl, (by decide), ?_⟩
  exact ⟨rfl, (by first | decide | omega)⟩
set_option maxHeartbeats 0 in
/-- LentNamesModel.nextOf(I)I -/
theorem c257_75_c3 {sc : Nat × Nat} {d  : Nat} {h : xh} (hJ : J h) (hr0 : 2147483648 ≤ (h 94 3)) : X sc 257 (d + 4) (xI fun r h' => h' = h ∧ (2147483647 ≤ r ∧ r ≤ 2147488831)) 0 0 0 [x_r 75, iv_c 2147483651, 147573952589676412928] [] h := by
  have b1 := jB (e := 3) 3 hJ rg_94_0_1_6 (by first | decide | omega) (by first | decide | omega)
  refine x_aload (np := 1) (x := 0) (by decide +kernel) rfl (x_nc_le (by decide)) ?_
  have q2 : h 75 27 = 93 := by have z := jB (e := 27) 0 hJ rg_75_27_0_1 (by decide) (by decide); omega
  refine x_getR (np := 4) (x := 731) (f := 27) (q := 93) (by decide +kernel) (by decide) (by decide +kernel) q2 ?_
  refine x_iload (np := 5) (x := 1) (by decide +kernel) rfl (by decide) ?_
  have b3 := jB (e := 3) 3 hJ rg_93_0_1_6 (by first | decide | omega) (by first | decide | omega)
  refine x_aldC (np := 6) (x := 0) (n := 6) (i := 3) (q := (h 93 3)) (by decide +kernel) (by decide +kernel) (by first | decide | omega) (by first | decide | omega) (by decide) rfl (fun l4 => ?_)
  refine x_const (np := 7) (x := 9223372043297226753) (a := 2147483649) (by decide +kernel) (by decide) (by decide) ?_
  refine x_iadd (np := 8) (x := 0) (v := (1 + (h 93 3))) (by decide +kernel) l4 (by decide) (by first | decide | omega) (by first | decide | omega) ?_
  refine x_istore (np := 9) (x := 2) (lo' := [x_r 75, iv_c 2147483651, iv_c (1 + (h 93 3))]) (by decide +kernel) (by first | decide | omega) (Nat.le_of_ble_eq_true rfl) rfl ?_
  have p21 : ∀ (n : Nat) (v19 : Nat), 4294967296 - v19 < n → (2147483648 ≤ v19 ∧ v19 ≤ 2147488832) → X sc 257 (d + 4) (xI fun r h' => h' = h ∧ (2147483647 ≤ r ∧ r ≤ 2147488831)) 0 0 9 [x_r 75, iv_c 2147483651, iv_c v19] [] h := by
    intro n
    induction n with
    | zero => intro v19 q22; exact absurd q22 (Nat.not_lt_zero _)
    | succ n i23 =>
      intro v19 q22 b20
      refine x_iload (np := 10) (x := 2) (by decide +kernel) rfl (by first | decide | omega) ?_
      refine x_const (np := 13) (x := 9223394304112727104) (a := 2147488832) (by decide +kernel) (by decide) (by decide) ?_
      refine x_icmp (k := 3) (tg := 39) (np := 16) (by decide +kernel) (by decide) (by first | decide | omega) (by decide) (fun q24 => ?_) (fun q25 => ?_)
      · have q24 : 2147488832 ≤ v19 := q24
        refine x_iload (np := 40) (x := 2) (by decide +kernel) rfl (by first | decide | omega) ?_
        refine x_const (np := 43) (x := 9223394304112727104) (a := 2147488832) (by decide +kernel) (by decide) (by decide) ?_
        refine x_icmp (k := 3) (tg := 50) (np := 46) (by decide +kernel) (by decide) (by first | decide | omega) (by decide) (fun q26 => ?_) (fun q27 => ?_)
        · have q26 : 2147488832 ≤ v19 := q26
          refine x_const (np := 51) (x := 9223372034707292159) (a := 2147483647) (by decide +kernel) (by decide) (by decide) ?_
          refine x_retI (np := 52) (x := 0) (by decide +kernel) (by decide) (Or.inl (by decide +kernel)) ⟨_, rfl, (by decide), ?_⟩
          exact ⟨rfl, (by first | decide | omega)⟩
        have q27 : ¬ (2147488832 ≤ v19) := q27
        exfalso; omega
      have q25 : ¬ (2147488832 ≤ v19) := q25
      refine x_aload (np := 17) (x := 0) (by decide +kernel) rfl (x_nc_le (by decide)) ?_
      refine x_iload (np := 18) (x := 1) (by decide +kernel) rfl (by decide) ?_
      refine x_iload (np := 19) (x := 2) (by decide +kernel) rfl (by first | decide | omega) ?_
      refine x_cP (t := 6) (mj := 256) (n := 3) (rc := 12) (ml := 8) (nr := 0) (np := 22) (as := [x_r 75, iv_c 2147483651, iv_c v19]) (rest := []) (lo1 := [x_r 75, iv_c 2147483651, iv_c v19, 147573952589676412928, 147573952589676412928, 147573952589676412928, 147573952589676412928, 147573952589676412928]) (by decide +kernel) (by decide) (by decide +kernel) (x_rb_of (by decide +kernel)) rfl rfl (x_wr (by decide) (x_wi (by decide) (x_wi (by first | decide | omega) x_wn))) x_wn (by decide) rfl (c256_75_c3 hJ   (by first | decide | omega) (by first | decide | omega)) (fun v28 l29 q30 => ?_)
      refine x_ifz (k := 0) (tg := 33) (np := 25) (by decide +kernel) (by decide) l29 (fun q31 => ?_) (fun q32 => ?_)
      · have q31 : v28 = 2147483648 := q31
        refine x_iinc (np := 36) (i := 2) (j := 2147483649) (v := (1 + v19)) (lo' := [x_r 75, iv_c 2147483651, iv_c (1 + v19)]) (by decide +kernel) (by decide) (by decide) rfl (by first | decide | omega) (by first | decide | omega) (by first | decide | omega) rfl ?_
        refine x_goto (np := 39) (x := 9) (by decide +kernel) ?_
        exact i23 (1 + v19) (by first | decide | omega) (by first | decide | omega)
      have q32 : ¬ (v28 = 2147483648) := q32
      refine x_aload (np := 26) (x := 0) (by decide +kernel) rfl (x_nc_le (by decide)) ?_
      refine x_iload (np := 27) (x := 2) (by decide +kernel) rfl (by first | decide | omega) ?_
      refine x_cP (t := 6) (mj := 247) (n := 2) (rc := 12) (ml := 6) (nr := 0) (np := 30) (as := [x_r 75, iv_c v19]) (rest := []) (lo1 := [x_r 75, iv_c v19, 147573952589676412928, 147573952589676412928, 147573952589676412928, 147573952589676412928]) (by decide +kernel) (by decide) (by decide +kernel) (x_rb_of (by decide +kernel)) rfl rfl (x_wr (by decide) (x_wi (by first | decide | omega) x_wn)) x_wn (by decide) rfl (c247_75 hJ  (by first | decide | omega)) (fun v33 l34 q35 => ?_)
      refine x_ifz (k := 1) (tg := 39) (np := 33) (by decide +kernel) (by decide) l34 (fun q36 => ?_) (fun q37 => ?_)
      · have q36 : v33 ≠ 2147483648 := q36
        refine x_iload (np := 40) (x := 2) (by decide +kernel) rfl (by first | decide | omega) ?_
        refine x_const (np := 43) (x := 9223394304112727104) (a := 2147488832) (by decide +kernel) (by decide) (by decide) ?_
        refine x_icmp (k := 3) (tg := 50) (np := 46) (by decide +kernel) (by decide) (by first | decide | omega) (by decide) (fun q38 => ?_) (fun q39 => ?_)
        · have q38 : 2147488832 ≤ v19 := q38
          exfalso; omega
        have q39 : ¬ (2147488832 ≤ v19) := q39
        refine x_iload (np := 47) (x := 2) (by decide +kernel) rfl (by first | decide | omega) ?_
        refine x_goto (np := 50) (x := 51) (by decide +kernel) ?_
        refine x_retI (np := 52) (x := 0) (by decide +kernel) (by first | decide | omega) (Or.inl (by decide +kernel)) ⟨_, rfl, (by first | decide | omega), ?_⟩
        exact ⟨rfl, (by first | decide | omega)⟩
      have q37 : ¬ (v33 ≠ 2147483648) := q37
      refine x_iinc (np := 36) (i := 2) (j := 2147483649) (v := (1 + v19)) (lo' := [x_r 75, iv_c 2147483651, iv_c (1 + v19)]) (by decide +kernel) (by decide) (by decide) rfl (by first | decide | omega) (by first | decide | omega) (by first | decide | omega) rfl ?_
      refine x_goto (np := 39) (x := 9) (by decide +kernel) ?_
      exact i23 (1 + v19) (by first | decide | omega) (by first | decide | omega)
  exact p21 _ (1 + (h 93 3)) (Nat.lt_succ_self _) (by first | decide | omega)
set_option maxHeartbeats 0 in
/-- LentNamesModel.goes(I)Z -/
theorem c259_75_c4 {sc : Nat × Nat} {d  : Nat} {h : xh} (hJ : J h) (hr0 : (h 75 30) ≤ 2147503648) : X sc 259 (d + 5) (xI fun r h' => J h' ∧ Fr 39376260300801 h h' ∧ (2147483648 ≤ r ∧ r ≤ 2147483649) ∧ (r = 2147483649 → h' 75 30 ≤ 2147503648)) 0 0 0 [x_r 75, iv_c 2147483652, 147573952589676412928, 147573952589676412928, 147573952589676412928, 147573952589676412928] [] h := by
  have hF := Fr.refl 39376260300801 h
  have b1 := jB (e := 30) 0 hJ rg_75_30_0_1 (by first | decide | omega) (by first | decide | omega)
  refine x_aload (np := 1) (x := 0) (by decide +kernel) rfl (x_nc_le (by decide)) ?_
  refine x_const (np := 2) (x := 9223372039002259456) (a := 2147483648) (by decide +kernel) (by decide) (by decide) ?_
  refine x_putI (np := 5) (x := 738) (f := 34) (by decide +kernel) (by decide +kernel) (by decide) (Or.inl (by decide)) ?_
  have j3 := jU (e := 34) (v := 2147483648) 0 hJ rg_75_34_0_1 (by first | decide | omega) (by first | decide | omega) (by first | decide | omega)
  have f5 := jF (e := 34) (v := 2147483648) 0 hF rg_75_34_0_1 (by first | decide | omega) (by first | decide | omega) (by decide)
  generalize e4 : x_up h 75 34 2147483648 = h2 at j3 f5 ⊢
  refine x_const (np := 6) (x := 9223372039002259456) (a := 2147483648) (by decide +kernel) (by decide) (by decide) ?_
  refine x_istore (np := 7) (x := 2) (lo' := [x_r 75, iv_c 2147483652, iv_c 2147483648, 147573952589676412928, 147573952589676412928, 147573952589676412928]) (by decide +kernel) (by decide) (Nat.le_of_ble_eq_true rfl) rfl ?_
  refine x_const (np := 8) (x := 9223372039002259456) (a := 2147483648) (by decide +kernel) (by decide) (by decide) ?_
  refine x_istore (np := 9) (x := 3) (lo' := [x_r 75, iv_c 2147483652, iv_c 2147483648, iv_c 2147483648, 147573952589676412928, 147573952589676412928]) (by decide +kernel) (by decide) (Nat.le_of_ble_eq_true rfl) rfl ?_
  refine x_const (np := 10) (x := 9223372043297226753) (a := 2147483649) (by decide +kernel) (by decide) (by decide) ?_
  refine x_istore (np := 12) (x := 4) (lo' := [x_r 75, iv_c 2147483652, iv_c 2147483648, iv_c 2147483648, iv_c 2147483649, 147573952589676412928]) (by decide +kernel) (by decide) (Nat.le_of_ble_eq_true rfl) rfl ?_
  have p3185 : ∀ (n : Nat), (∀ (w3187 : Nat) (w3188 : Nat) (h3189 : xh), 16 * (4294967296 - h3189 75 30) + 1 < n → J h3189 → Fr 39376260300801 h2 h3189 → (2147483648 ≤ h3189 75 30 ∧ h3189 75 30 ≤ 2147503648) → X sc 259 (d + 5) (xI fun r h' => J h' ∧ Fr 39376260300801 h h' ∧ (2147483648 ≤ r ∧ r ≤ 2147483649) ∧ (r = 2147483649 → h' 75 30 ≤ 2147503648)) 0 0 12 [x_r 75, iv_c 2147483652, iv_c 2147483648, w3187, iv_c 2147483649, w3188] [] h3189) ∧ (∀ (w3193 : Nat) (w3194 : Nat) (h3195 : xh), 16 * (4294967296 - h3195 75 30) + 2 < n → J h3195 → Fr 39376260300801 h2 h3195 → (2147483648 ≤ h3195 75 30 ∧ h3195 75 30 ≤ 2147503648) → X sc 259 (d + 5) (xI fun r h' => J h' ∧ Fr 39376260300801 h h' ∧ (2147483648 ≤ r ∧ r ≤ 2147483649) ∧ (r = 2147483649 → h' 75 30 ≤ 2147503648)) 0 0 12 [x_r 75, iv_c 2147483652, iv_c 2147483649, w3193, iv_c 2147483649, w3194] [] h3195) ∧ (∀ (w3199 : Nat) (w3200 : Nat) (h3201 : xh), 16 * (4294967296 - h3201 75 30) + 3 < n → J h3201 → Fr 39376260300801 h2 h3201 → (2147483648 ≤ h3201 75 30 ∧ h3201 75 30 ≤ 2147503648) → X sc 259 (d + 5) (xI fun r h' => J h' ∧ Fr 39376260300801 h h' ∧ (2147483648 ≤ r ∧ r ≤ 2147483649) ∧ (r = 2147483649 → h' 75 30 ≤ 2147503648)) 0 0 12 [x_r 75, iv_c 2147483652, iv_c 2147483650, w3199, iv_c 2147483649, w3200] [] h3201) ∧ (∀ (w3205 : Nat) (w3206 : Nat) (h3207 : xh), 16 * (4294967296 - h3207 75 30) + 4 < n → J h3207 → Fr 39376260300801 h2 h3207 → (2147483648 ≤ h3207 75 30 ∧ h3207 75 30 ≤ 2147503648) → X sc 259 (d + 5) (xI fun r h' => J h' ∧ Fr 39376260300801 h h' ∧ (2147483648 ≤ r ∧ r ≤ 2147483649) ∧ (r = 2147483649 → h' 75 30 ≤ 2147503648)) 0 0 12 [x_r 75, iv_c 2147483652, iv_c 2147483651, w3205, iv_c 2147483649, w3206] [] h3207) ∧ (∀ (w3211 : Nat) (w3212 : Nat) (h3213 : xh), 16 * (4294967296 - h3213 75 30) + 5 < n → J h3213 → Fr 39376260300801 h2 h3213 → (2147483648 ≤ h3213 75 30 ∧ h3213 75 30 ≤ 2147503648) → X sc 259 (d + 5) (xI fun r h' => J h' ∧ Fr 39376260300801 h h' ∧ (2147483648 ≤ r ∧ r ≤ 2147483649) ∧ (r = 2147483649 → h' 75 30 ≤ 2147503648)) 0 0 12 [x_r 75, iv_c 2147483652, iv_c 2147483652, w3211, iv_c 2147483649, w3212] [] h3213) ∧ (∀ (w3217 : Nat) (w3218 : Nat) (h3219 : xh), 16 * (4294967296 - h3219 75 30) + 4 < n → J h3219 → Fr 39376260300801 h2 h3219 → (2147483648 ≤ h3219 75 30 ∧ h3219 75 30 ≤ 2147503648) → X sc 259 (d + 5) (xI fun r h' => J h' ∧ Fr 39376260300801 h h' ∧ (2147483648 ≤ r ∧ r ≤ 2147483649) ∧ (r = 2147483649 → h' 75 30 ≤ 2147503648)) 0 0 12 [x_r 75, iv_c 2147483652, iv_c 2147483647, w3217, iv_c 2147483648, w3218] [] h3219) ∧ (∀ (w3223 : Nat) (w3224 : Nat) (h3225 : xh), 16 * (4294967296 - h3225 75 30) + 5 < n → J h3225 → Fr 39376260300801 h2 h3225 → (2147483648 ≤ h3225 75 30 ∧ h3225 75 30 ≤ 2147503648) → X sc 259 (d + 5) (xI fun r h' => J h' ∧ Fr 39376260300801 h h' ∧ (2147483648 ≤ r ∧ r ≤ 2147483649) ∧ (r = 2147483649 → h' 75 30 ≤ 2147503648)) 0 0 12 [x_r 75, iv_c 2147483652, iv_c 2147483648, w3223, iv_c 2147483648, w3224] [] h3225) ∧ (∀ (w3229 : Nat) (w3230 : Nat) (h3231 : xh), 16 * (4294967296 - h3231 75 30) + 6 < n → J h3231 → Fr 39376260300801 h2 h3231 → (2147483648 ≤ h3231 75 30 ∧ h3231 75 30 ≤ 2147503648) → X sc 259 (d + 5) (xI fun r h' => J h' ∧ Fr 39376260300801 h h' ∧ (2147483648 ≤ r ∧ r ≤ 2147483649) ∧ (r = 2147483649 → h' 75 30 ≤ 2147503648)) 0 0 12 [x_r 75, iv_c 2147483652, iv_c 2147483649, w3229, iv_c 2147483648, w3230] [] h3231) ∧ (∀ (w3235 : Nat) (w3236 : Nat) (h3237 : xh), 16 * (4294967296 - h3237 75 30) + 7 < n → J h3237 → Fr 39376260300801 h2 h3237 → (2147483648 ≤ h3237 75 30 ∧ h3237 75 30 ≤ 2147503648) → X sc 259 (d + 5) (xI fun r h' => J h' ∧ Fr 39376260300801 h h' ∧ (2147483648 ≤ r ∧ r ≤ 2147483649) ∧ (r = 2147483649 → h' 75 30 ≤ 2147503648)) 0 0 12 [x_r 75, iv_c 2147483652, iv_c 2147483650, w3235, iv_c 2147483648, w3236] [] h3237) ∧ (∀ (w3241 : Nat) (w3242 : Nat) (h3243 : xh), 16 * (4294967296 - h3243 75 30) + 8 < n → J h3243 → Fr 39376260300801 h2 h3243 → (2147483648 ≤ h3243 75 30 ∧ h3243 75 30 ≤ 2147503648) → X sc 259 (d + 5) (xI fun r h' => J h' ∧ Fr 39376260300801 h h' ∧ (2147483648 ≤ r ∧ r ≤ 2147483649) ∧ (r = 2147483649 → h' 75 30 ≤ 2147503648)) 0 0 12 [x_r 75, iv_c 2147483652, iv_c 2147483651, w3241, iv_c 2147483648, w3242] [] h3243) := by
    intro n
    induction n with
    | zero => exact ⟨fun _ _ _ z => absurd z (Nat.not_lt_zero _), fun _ _ _ z => absurd z (Nat.not_lt_zero _), fun _ _ _ z => absurd z (Nat.not_lt_zero _), fun _ _ _ z => absurd z (Nat.not_lt_zero _), fun _ _ _ z => absurd z (Nat.not_lt_zero _), fun _ _ _ z => absurd z (Nat.not_lt_zero _), fun _ _ _ z => absurd z (Nat.not_lt_zero _), fun _ _ _ z => absurd z (Nat.not_lt_zero _), fun _ _ _ z => absurd z (Nat.not_lt_zero _), fun _ _ _ z => absurd z (Nat.not_lt_zero _)⟩
    | succ n i3186 =>
      obtain ⟨i3247, i3248, i3249, i3250, i3251, i3252, i3253, i3254, i3255, i3256⟩ := i3186
      refine ⟨?_, ?_, ?_, ?_, ?_, ?_, ?_, ?_, ?_, ?_⟩
      · intro w3187 w3188 h3189 q3257 j3192 f3191 b3190
        have f3258 := Fr.trans f5 f3191 (by decide)
        refine x_iload (np := 13) (x := 2) (by decide +kernel) rfl (by decide) ?_
        refine x_ifz (k := 2) (tg := 186) (np := 16) (by decide +kernel) (by decide) (by decide) (fun q3259 => ?_) (fun q3260 => ?_)
        · have q3259 : 2147483648 < 2147483648 := q3259
          exfalso; omega
        have q3260 : ¬ (2147483648 < 2147483648) := q3260
        refine x_iload (np := 18) (x := 4) (by decide +kernel) rfl (by decide) ?_
        refine x_ifz (k := 0) (tg := 102) (np := 21) (by decide +kernel) (by decide) (by decide) (fun q3261 => ?_) (fun q3262 => ?_)
        · have q3261 : 2147483649 = 2147483648 := q3261
          exfalso; omega
        have q3262 : ¬ (2147483649 = 2147483648) := q3262
        refine x_aload (np := 22) (x := 0) (by decide +kernel) rfl (x_nc_le (by decide)) ?_
        refine x_dup (np := 23) (x := 0) (by decide +kernel) (by have z := x_nc_le (k := 75) (by decide); unfold x_r; omega) ?_
        refine x_getC (np := 26) (x := 734) (f := 30) (q := (h3189 75 30)) (by decide +kernel) (by decide) (by decide +kernel) rfl (fun l3263 => ?_)
        refine x_const (np := 27) (x := 9223372043297226753) (a := 2147483649) (by decide +kernel) (by decide) (by decide) ?_
        refine x_iadd (np := 28) (x := 0) (v := (1 + (h3189 75 30))) (by decide +kernel) l3263 (by decide) (by first | decide | omega) (by first | decide | omega) ?_
        refine x_putI (np := 31) (x := 734) (f := 30) (by decide +kernel) (by decide +kernel) (by first | decide | omega) (Or.inl (by decide)) ?_
        have j3265 := jU (e := 30) (v := (1 + (h3189 75 30))) 0 j3192 rg_75_30_0_1 (by first | decide | omega) (by first | decide | omega) (by first | decide | omega)
        have f3267 := jF (e := 30) (v := (1 + (h3189 75 30))) 0 f3258 rg_75_30_0_1 (by first | decide | omega) (by first | decide | omega) (by decide)
        have f3268 := jF (e := 30) (v := (1 + (h3189 75 30))) 0 f3191 rg_75_30_0_1 (by first | decide | omega) (by first | decide | omega) (by decide)
        generalize e3266 : x_up h3189 75 30 (1 + (h3189 75 30)) = h3264 at j3265 f3267 f3268 ⊢
        refine x_aload (np := 32) (x := 0) (by decide +kernel) rfl (x_nc_le (by decide)) ?_
        have q3269 : h3264 75 30 = (1 + (h3189 75 30)) := by rw [← e3266]; exact x_up_at
        refine x_getC (np := 35) (x := 734) (f := 30) (q := (1 + (h3189 75 30))) (by decide +kernel) (by decide) (by decide +kernel) q3269 (fun l3270 => ?_)
        refine x_const (np := 38) (x := 9223457938348199456) (a := 2147503648) (by decide +kernel) (by decide) (by decide) ?_
        refine x_icmp (k := 5) (tg := 43) (np := 41) (by decide +kernel) (by decide) (by first | decide | omega) (by decide) (fun q3271 => ?_) (fun q3272 => ?_)
        · have q3271 : (1 + (h3189 75 30)) ≤ 2147503648 := q3271
          refine x_aload (np := 44) (x := 0) (by decide +kernel) rfl (x_nc_le (by decide)) ?_
          refine x_iload (np := 45) (x := 2) (by decide +kernel) rfl (by decide) ?_
          refine x_cI (t := 6) (mj := 254) (n := 2) (rc := 12) (ml := 4) (nr := 0) (np := 48) (as := [x_r 75, iv_c 2147483648]) (rest := []) (lo1 := [x_r 75, iv_c 2147483648, 147573952589676412928, 147573952589676412928]) (by decide +kernel) (by decide) (by decide +kernel) (x_rb_of (by decide +kernel)) rfl rfl (x_wr (by decide) (x_wi (by decide) x_wn)) x_wn (by decide) rfl (c254_75 j3265  (by first | decide | omega)) (fun v3273 h3276 l3274 q3275 => ?_)
          obtain ⟨j3277, f3278, b3279⟩ := q3275
          have f3280 := Fr.trans f3267 f3278 (by decide)
          have f3281 := Fr.trans f3268 f3278 (by decide)
          refine x_istore (np := 49) (x := 3) (lo' := [x_r 75, iv_c 2147483652, iv_c 2147483648, iv_c v3273, iv_c 2147483649, w3188]) (by decide +kernel) l3274 (Nat.le_of_ble_eq_true rfl) rfl ?_
          refine x_iload (np := 50) (x := 3) (by decide +kernel) rfl l3274 ?_
          refine x_const (np := 51) (x := 9223372043297226753) (a := 2147483649) (by decide +kernel) (by decide) (by decide) ?_
          refine x_icmp (k := 1) (tg := 85) (np := 54) (by decide +kernel) (by decide) l3274 (by decide) (fun q3282 => ?_) (fun q3283 => ?_)
          · have q3282 : v3273 ≠ 2147483649 := q3282
            refine x_iload (np := 86) (x := 3) (by decide +kernel) rfl l3274 ?_
            refine x_const (np := 87) (x := 9223372043297226753) (a := 2147483649) (by decide +kernel) (by decide) (by decide) ?_
            refine x_icmp (k := 0) (tg := 95) (np := 90) (by decide +kernel) (by decide) l3274 (by decide) (fun q3284 => ?_) (fun q3285 => ?_)
            · have q3284 : v3273 = 2147483649 := q3284
              exfalso; omega
            have q3285 : ¬ (v3273 = 2147483649) := q3285
            refine x_iload (np := 91) (x := 2) (by decide +kernel) rfl (by decide) ?_
            refine x_iload (np := 92) (x := 1) (by decide +kernel) rfl (by decide) ?_
            refine x_icmp (k := 1) (tg := 102) (np := 95) (by decide +kernel) (by decide) (by decide) (by decide) (fun q3286 => ?_) (fun q3287 => ?_)
            · have q3286 : 2147483648 ≠ 2147483652 := q3286
              refine x_aload (np := 103) (x := 0) (by decide +kernel) rfl (x_nc_le (by decide)) ?_
              have q3288 : h3276 75 27 = 93 := by have z := jB (e := 27) 0 j3277 rg_75_27_0_1 (by decide) (by decide); omega
              refine x_getR (np := 106) (x := 731) (f := 27) (q := 93) (by decide +kernel) (by decide) (by decide +kernel) q3288 ?_
              refine x_iload (np := 107) (x := 2) (by decide +kernel) rfl (by decide) ?_
              have b3289 := jB (e := 0) 0 j3277 rg_93_0_1_6 (by first | decide | omega) (by first | decide | omega)
              refine x_aldC (np := 108) (x := 0) (n := 6) (i := 0) (q := (h3276 93 0)) (by decide +kernel) (by decide +kernel) (by first | decide | omega) (by first | decide | omega) (by decide) rfl (fun l3290 => ?_)
              refine x_ifz (k := 2) (tg := 122) (np := 111) (by decide +kernel) (by decide) l3290 (fun q3291 => ?_) (fun q3292 => ?_)
              · have q3291 : (h3276 93 0) < 2147483648 := q3291
                refine x_aload (np := 123) (x := 0) (by decide +kernel) rfl (x_nc_le (by decide)) ?_
                have q3293 : h3276 75 28 = 94 := by have z := jB (e := 28) 0 j3277 rg_75_28_0_1 (by decide) (by decide); omega
                refine x_getR (np := 126) (x := 732) (f := 28) (q := 94) (by decide +kernel) (by decide) (by decide +kernel) q3293 ?_
                refine x_iload (np := 127) (x := 2) (by decide +kernel) rfl (by decide) ?_
                have b3294 := jB (e := 0) 0 j3277 rg_94_0_1_6 (by first | decide | omega) (by first | decide | omega)
                refine x_aldC (np := 128) (x := 0) (n := 6) (i := 0) (q := (h3276 94 0)) (by decide +kernel) (by decide +kernel) (by first | decide | omega) (by first | decide | omega) (by decide) rfl (fun l3295 => ?_)
                refine x_ifz (k := 3) (tg := 135) (np := 131) (by decide +kernel) (by decide) l3295 (fun q3296 => ?_) (fun q3297 => ?_)
                · have q3296 : 2147483648 ≤ (h3276 94 0) := q3296
                  refine x_aload (np := 136) (x := 0) (by decide +kernel) rfl (x_nc_le (by decide)) ?_
                  refine x_iload (np := 137) (x := 2) (by decide +kernel) rfl (by decide) ?_
                  refine x_cP (t := 6) (mj := 257) (n := 2) (rc := 12) (ml := 3) (nr := 0) (np := 140) (as := [x_r 75, iv_c 2147483648]) (rest := []) (lo1 := [x_r 75, iv_c 2147483648, 147573952589676412928]) (by decide +kernel) (by decide) (by decide +kernel) (x_rb_of (by decide +kernel)) rfl rfl (x_wr (by decide) (x_wi (by decide) x_wn)) x_wn (by decide) rfl (c257_75_c0 j3277   (by first | decide | omega)) (fun v3298 l3299 q3300 => ?_)
                  refine x_istore (np := 142) (x := 5) (lo' := [x_r 75, iv_c 2147483652, iv_c 2147483648, iv_c v3273, iv_c 2147483649, iv_c v3298]) (by decide +kernel) l3299 (Nat.le_of_ble_eq_true rfl) rfl ?_
                  refine x_iload (np := 144) (x := 5) (by decide +kernel) rfl l3299 ?_
                  refine x_ifz (k := 2) (tg := 151) (np := 147) (by decide +kernel) (by decide) l3299 (fun q3301 => ?_) (fun q3302 => ?_)
                  · have q3301 : v3298 < 2147483648 := q3301
                    refine x_const (np := 152) (x := 9223372039002259456) (a := 2147483648) (by decide +kernel) (by decide) (by decide) ?_
                    refine x_istore (np := 154) (x := 4) (lo' := [x_r 75, iv_c 2147483652, iv_c 2147483648, iv_c v3273, iv_c 2147483648, iv_c v3298]) (by decide +kernel) (by decide) (Nat.le_of_ble_eq_true rfl) rfl ?_
                    refine x_iload (np := 156) (x := 4) (by decide +kernel) rfl (by decide) ?_
                    refine x_ifz (k := 0) (tg := 180) (np := 159) (by decide +kernel) (by decide) (by decide) (fun q3303 => ?_) (fun q3304 => ?_)
                    · have q3303 : 2147483648 = 2147483648 := q3303
                      refine x_iinc (np := 183) (i := 2) (j := 2147483647) (v := 2147483647) (lo' := [x_r 75, iv_c 2147483652, iv_c 2147483647, iv_c v3273, iv_c 2147483648, iv_c v3298]) (by decide +kernel) (by decide) (by decide) rfl (by decide) (by first | decide | omega) (by first | decide | omega) rfl ?_
                      refine x_goto (np := 186) (x := 12) (by decide +kernel) ?_
                      have q3305 : h3276 75 30 = h3264 75 30 := jK 0 f3278 rg_75_30_0_1 (by first | decide | omega) (by first | decide | omega) (by decide)
                      have q3306 : h3264 75 30 = (1 + (h3189 75 30)) := by rw [← e3266]; exact x_up_at
                      exact i3252 (iv_c v3273) (iv_c v3298) h3276 (by first | decide | omega) j3277 f3281 (by first | decide | omega)
                    have q3304 : ¬ (2147483648 = 2147483648) := q3304
                    exfalso; omega
                  have q3302 : ¬ (v3298 < 2147483648) := q3302
                  refine x_const (np := 148) (x := 9223372043297226753) (a := 2147483649) (by decide +kernel) (by decide) (by decide) ?_
                  refine x_goto (np := 151) (x := 152) (by decide +kernel) ?_
                  refine x_istore (np := 154) (x := 4) (lo' := [x_r 75, iv_c 2147483652, iv_c 2147483648, iv_c v3273, iv_c 2147483649, iv_c v3298]) (by decide +kernel) (by decide) (Nat.le_of_ble_eq_true rfl) rfl ?_
                  refine x_iload (np := 156) (x := 4) (by decide +kernel) rfl (by decide) ?_
                  refine x_ifz (k := 0) (tg := 180) (np := 159) (by decide +kernel) (by decide) (by decide) (fun q3307 => ?_) (fun q3308 => ?_)
                  · have q3307 : 2147483649 = 2147483648 := q3307
                    exfalso; omega
                  have q3308 : ¬ (2147483649 = 2147483648) := q3308
                  refine x_aload (np := 160) (x := 0) (by decide +kernel) rfl (x_nc_le (by decide)) ?_
                  have q3309 : h3276 75 27 = 93 := by have z := jB (e := 27) 0 j3277 rg_75_27_0_1 (by decide) (by decide); omega
                  refine x_getR (np := 163) (x := 731) (f := 27) (q := 93) (by decide +kernel) (by decide) (by decide +kernel) q3309 ?_
                  refine x_iload (np := 164) (x := 2) (by decide +kernel) rfl (by decide) ?_
                  refine x_iload (np := 166) (x := 5) (by decide +kernel) rfl l3299 ?_
                  refine x_ast (np := 167) (x := 0) (kd := 1) (n := 6) (i := 0) (by decide +kernel) (Or.inl rfl) (by decide +kernel) (by first | decide | omega) (by first | decide | omega) (by decide) l3299 (fun z => absurd z (by decide)) ?_
                  have j3311 := jU (e := 0) (v := v3298) 0 j3277 rg_93_0_1_6 (by first | decide | omega) (by first | decide | omega) (by first | decide | omega)
                  have f3313 := jF (e := 0) (v := v3298) 0 f3280 rg_93_0_1_6 (by first | decide | omega) (by first | decide | omega) (by decide)
                  have f3314 := jF (e := 0) (v := v3298) 0 f3281 rg_93_0_1_6 (by first | decide | omega) (by first | decide | omega) (by decide)
                  generalize e3312 : x_up h3276 93 0 v3298 = h3310 at j3311 f3313 f3314 ⊢
                  refine x_aload (np := 168) (x := 0) (by decide +kernel) rfl (x_nc_le (by decide)) ?_
                  refine x_iload (np := 170) (x := 5) (by decide +kernel) rfl l3299 ?_
                  refine x_const (np := 171) (x := 9223372043297226753) (a := 2147483649) (by decide +kernel) (by decide) (by decide) ?_
                  refine x_cV (t := 6) (mj := 248) (n := 3) (rc := 12) (ml := 4) (nr := 0) (np := 174) (as := [x_r 75, iv_c v3298, iv_c 2147483649]) (rest := []) (lo1 := [x_r 75, iv_c v3298, iv_c 2147483649, 147573952589676412928]) (by decide +kernel) (by decide) (by decide +kernel) (x_rb_of (by decide +kernel)) rfl rfl (x_wr (by decide) (x_wi l3299 (x_wi (by decide) x_wn))) x_wn (by decide) rfl (c248_75 j3311  (by first | decide | omega) (by first | decide | omega)) (fun h3318 q3317 => ?_)
                  obtain ⟨j3319, f3320⟩ := q3317
                  have f3323 := Fr.trans f3313 f3320 (by decide)
                  have f3324 := Fr.trans f3314 f3320 (by decide)
                  refine x_iinc (np := 177) (i := 2) (j := 2147483649) (v := 2147483649) (lo' := [x_r 75, iv_c 2147483652, iv_c 2147483649, iv_c v3273, iv_c 2147483649, iv_c v3298]) (by decide +kernel) (by decide) (by decide) rfl (by decide) (by first | decide | omega) (by first | decide | omega) rfl ?_
                  refine x_goto (np := 180) (x := 183) (by decide +kernel) ?_
                  refine x_goto (np := 186) (x := 12) (by decide +kernel) ?_
                  have q3325 : h3318 75 30 = h3310 75 30 := jK 0 f3320 rg_75_30_0_1 (by first | decide | omega) (by first | decide | omega) (by decide)
                  have q3326 : h3310 75 30 = h3276 75 30 := by rw [← e3312]; exact x_up_k (by decide)
                  have q3327 : h3276 75 30 = h3264 75 30 := jK 0 f3278 rg_75_30_0_1 (by first | decide | omega) (by first | decide | omega) (by decide)
                  have q3328 : h3264 75 30 = (1 + (h3189 75 30)) := by rw [← e3266]; exact x_up_at
                  exact i3248 (iv_c v3273) (iv_c v3298) h3318 (by first | decide | omega) j3319 f3324 (by first | decide | omega)
                have q3297 : ¬ (2147483648 ≤ (h3276 94 0)) := q3297
                refine x_const (np := 132) (x := 9223372034707292159) (a := 2147483647) (by decide +kernel) (by decide) (by decide) ?_
                refine x_goto (np := 135) (x := 140) (by decide +kernel) ?_
                refine x_istore (np := 142) (x := 5) (lo' := [x_r 75, iv_c 2147483652, iv_c 2147483648, iv_c v3273, iv_c 2147483649, iv_c 2147483647]) (by decide +kernel) (by decide) (Nat.le_of_ble_eq_true rfl) rfl ?_
                refine x_iload (np := 144) (x := 5) (by decide +kernel) rfl (by decide) ?_
                refine x_ifz (k := 2) (tg := 151) (np := 147) (by decide +kernel) (by decide) (by decide) (fun q3329 => ?_) (fun q3330 => ?_)
                · have q3329 : 2147483647 < 2147483648 := q3329
                  refine x_const (np := 152) (x := 9223372039002259456) (a := 2147483648) (by decide +kernel) (by decide) (by decide) ?_
                  refine x_istore (np := 154) (x := 4) (lo' := [x_r 75, iv_c 2147483652, iv_c 2147483648, iv_c v3273, iv_c 2147483648, iv_c 2147483647]) (by decide +kernel) (by decide) (Nat.le_of_ble_eq_true rfl) rfl ?_
                  refine x_iload (np := 156) (x := 4) (by decide +kernel) rfl (by decide) ?_
                  refine x_ifz (k := 0) (tg := 180) (np := 159) (by decide +kernel) (by decide) (by decide) (fun q3331 => ?_) (fun q3332 => ?_)
                  · have q3331 : 2147483648 = 2147483648 := q3331
                    refine x_iinc (np := 183) (i := 2) (j := 2147483647) (v := 2147483647) (lo' := [x_r 75, iv_c 2147483652, iv_c 2147483647, iv_c v3273, iv_c 2147483648, iv_c 2147483647]) (by decide +kernel) (by decide) (by decide) rfl (by decide) (by first | decide | omega) (by first | decide | omega) rfl ?_
                    refine x_goto (np := 186) (x := 12) (by decide +kernel) ?_
                    have q3333 : h3276 75 30 = h3264 75 30 := jK 0 f3278 rg_75_30_0_1 (by first | decide | omega) (by first | decide | omega) (by decide)
                    have q3334 : h3264 75 30 = (1 + (h3189 75 30)) := by rw [← e3266]; exact x_up_at
                    exact i3252 (iv_c v3273) (iv_c 2147483647) h3276 (by first | decide | omega) j3277 f3281 (by first | decide | omega)
                  have q3332 : ¬ (2147483648 = 2147483648) := q3332
                  exfalso; omega
                have q3330 : ¬ (2147483647 < 2147483648) := q3330
                exfalso; omega
              have q3292 : ¬ ((h3276 93 0) < 2147483648) := q3292
              refine x_aload (np := 112) (x := 0) (by decide +kernel) rfl (x_nc_le (by decide)) ?_
              refine x_aload (np := 113) (x := 0) (by decide +kernel) rfl (x_nc_le (by decide)) ?_
              have q3335 : h3276 75 27 = 93 := by have z := jB (e := 27) 0 j3277 rg_75_27_0_1 (by decide) (by decide); omega
              refine x_getR (np := 116) (x := 731) (f := 27) (q := 93) (by decide +kernel) (by decide) (by decide +kernel) q3335 ?_
              refine x_iload (np := 117) (x := 2) (by decide +kernel) rfl (by decide) ?_
              refine x_aldC (np := 118) (x := 0) (n := 6) (i := 0) (q := (h3276 93 0)) (by decide +kernel) (by decide +kernel) (by first | decide | omega) (by first | decide | omega) (by decide) rfl (fun l3336 => ?_)
              refine x_const (np := 119) (x := 9223372039002259456) (a := 2147483648) (by decide +kernel) (by decide) (by decide) ?_
              refine x_cV (t := 6) (mj := 248) (n := 3) (rc := 12) (ml := 4) (nr := 0) (np := 122) (as := [x_r 75, iv_c (h3276 93 0), iv_c 2147483648]) (rest := []) (lo1 := [x_r 75, iv_c (h3276 93 0), iv_c 2147483648, 147573952589676412928]) (by decide +kernel) (by decide) (by decide +kernel) (x_rb_of (by decide +kernel)) rfl rfl (x_wr (by decide) (x_wi l3290 (x_wi (by decide) x_wn))) x_wn (by decide) rfl (c248_75 j3277  (by first | decide | omega) (by first | decide | omega)) (fun h3340 q3339 => ?_)
              obtain ⟨j3341, f3342⟩ := q3339
              have f3345 := Fr.trans f3280 f3342 (by decide)
              have f3346 := Fr.trans f3281 f3342 (by decide)
              refine x_aload (np := 123) (x := 0) (by decide +kernel) rfl (x_nc_le (by decide)) ?_
              have q3347 : h3340 75 28 = 94 := by have z := jB (e := 28) 0 j3341 rg_75_28_0_1 (by decide) (by decide); omega
              refine x_getR (np := 126) (x := 732) (f := 28) (q := 94) (by decide +kernel) (by decide) (by decide +kernel) q3347 ?_
              refine x_iload (np := 127) (x := 2) (by decide +kernel) rfl (by decide) ?_
              have q3348 : h3340 94 0 = h3276 94 0 := jK 0 f3342 rg_94_0_1_6 (by first | decide | omega) (by first | decide | omega) (by decide)
              have b3349 := jB (e := 0) 0 j3277 rg_94_0_1_6 (by first | decide | omega) (by first | decide | omega)
              refine x_aldC (np := 128) (x := 0) (n := 6) (i := 0) (q := (h3276 94 0)) (by decide +kernel) (by decide +kernel) (by first | decide | omega) (by first | decide | omega) (by decide) q3348 (fun l3350 => ?_)
              refine x_ifz (k := 3) (tg := 135) (np := 131) (by decide +kernel) (by decide) l3350 (fun q3351 => ?_) (fun q3352 => ?_)
              · have q3351 : 2147483648 ≤ (h3276 94 0) := q3351
                refine x_aload (np := 136) (x := 0) (by decide +kernel) rfl (x_nc_le (by decide)) ?_
                refine x_iload (np := 137) (x := 2) (by decide +kernel) rfl (by decide) ?_
                have q3353 : h3340 94 0 = h3276 94 0 := jK 0 f3342 rg_94_0_1_6 (by first | decide | omega) (by first | decide | omega) (by decide)
                refine x_cP (t := 6) (mj := 257) (n := 2) (rc := 12) (ml := 3) (nr := 0) (np := 140) (as := [x_r 75, iv_c 2147483648]) (rest := []) (lo1 := [x_r 75, iv_c 2147483648, 147573952589676412928]) (by decide +kernel) (by decide) (by decide +kernel) (x_rb_of (by decide +kernel)) rfl rfl (x_wr (by decide) (x_wi (by decide) x_wn)) x_wn (by decide) rfl (c257_75_c0 j3341   (by first | decide | omega)) (fun v3354 l3355 q3356 => ?_)
                refine x_istore (np := 142) (x := 5) (lo' := [x_r 75, iv_c 2147483652, iv_c 2147483648, iv_c v3273, iv_c 2147483649, iv_c v3354]) (by decide +kernel) l3355 (Nat.le_of_ble_eq_true rfl) rfl ?_
                refine x_iload (np := 144) (x := 5) (by decide +kernel) rfl l3355 ?_
                refine x_ifz (k := 2) (tg := 151) (np := 147) (by decide +kernel) (by decide) l3355 (fun q3357 => ?_) (fun q3358 => ?_)
                · have q3357 : v3354 < 2147483648 := q3357
                  refine x_const (np := 152) (x := 9223372039002259456) (a := 2147483648) (by decide +kernel) (by decide) (by decide) ?_
                  refine x_istore (np := 154) (x := 4) (lo' := [x_r 75, iv_c 2147483652, iv_c 2147483648, iv_c v3273, iv_c 2147483648, iv_c v3354]) (by decide +kernel) (by decide) (Nat.le_of_ble_eq_true rfl) rfl ?_
                  refine x_iload (np := 156) (x := 4) (by decide +kernel) rfl (by decide) ?_
                  refine x_ifz (k := 0) (tg := 180) (np := 159) (by decide +kernel) (by decide) (by decide) (fun q3359 => ?_) (fun q3360 => ?_)
                  · have q3359 : 2147483648 = 2147483648 := q3359
                    refine x_iinc (np := 183) (i := 2) (j := 2147483647) (v := 2147483647) (lo' := [x_r 75, iv_c 2147483652, iv_c 2147483647, iv_c v3273, iv_c 2147483648, iv_c v3354]) (by decide +kernel) (by decide) (by decide) rfl (by decide) (by first | decide | omega) (by first | decide | omega) rfl ?_
                    refine x_goto (np := 186) (x := 12) (by decide +kernel) ?_
                    have q3361 : h3340 75 30 = h3276 75 30 := jK 0 f3342 rg_75_30_0_1 (by first | decide | omega) (by first | decide | omega) (by decide)
                    have q3362 : h3276 75 30 = h3264 75 30 := jK 0 f3278 rg_75_30_0_1 (by first | decide | omega) (by first | decide | omega) (by decide)
                    have q3363 : h3264 75 30 = (1 + (h3189 75 30)) := by rw [← e3266]; exact x_up_at
                    exact i3252 (iv_c v3273) (iv_c v3354) h3340 (by first | decide | omega) j3341 f3346 (by first | decide | omega)
                  have q3360 : ¬ (2147483648 = 2147483648) := q3360
                  exfalso; omega
                have q3358 : ¬ (v3354 < 2147483648) := q3358
                refine x_const (np := 148) (x := 9223372043297226753) (a := 2147483649) (by decide +kernel) (by decide) (by decide) ?_
                refine x_goto (np := 151) (x := 152) (by decide +kernel) ?_
                refine x_istore (np := 154) (x := 4) (lo' := [x_r 75, iv_c 2147483652, iv_c 2147483648, iv_c v3273, iv_c 2147483649, iv_c v3354]) (by decide +kernel) (by decide) (Nat.le_of_ble_eq_true rfl) rfl ?_
                refine x_iload (np := 156) (x := 4) (by decide +kernel) rfl (by decide) ?_
                refine x_ifz (k := 0) (tg := 180) (np := 159) (by decide +kernel) (by decide) (by decide) (fun q3364 => ?_) (fun q3365 => ?_)
                · have q3364 : 2147483649 = 2147483648 := q3364
                  exfalso; omega
                have q3365 : ¬ (2147483649 = 2147483648) := q3365
                refine x_aload (np := 160) (x := 0) (by decide +kernel) rfl (x_nc_le (by decide)) ?_
                have q3366 : h3340 75 27 = 93 := by have z := jB (e := 27) 0 j3341 rg_75_27_0_1 (by decide) (by decide); omega
                refine x_getR (np := 163) (x := 731) (f := 27) (q := 93) (by decide +kernel) (by decide) (by decide +kernel) q3366 ?_
                refine x_iload (np := 164) (x := 2) (by decide +kernel) rfl (by decide) ?_
                refine x_iload (np := 166) (x := 5) (by decide +kernel) rfl l3355 ?_
                refine x_ast (np := 167) (x := 0) (kd := 1) (n := 6) (i := 0) (by decide +kernel) (Or.inl rfl) (by decide +kernel) (by first | decide | omega) (by first | decide | omega) (by decide) l3355 (fun z => absurd z (by decide)) ?_
                have j3368 := jU (e := 0) (v := v3354) 0 j3341 rg_93_0_1_6 (by first | decide | omega) (by first | decide | omega) (by first | decide | omega)
                have f3370 := jF (e := 0) (v := v3354) 0 f3345 rg_93_0_1_6 (by first | decide | omega) (by first | decide | omega) (by decide)
                have f3371 := jF (e := 0) (v := v3354) 0 f3346 rg_93_0_1_6 (by first | decide | omega) (by first | decide | omega) (by decide)
                generalize e3369 : x_up h3340 93 0 v3354 = h3367 at j3368 f3370 f3371 ⊢
                refine x_aload (np := 168) (x := 0) (by decide +kernel) rfl (x_nc_le (by decide)) ?_
                refine x_iload (np := 170) (x := 5) (by decide +kernel) rfl l3355 ?_
                refine x_const (np := 171) (x := 9223372043297226753) (a := 2147483649) (by decide +kernel) (by decide) (by decide) ?_
                refine x_cV (t := 6) (mj := 248) (n := 3) (rc := 12) (ml := 4) (nr := 0) (np := 174) (as := [x_r 75, iv_c v3354, iv_c 2147483649]) (rest := []) (lo1 := [x_r 75, iv_c v3354, iv_c 2147483649, 147573952589676412928]) (by decide +kernel) (by decide) (by decide +kernel) (x_rb_of (by decide +kernel)) rfl rfl (x_wr (by decide) (x_wi l3355 (x_wi (by decide) x_wn))) x_wn (by decide) rfl (c248_75 j3368  (by first | decide | omega) (by first | decide | omega)) (fun h3375 q3374 => ?_)
                obtain ⟨j3376, f3377⟩ := q3374
                have f3380 := Fr.trans f3370 f3377 (by decide)
                have f3381 := Fr.trans f3371 f3377 (by decide)
                refine x_iinc (np := 177) (i := 2) (j := 2147483649) (v := 2147483649) (lo' := [x_r 75, iv_c 2147483652, iv_c 2147483649, iv_c v3273, iv_c 2147483649, iv_c v3354]) (by decide +kernel) (by decide) (by decide) rfl (by decide) (by first | decide | omega) (by first | decide | omega) rfl ?_
                refine x_goto (np := 180) (x := 183) (by decide +kernel) ?_
                refine x_goto (np := 186) (x := 12) (by decide +kernel) ?_
                have q3382 : h3375 75 30 = h3367 75 30 := jK 0 f3377 rg_75_30_0_1 (by first | decide | omega) (by first | decide | omega) (by decide)
                have q3383 : h3367 75 30 = h3340 75 30 := by rw [← e3369]; exact x_up_k (by decide)
                have q3384 : h3340 75 30 = h3276 75 30 := jK 0 f3342 rg_75_30_0_1 (by first | decide | omega) (by first | decide | omega) (by decide)
                have q3385 : h3276 75 30 = h3264 75 30 := jK 0 f3278 rg_75_30_0_1 (by first | decide | omega) (by first | decide | omega) (by decide)
                have q3386 : h3264 75 30 = (1 + (h3189 75 30)) := by rw [← e3266]; exact x_up_at
                exact i3248 (iv_c v3273) (iv_c v3354) h3375 (by first | decide | omega) j3376 f3381 (by first | decide | omega)
              have q3352 : ¬ (2147483648 ≤ (h3276 94 0)) := q3352
              refine x_const (np := 132) (x := 9223372034707292159) (a := 2147483647) (by decide +kernel) (by decide) (by decide) ?_
              refine x_goto (np := 135) (x := 140) (by decide +kernel) ?_
              refine x_istore (np := 142) (x := 5) (lo' := [x_r 75, iv_c 2147483652, iv_c 2147483648, iv_c v3273, iv_c 2147483649, iv_c 2147483647]) (by decide +kernel) (by decide) (Nat.le_of_ble_eq_true rfl) rfl ?_
              refine x_iload (np := 144) (x := 5) (by decide +kernel) rfl (by decide) ?_
              refine x_ifz (k := 2) (tg := 151) (np := 147) (by decide +kernel) (by decide) (by decide) (fun q3387 => ?_) (fun q3388 => ?_)
              · have q3387 : 2147483647 < 2147483648 := q3387
                refine x_const (np := 152) (x := 9223372039002259456) (a := 2147483648) (by decide +kernel) (by decide) (by decide) ?_
                refine x_istore (np := 154) (x := 4) (lo' := [x_r 75, iv_c 2147483652, iv_c 2147483648, iv_c v3273, iv_c 2147483648, iv_c 2147483647]) (by decide +kernel) (by decide) (Nat.le_of_ble_eq_true rfl) rfl ?_
                refine x_iload (np := 156) (x := 4) (by decide +kernel) rfl (by decide) ?_
                refine x_ifz (k := 0) (tg := 180) (np := 159) (by decide +kernel) (by decide) (by decide) (fun q3389 => ?_) (fun q3390 => ?_)
                · have q3389 : 2147483648 = 2147483648 := q3389
                  refine x_iinc (np := 183) (i := 2) (j := 2147483647) (v := 2147483647) (lo' := [x_r 75, iv_c 2147483652, iv_c 2147483647, iv_c v3273, iv_c 2147483648, iv_c 2147483647]) (by decide +kernel) (by decide) (by decide) rfl (by decide) (by first | decide | omega) (by first | decide | omega) rfl ?_
                  refine x_goto (np := 186) (x := 12) (by decide +kernel) ?_
                  have q3391 : h3340 75 30 = h3276 75 30 := jK 0 f3342 rg_75_30_0_1 (by first | decide | omega) (by first | decide | omega) (by decide)
                  have q3392 : h3276 75 30 = h3264 75 30 := jK 0 f3278 rg_75_30_0_1 (by first | decide | omega) (by first | decide | omega) (by decide)
                  have q3393 : h3264 75 30 = (1 + (h3189 75 30)) := by rw [← e3266]; exact x_up_at
                  exact i3252 (iv_c v3273) (iv_c 2147483647) h3340 (by first | decide | omega) j3341 f3346 (by first | decide | omega)
                have q3390 : ¬ (2147483648 = 2147483648) := q3390
                exfalso; omega
              have q3388 : ¬ (2147483647 < 2147483648) := q3388
              exfalso; omega
            have q3287 : ¬ (2147483648 ≠ 2147483652) := q3287
            exfalso; omega
          have q3283 : ¬ (v3273 ≠ 2147483649) := q3283
          refine x_aload (np := 55) (x := 0) (by decide +kernel) rfl (x_nc_le (by decide)) ?_
          have q3394 : h3276 75 34 = h3264 75 34 := jK 0 f3278 rg_75_34_0_1 (by first | decide | omega) (by first | decide | omega) (by decide)
          have q3395 : h3264 75 34 = h3189 75 34 := by rw [← e3266]; exact x_up_i (by first | decide | omega)
          refine x_getC (np := 58) (x := 738) (f := 34) (q := (h3189 75 34)) (by decide +kernel) (by decide) (by decide +kernel) (q3394.trans q3395) (fun l3396 => ?_)
          refine x_ifz (k := 1) (tg := 66) (np := 61) (by decide +kernel) (by decide) l3396 (fun q3397 => ?_) (fun q3398 => ?_)
          · have q3397 : (h3189 75 34) ≠ 2147483648 := q3397
            refine x_aload (np := 67) (x := 0) (by decide +kernel) rfl (x_nc_le (by decide)) ?_
            refine x_dup (np := 68) (x := 0) (by decide +kernel) (by have z := x_nc_le (k := 75) (by decide); unfold x_r; omega) ?_
            have q3399 : h3276 75 34 = h3264 75 34 := jK 0 f3278 rg_75_34_0_1 (by first | decide | omega) (by first | decide | omega) (by decide)
            have q3400 : h3264 75 34 = h3189 75 34 := by rw [← e3266]; exact x_up_i (by first | decide | omega)
            refine x_getC (np := 71) (x := 738) (f := 34) (q := (h3189 75 34)) (by decide +kernel) (by decide) (by decide +kernel) (q3399.trans q3400) (fun l3401 => ?_)
            refine x_const (np := 72) (x := 9223372043297226753) (a := 2147483649) (by decide +kernel) (by decide) (by decide) ?_
            refine x_addA (by rw [tb_b259]; decide +kernel) l3396 (by decide) (fun v3402 l3403 => ?_)
            refine x_putI (np := 76) (x := 738) (f := 34) (by decide +kernel) (by decide +kernel) l3403 (Or.inl (by decide)) ?_
            have j3405 := jU (e := 34) (v := v3402) 0 j3277 rg_75_34_0_1 (by first | decide | omega) (by first | decide | omega) (by first | decide | omega)
            have f3407 := jF (e := 34) (v := v3402) 0 f3280 rg_75_34_0_1 (by first | decide | omega) (by first | decide | omega) (by decide)
            have f3408 := jF (e := 34) (v := v3402) 0 f3281 rg_75_34_0_1 (by first | decide | omega) (by first | decide | omega) (by decide)
            generalize e3406 : x_up h3276 75 34 v3402 = h3404 at j3405 f3407 f3408 ⊢
            refine x_aload (np := 77) (x := 0) (by decide +kernel) rfl (x_nc_le (by decide)) ?_
            have q3409 : h3404 75 33 = h3276 75 33 := by rw [← e3406]; exact x_up_i (by first | decide | omega)
            have q3410 : h3276 75 33 = h3264 75 33 := jK 0 f3278 rg_75_33_0_1 (by first | decide | omega) (by first | decide | omega) (by decide)
            have q3411 : h3264 75 33 = h3189 75 33 := by rw [← e3266]; exact x_up_i (by first | decide | omega)
            have q3412 : h3189 75 33 = h2 75 33 := jK 0 f3191 rg_75_33_0_1 (by first | decide | omega) (by first | decide | omega) (by decide)
            have q3413 : h2 75 33 = h 75 33 := by rw [← e4]; exact x_up_i (by first | decide | omega)
            have b3414 := jB (e := 33) 0 hJ rg_75_33_0_1 (by first | decide | omega) (by first | decide | omega)
            refine x_getC (np := 80) (x := 737) (f := 33) (q := (h 75 33)) (by decide +kernel) (by decide) (by decide +kernel) ((((q3409.trans q3410).trans q3411).trans q3412).trans q3413) (fun l3415 => ?_)
            refine x_ifz (k := 0) (tg := 85) (np := 83) (by decide +kernel) (by decide) l3415 (fun q3416 => ?_) (fun q3417 => ?_)
            · have q3416 : (h 75 33) = 2147483648 := q3416
              refine x_iload (np := 86) (x := 3) (by decide +kernel) rfl l3274 ?_
              refine x_const (np := 87) (x := 9223372043297226753) (a := 2147483649) (by decide +kernel) (by decide) (by decide) ?_
              refine x_icmp (k := 0) (tg := 95) (np := 90) (by decide +kernel) (by decide) l3274 (by decide) (fun q3418 => ?_) (fun q3419 => ?_)
              · have q3418 : v3273 = 2147483649 := q3418
                refine x_aload (np := 96) (x := 0) (by decide +kernel) rfl (x_nc_le (by decide)) ?_
                have q3420 : h3404 75 28 = 94 := by have z := jB (e := 28) 0 j3405 rg_75_28_0_1 (by decide) (by decide); omega
                refine x_getR (np := 99) (x := 732) (f := 28) (q := 94) (by decide +kernel) (by decide) (by decide +kernel) q3420 ?_
                refine x_iload (np := 100) (x := 2) (by decide +kernel) rfl (by decide) ?_
                refine x_const (np := 101) (x := 9223372034707292159) (a := 2147483647) (by decide +kernel) (by decide) (by decide) ?_
                refine x_ast (np := 102) (x := 0) (kd := 1) (n := 6) (i := 0) (by decide +kernel) (Or.inl rfl) (by decide +kernel) (by first | decide | omega) (by first | decide | omega) (by decide) (by decide) (fun z => absurd z (by decide)) ?_
                have j3422 := jU (e := 0) (v := 2147483647) 0 j3405 rg_94_0_1_6 (by first | decide | omega) (by first | decide | omega) (by first | decide | omega)
                have f3424 := jF (e := 0) (v := 2147483647) 0 f3407 rg_94_0_1_6 (by first | decide | omega) (by first | decide | omega) (by decide)
                have f3425 := jF (e := 0) (v := 2147483647) 0 f3408 rg_94_0_1_6 (by first | decide | omega) (by first | decide | omega) (by decide)
                generalize e3423 : x_up h3404 94 0 2147483647 = h3421 at j3422 f3424 f3425 ⊢
                refine x_aload (np := 103) (x := 0) (by decide +kernel) rfl (x_nc_le (by decide)) ?_
                have q3426 : h3421 75 27 = 93 := by have z := jB (e := 27) 0 j3422 rg_75_27_0_1 (by decide) (by decide); omega
                refine x_getR (np := 106) (x := 731) (f := 27) (q := 93) (by decide +kernel) (by decide) (by decide +kernel) q3426 ?_
                refine x_iload (np := 107) (x := 2) (by decide +kernel) rfl (by decide) ?_
                have q3427 : h3421 93 0 = h3404 93 0 := by rw [← e3423]; exact x_up_k (by decide)
                have q3428 : h3404 93 0 = h3276 93 0 := by rw [← e3406]; exact x_up_k (by decide)
                have b3429 := jB (e := 0) 0 j3277 rg_93_0_1_6 (by first | decide | omega) (by first | decide | omega)
                refine x_aldC (np := 108) (x := 0) (n := 6) (i := 0) (q := (h3276 93 0)) (by decide +kernel) (by decide +kernel) (by first | decide | omega) (by first | decide | omega) (by decide) (q3427.trans q3428) (fun l3430 => ?_)
                refine x_ifz (k := 2) (tg := 122) (np := 111) (by decide +kernel) (by decide) l3430 (fun q3431 => ?_) (fun q3432 => ?_)
                · have q3431 : (h3276 93 0) < 2147483648 := q3431
                  refine x_aload (np := 123) (x := 0) (by decide +kernel) rfl (x_nc_le (by decide)) ?_
                  have q3433 : h3421 75 28 = 94 := by have z := jB (e := 28) 0 j3422 rg_75_28_0_1 (by decide) (by decide); omega
                  refine x_getR (np := 126) (x := 732) (f := 28) (q := 94) (by decide +kernel) (by decide) (by decide +kernel) q3433 ?_
                  refine x_iload (np := 127) (x := 2) (by decide +kernel) rfl (by decide) ?_
                  have q3434 : h3421 94 0 = 2147483647 := by rw [← e3423]; exact x_up_at
                  refine x_aldC (np := 128) (x := 0) (n := 6) (i := 0) (q := 2147483647) (by decide +kernel) (by decide +kernel) (by first | decide | omega) (by first | decide | omega) (by decide) q3434 (fun l3435 => ?_)
                  refine x_ifz (k := 3) (tg := 135) (np := 131) (by decide +kernel) (by decide) (by decide) (fun q3436 => ?_) (fun q3437 => ?_)
                  · have q3436 : 2147483648 ≤ 2147483647 := q3436
                    exfalso; omega
                  have q3437 : ¬ (2147483648 ≤ 2147483647) := q3437
                  refine x_const (np := 132) (x := 9223372034707292159) (a := 2147483647) (by decide +kernel) (by decide) (by decide) ?_
                  refine x_goto (np := 135) (x := 140) (by decide +kernel) ?_
                  refine x_istore (np := 142) (x := 5) (lo' := [x_r 75, iv_c 2147483652, iv_c 2147483648, iv_c v3273, iv_c 2147483649, iv_c 2147483647]) (by decide +kernel) (by decide) (Nat.le_of_ble_eq_true rfl) rfl ?_
                  refine x_iload (np := 144) (x := 5) (by decide +kernel) rfl (by decide) ?_
                  refine x_ifz (k := 2) (tg := 151) (np := 147) (by decide +kernel) (by decide) (by decide) (fun q3438 => ?_) (fun q3439 => ?_)
                  · have q3438 : 2147483647 < 2147483648 := q3438
                    refine x_const (np := 152) (x := 9223372039002259456) (a := 2147483648) (by decide +kernel) (by decide) (by decide) ?_
                    refine x_istore (np := 154) (x := 4) (lo' := [x_r 75, iv_c 2147483652, iv_c 2147483648, iv_c v3273, iv_c 2147483648, iv_c 2147483647]) (by decide +kernel) (by decide) (Nat.le_of_ble_eq_true rfl) rfl ?_
                    refine x_iload (np := 156) (x := 4) (by decide +kernel) rfl (by decide) ?_
                    refine x_ifz (k := 0) (tg := 180) (np := 159) (by decide +kernel) (by decide) (by decide) (fun q3440 => ?_) (fun q3441 => ?_)
                    · have q3440 : 2147483648 = 2147483648 := q3440
                      refine x_iinc (np := 183) (i := 2) (j := 2147483647) (v := 2147483647) (lo' := [x_r 75, iv_c 2147483652, iv_c 2147483647, iv_c v3273, iv_c 2147483648, iv_c 2147483647]) (by decide +kernel) (by decide) (by decide) rfl (by decide) (by first | decide | omega) (by first | decide | omega) rfl ?_
                      refine x_goto (np := 186) (x := 12) (by decide +kernel) ?_
                      have q3442 : h3421 75 30 = h3404 75 30 := by rw [← e3423]; exact x_up_k (by decide)
                      have q3443 : h3404 75 30 = h3276 75 30 := by rw [← e3406]; exact x_up_i (by first | decide | omega)
                      have q3444 : h3276 75 30 = h3264 75 30 := jK 0 f3278 rg_75_30_0_1 (by first | decide | omega) (by first | decide | omega) (by decide)
                      have q3445 : h3264 75 30 = (1 + (h3189 75 30)) := by rw [← e3266]; exact x_up_at
                      exact i3252 (iv_c v3273) (iv_c 2147483647) h3421 (by first | decide | omega) j3422 f3425 (by first | decide | omega)
                    have q3441 : ¬ (2147483648 = 2147483648) := q3441
                    exfalso; omega
                  have q3439 : ¬ (2147483647 < 2147483648) := q3439
                  exfalso; omega
                have q3432 : ¬ ((h3276 93 0) < 2147483648) := q3432
                refine x_aload (np := 112) (x := 0) (by decide +kernel) rfl (x_nc_le (by decide)) ?_
                refine x_aload (np := 113) (x := 0) (by decide +kernel) rfl (x_nc_le (by decide)) ?_
                have q3446 : h3421 75 27 = 93 := by have z := jB (e := 27) 0 j3422 rg_75_27_0_1 (by decide) (by decide); omega
                refine x_getR (np := 116) (x := 731) (f := 27) (q := 93) (by decide +kernel) (by decide) (by decide +kernel) q3446 ?_
                refine x_iload (np := 117) (x := 2) (by decide +kernel) rfl (by decide) ?_
                have q3447 : h3421 93 0 = h3404 93 0 := by rw [← e3423]; exact x_up_k (by decide)
                have q3448 : h3404 93 0 = h3276 93 0 := by rw [← e3406]; exact x_up_k (by decide)
                refine x_aldC (np := 118) (x := 0) (n := 6) (i := 0) (q := (h3276 93 0)) (by decide +kernel) (by decide +kernel) (by first | decide | omega) (by first | decide | omega) (by decide) (q3447.trans q3448) (fun l3449 => ?_)
                refine x_const (np := 119) (x := 9223372039002259456) (a := 2147483648) (by decide +kernel) (by decide) (by decide) ?_
                refine x_cV (t := 6) (mj := 248) (n := 3) (rc := 12) (ml := 4) (nr := 0) (np := 122) (as := [x_r 75, iv_c (h3276 93 0), iv_c 2147483648]) (rest := []) (lo1 := [x_r 75, iv_c (h3276 93 0), iv_c 2147483648, 147573952589676412928]) (by decide +kernel) (by decide) (by decide +kernel) (x_rb_of (by decide +kernel)) rfl rfl (x_wr (by decide) (x_wi l3430 (x_wi (by decide) x_wn))) x_wn (by decide) rfl (c248_75 j3422  (by first | decide | omega) (by first | decide | omega)) (fun h3453 q3452 => ?_)
                obtain ⟨j3454, f3455⟩ := q3452
                have f3458 := Fr.trans f3424 f3455 (by decide)
                have f3459 := Fr.trans f3425 f3455 (by decide)
                refine x_aload (np := 123) (x := 0) (by decide +kernel) rfl (x_nc_le (by decide)) ?_
                have q3460 : h3453 75 28 = 94 := by have z := jB (e := 28) 0 j3454 rg_75_28_0_1 (by decide) (by decide); omega
                refine x_getR (np := 126) (x := 732) (f := 28) (q := 94) (by decide +kernel) (by decide) (by decide +kernel) q3460 ?_
                refine x_iload (np := 127) (x := 2) (by decide +kernel) rfl (by decide) ?_
                have q3461 : h3453 94 0 = h3421 94 0 := jK 0 f3455 rg_94_0_1_6 (by first | decide | omega) (by first | decide | omega) (by decide)
                have q3462 : h3421 94 0 = 2147483647 := by rw [← e3423]; exact x_up_at
                refine x_aldC (np := 128) (x := 0) (n := 6) (i := 0) (q := 2147483647) (by decide +kernel) (by decide +kernel) (by first | decide | omega) (by first | decide | omega) (by decide) (q3461.trans q3462) (fun l3463 => ?_)
                refine x_ifz (k := 3) (tg := 135) (np := 131) (by decide +kernel) (by decide) (by decide) (fun q3464 => ?_) (fun q3465 => ?_)
                · have q3464 : 2147483648 ≤ 2147483647 := q3464
                  exfalso; omega
                have q3465 : ¬ (2147483648 ≤ 2147483647) := q3465
                refine x_const (np := 132) (x := 9223372034707292159) (a := 2147483647) (by decide +kernel) (by decide) (by decide) ?_
                refine x_goto (np := 135) (x := 140) (by decide +kernel) ?_
                refine x_istore (np := 142) (x := 5) (lo' := [x_r 75, iv_c 2147483652, iv_c 2147483648, iv_c v3273, iv_c 2147483649, iv_c 2147483647]) (by decide +kernel) (by decide) (Nat.le_of_ble_eq_true rfl) rfl ?_
                refine x_iload (np := 144) (x := 5) (by decide +kernel) rfl (by decide) ?_
                refine x_ifz (k := 2) (tg := 151) (np := 147) (by decide +kernel) (by decide) (by decide) (fun q3466 => ?_) (fun q3467 => ?_)
                · have q3466 : 2147483647 < 2147483648 := q3466
                  refine x_const (np := 152) (x := 9223372039002259456) (a := 2147483648) (by decide +kernel) (by decide) (by decide) ?_
                  refine x_istore (np := 154) (x := 4) (lo' := [x_r 75, iv_c 2147483652, iv_c 2147483648, iv_c v3273, iv_c 2147483648, iv_c 2147483647]) (by decide +kernel) (by decide) (Nat.le_of_ble_eq_true rfl) rfl ?_
                  refine x_iload (np := 156) (x := 4) (by decide +kernel) rfl (by decide) ?_
                  refine x_ifz (k := 0) (tg := 180) (np := 159) (by decide +kernel) (by decide) (by decide) (fun q3468 => ?_) (fun q3469 => ?_)
                  · have q3468 : 2147483648 = 2147483648 := q3468
                    refine x_iinc (np := 183) (i := 2) (j := 2147483647) (v := 2147483647) (lo' := [x_r 75, iv_c 2147483652, iv_c 2147483647, iv_c v3273, iv_c 2147483648, iv_c 2147483647]) (by decide +kernel) (by decide) (by decide) rfl (by decide) (by first | decide | omega) (by first | decide | omega) rfl ?_
                    refine x_goto (np := 186) (x := 12) (by decide +kernel) ?_
                    have q3470 : h3453 75 30 = h3421 75 30 := jK 0 f3455 rg_75_30_0_1 (by first | decide | omega) (by first | decide | omega) (by decide)
                    have q3471 : h3421 75 30 = h3404 75 30 := by rw [← e3423]; exact x_up_k (by decide)
                    have q3472 : h3404 75 30 = h3276 75 30 := by rw [← e3406]; exact x_up_i (by first | decide | omega)
                    have q3473 : h3276 75 30 = h3264 75 30 := jK 0 f3278 rg_75_30_0_1 (by first | decide | omega) (by first | decide | omega) (by decide)
                    have q3474 : h3264 75 30 = (1 + (h3189 75 30)) := by rw [← e3266]; exact x_up_at
                    exact i3252 (iv_c v3273) (iv_c 2147483647) h3453 (by first | decide | omega) j3454 f3459 (by first | decide | omega)
                  have q3469 : ¬ (2147483648 = 2147483648) := q3469
                  exfalso; omega
                have q3467 : ¬ (2147483647 < 2147483648) := q3467
                exfalso; omega
              have q3419 : ¬ (v3273 = 2147483649) := q3419
              exfalso; omega
            have q3417 : ¬ ((h 75 33) = 2147483648) := q3417
            refine x_const (np := 84) (x := 9223372043297226753) (a := 2147483649) (by decide +kernel) (by decide) (by decide) ?_
            have q3475 : h3404 75 30 = h3276 75 30 := by rw [← e3406]; exact x_up_i (by first | decide | omega)
            have q3476 : h3276 75 30 = h3264 75 30 := jK 0 f3278 rg_75_30_0_1 (by first | decide | omega) (by first | decide | omega) (by decide)
            have q3477 : h3264 75 30 = (1 + (h3189 75 30)) := by rw [← e3266]; exact x_up_at
            refine x_retI (np := 85) (x := 0) (by decide +kernel) (by decide) (Or.inr ⟨by decide +kernel, by first | decide | omega, by first | decide | omega⟩) ⟨_, rfl, (by decide), ?_⟩
            exact ⟨j3405, f3407, (by first | decide | omega), (fun z => by first | decide | omega)⟩
          have q3398 : ¬ ((h3189 75 34) ≠ 2147483648) := q3398
          refine x_aload (np := 62) (x := 0) (by decide +kernel) rfl (x_nc_le (by decide)) ?_
          refine x_iload (np := 63) (x := 2) (by decide +kernel) rfl (by decide) ?_
          refine x_cV (t := 6) (mj := 258) (n := 2) (rc := 12) (ml := 4) (nr := 0) (np := 66) (as := [x_r 75, iv_c 2147483648]) (rest := []) (lo1 := [x_r 75, iv_c 2147483648, 147573952589676412928, 147573952589676412928]) (by decide +kernel) (by decide) (by decide +kernel) (x_rb_of (by decide +kernel)) rfl rfl (x_wr (by decide) (x_wi (by decide) x_wn)) x_wn (by decide) rfl (c258_75 j3277  (by first | decide | omega)) (fun h3481 q3480 => ?_)
          obtain ⟨j3482, f3483⟩ := q3480
          have f3486 := Fr.trans f3280 f3483 (by decide)
          have f3487 := Fr.trans f3281 f3483 (by decide)
          refine x_aload (np := 67) (x := 0) (by decide +kernel) rfl (x_nc_le (by decide)) ?_
          refine x_dup (np := 68) (x := 0) (by decide +kernel) (by have z := x_nc_le (k := 75) (by decide); unfold x_r; omega) ?_
          have q3488 : h3481 75 34 = h3276 75 34 := jK 0 f3483 rg_75_34_0_1 (by first | decide | omega) (by first | decide | omega) (by decide)
          have q3489 : h3276 75 34 = h3264 75 34 := jK 0 f3278 rg_75_34_0_1 (by first | decide | omega) (by first | decide | omega) (by decide)
          have q3490 : h3264 75 34 = h3189 75 34 := by rw [← e3266]; exact x_up_i (by first | decide | omega)
          refine x_getC (np := 71) (x := 738) (f := 34) (q := (h3189 75 34)) (by decide +kernel) (by decide) (by decide +kernel) ((q3488.trans q3489).trans q3490) (fun l3491 => ?_)
          refine x_const (np := 72) (x := 9223372043297226753) (a := 2147483649) (by decide +kernel) (by decide) (by decide) ?_
          refine x_iadd (np := 73) (x := 0) (v := (1 + (h3189 75 34))) (by decide +kernel) l3396 (by decide) (by first | decide | omega) (by first | decide | omega) ?_
          refine x_putI (np := 76) (x := 738) (f := 34) (by decide +kernel) (by decide +kernel) (by first | decide | omega) (Or.inl (by decide)) ?_
          have j3493 := jU (e := 34) (v := (1 + (h3189 75 34))) 0 j3482 rg_75_34_0_1 (by first | decide | omega) (by first | decide | omega) (by first | decide | omega)
          have f3495 := jF (e := 34) (v := (1 + (h3189 75 34))) 0 f3486 rg_75_34_0_1 (by first | decide | omega) (by first | decide | omega) (by decide)
          have f3496 := jF (e := 34) (v := (1 + (h3189 75 34))) 0 f3487 rg_75_34_0_1 (by first | decide | omega) (by first | decide | omega) (by decide)
          generalize e3494 : x_up h3481 75 34 (1 + (h3189 75 34)) = h3492 at j3493 f3495 f3496 ⊢
          refine x_aload (np := 77) (x := 0) (by decide +kernel) rfl (x_nc_le (by decide)) ?_
          have q3497 : h3492 75 33 = h3481 75 33 := by rw [← e3494]; exact x_up_i (by first | decide | omega)
          have q3498 : h3481 75 33 = h3276 75 33 := jK 0 f3483 rg_75_33_0_1 (by first | decide | omega) (by first | decide | omega) (by decide)
          have q3499 : h3276 75 33 = h3264 75 33 := jK 0 f3278 rg_75_33_0_1 (by first | decide | omega) (by first | decide | omega) (by decide)
          have q3500 : h3264 75 33 = h3189 75 33 := by rw [← e3266]; exact x_up_i (by first | decide | omega)
          have q3501 : h3189 75 33 = h2 75 33 := jK 0 f3191 rg_75_33_0_1 (by first | decide | omega) (by first | decide | omega) (by decide)
          have q3502 : h2 75 33 = h 75 33 := by rw [← e4]; exact x_up_i (by first | decide | omega)
          have b3503 := jB (e := 33) 0 hJ rg_75_33_0_1 (by first | decide | omega) (by first | decide | omega)
          refine x_getC (np := 80) (x := 737) (f := 33) (q := (h 75 33)) (by decide +kernel) (by decide) (by decide +kernel) (((((q3497.trans q3498).trans q3499).trans q3500).trans q3501).trans q3502) (fun l3504 => ?_)
          refine x_ifz (k := 0) (tg := 85) (np := 83) (by decide +kernel) (by decide) l3504 (fun q3505 => ?_) (fun q3506 => ?_)
          · have q3505 : (h 75 33) = 2147483648 := q3505
            refine x_iload (np := 86) (x := 3) (by decide +kernel) rfl l3274 ?_
            refine x_const (np := 87) (x := 9223372043297226753) (a := 2147483649) (by decide +kernel) (by decide) (by decide) ?_
            refine x_icmp (k := 0) (tg := 95) (np := 90) (by decide +kernel) (by decide) l3274 (by decide) (fun q3507 => ?_) (fun q3508 => ?_)
            · have q3507 : v3273 = 2147483649 := q3507
              refine x_aload (np := 96) (x := 0) (by decide +kernel) rfl (x_nc_le (by decide)) ?_
              have q3509 : h3492 75 28 = 94 := by have z := jB (e := 28) 0 j3493 rg_75_28_0_1 (by decide) (by decide); omega
              refine x_getR (np := 99) (x := 732) (f := 28) (q := 94) (by decide +kernel) (by decide) (by decide +kernel) q3509 ?_
              refine x_iload (np := 100) (x := 2) (by decide +kernel) rfl (by decide) ?_
              refine x_const (np := 101) (x := 9223372034707292159) (a := 2147483647) (by decide +kernel) (by decide) (by decide) ?_
              refine x_ast (np := 102) (x := 0) (kd := 1) (n := 6) (i := 0) (by decide +kernel) (Or.inl rfl) (by decide +kernel) (by first | decide | omega) (by first | decide | omega) (by decide) (by decide) (fun z => absurd z (by decide)) ?_
              have j3511 := jU (e := 0) (v := 2147483647) 0 j3493 rg_94_0_1_6 (by first | decide | omega) (by first | decide | omega) (by first | decide | omega)
              have f3513 := jF (e := 0) (v := 2147483647) 0 f3495 rg_94_0_1_6 (by first | decide | omega) (by first | decide | omega) (by decide)
              have f3514 := jF (e := 0) (v := 2147483647) 0 f3496 rg_94_0_1_6 (by first | decide | omega) (by first | decide | omega) (by decide)
              generalize e3512 : x_up h3492 94 0 2147483647 = h3510 at j3511 f3513 f3514 ⊢
              refine x_aload (np := 103) (x := 0) (by decide +kernel) rfl (x_nc_le (by decide)) ?_
              have q3515 : h3510 75 27 = 93 := by have z := jB (e := 27) 0 j3511 rg_75_27_0_1 (by decide) (by decide); omega
              refine x_getR (np := 106) (x := 731) (f := 27) (q := 93) (by decide +kernel) (by decide) (by decide +kernel) q3515 ?_
              refine x_iload (np := 107) (x := 2) (by decide +kernel) rfl (by decide) ?_
              have q3516 : h3510 93 0 = h3492 93 0 := by rw [← e3512]; exact x_up_k (by decide)
              have q3517 : h3492 93 0 = h3481 93 0 := by rw [← e3494]; exact x_up_k (by decide)
              have q3518 : h3481 93 0 = h3276 93 0 := jK 0 f3483 rg_93_0_1_6 (by first | decide | omega) (by first | decide | omega) (by decide)
              have b3519 := jB (e := 0) 0 j3277 rg_93_0_1_6 (by first | decide | omega) (by first | decide | omega)
              refine x_aldC (np := 108) (x := 0) (n := 6) (i := 0) (q := (h3276 93 0)) (by decide +kernel) (by decide +kernel) (by first | decide | omega) (by first | decide | omega) (by decide) ((q3516.trans q3517).trans q3518) (fun l3520 => ?_)
              refine x_ifz (k := 2) (tg := 122) (np := 111) (by decide +kernel) (by decide) l3520 (fun q3521 => ?_) (fun q3522 => ?_)
              · have q3521 : (h3276 93 0) < 2147483648 := q3521
                refine x_aload (np := 123) (x := 0) (by decide +kernel) rfl (x_nc_le (by decide)) ?_
                have q3523 : h3510 75 28 = 94 := by have z := jB (e := 28) 0 j3511 rg_75_28_0_1 (by decide) (by decide); omega
                refine x_getR (np := 126) (x := 732) (f := 28) (q := 94) (by decide +kernel) (by decide) (by decide +kernel) q3523 ?_
                refine x_iload (np := 127) (x := 2) (by decide +kernel) rfl (by decide) ?_
                have q3524 : h3510 94 0 = 2147483647 := by rw [← e3512]; exact x_up_at
                refine x_aldC (np := 128) (x := 0) (n := 6) (i := 0) (q := 2147483647) (by decide +kernel) (by decide +kernel) (by first | decide | omega) (by first | decide | omega) (by decide) q3524 (fun l3525 => ?_)
                refine x_ifz (k := 3) (tg := 135) (np := 131) (by decide +kernel) (by decide) (by decide) (fun q3526 => ?_) (fun q3527 => ?_)
                · have q3526 : 2147483648 ≤ 2147483647 := q3526
                  exfalso; omega
                have q3527 : ¬ (2147483648 ≤ 2147483647) := q3527
                refine x_const (np := 132) (x := 9223372034707292159) (a := 2147483647) (by decide +kernel) (by decide) (by decide) ?_
                refine x_goto (np := 135) (x := 140) (by decide +kernel) ?_
                refine x_istore (np := 142) (x := 5) (lo' := [x_r 75, iv_c 2147483652, iv_c 2147483648, iv_c v3273, iv_c 2147483649, iv_c 2147483647]) (by decide +kernel) (by decide) (Nat.le_of_ble_eq_true rfl) rfl ?_
                refine x_iload (np := 144) (x := 5) (by decide +kernel) rfl (by decide) ?_
                refine x_ifz (k := 2) (tg := 151) (np := 147) (by decide +kernel) (by decide) (by decide) (fun q3528 => ?_) (fun q3529 => ?_)
                · have q3528 : 2147483647 < 2147483648 := q3528
                  refine x_const (np := 152) (x := 9223372039002259456) (a := 2147483648) (by decide +kernel) (by decide) (by decide) ?_
                  refine x_istore (np := 154) (x := 4) (lo' := [x_r 75, iv_c 2147483652, iv_c 2147483648, iv_c v3273, iv_c 2147483648, iv_c 2147483647]) (by decide +kernel) (by decide) (Nat.le_of_ble_eq_true rfl) rfl ?_
                  refine x_iload (np := 156) (x := 4) (by decide +kernel) rfl (by decide) ?_
                  refine x_ifz (k := 0) (tg := 180) (np := 159) (by decide +kernel) (by decide) (by decide) (fun q3530 => ?_) (fun q3531 => ?_)
                  · have q3530 : 2147483648 = 2147483648 := q3530
                    refine x_iinc (np := 183) (i := 2) (j := 2147483647) (v := 2147483647) (lo' := [x_r 75, iv_c 2147483652, iv_c 2147483647, iv_c v3273, iv_c 2147483648, iv_c 2147483647]) (by decide +kernel) (by decide) (by decide) rfl (by decide) (by first | decide | omega) (by first | decide | omega) rfl ?_
                    refine x_goto (np := 186) (x := 12) (by decide +kernel) ?_
                    have q3532 : h3510 75 30 = h3492 75 30 := by rw [← e3512]; exact x_up_k (by decide)
                    have q3533 : h3492 75 30 = h3481 75 30 := by rw [← e3494]; exact x_up_i (by first | decide | omega)
                    have q3534 : h3481 75 30 = h3276 75 30 := jK 0 f3483 rg_75_30_0_1 (by first | decide | omega) (by first | decide | omega) (by decide)
                    have q3535 : h3276 75 30 = h3264 75 30 := jK 0 f3278 rg_75_30_0_1 (by first | decide | omega) (by first | decide | omega) (by decide)
                    have q3536 : h3264 75 30 = (1 + (h3189 75 30)) := by rw [← e3266]; exact x_up_at
                    exact i3252 (iv_c v3273) (iv_c 2147483647) h3510 (by first | decide | omega) j3511 f3514 (by first | decide | omega)
                  have q3531 : ¬ (2147483648 = 2147483648) := q3531
                  exfalso; omega
                have q3529 : ¬ (2147483647 < 2147483648) := q3529
                exfalso; omega
              have q3522 : ¬ ((h3276 93 0) < 2147483648) := q3522
              refine x_aload (np := 112) (x := 0) (by decide +kernel) rfl (x_nc_le (by decide)) ?_
              refine x_aload (np := 113) (x := 0) (by decide +kernel) rfl (x_nc_le (by decide)) ?_
              have q3537 : h3510 75 27 = 93 := by have z := jB (e := 27) 0 j3511 rg_75_27_0_1 (by decide) (by decide); omega
              refine x_getR (np := 116) (x := 731) (f := 27) (q := 93) (by decide +kernel) (by decide) (by decide +kernel) q3537 ?_
              refine x_iload (np := 117) (x := 2) (by decide +kernel) rfl (by decide) ?_
              have q3538 : h3510 93 0 = h3492 93 0 := by rw [← e3512]; exact x_up_k (by decide)
              have q3539 : h3492 93 0 = h3481 93 0 := by rw [← e3494]; exact x_up_k (by decide)
              have q3540 : h3481 93 0 = h3276 93 0 := jK 0 f3483 rg_93_0_1_6 (by first | decide | omega) (by first | decide | omega) (by decide)
              refine x_aldC (np := 118) (x := 0) (n := 6) (i := 0) (q := (h3276 93 0)) (by decide +kernel) (by decide +kernel) (by first | decide | omega) (by first | decide | omega) (by decide) ((q3538.trans q3539).trans q3540) (fun l3541 => ?_)
              refine x_const (np := 119) (x := 9223372039002259456) (a := 2147483648) (by decide +kernel) (by decide) (by decide) ?_
              refine x_cV (t := 6) (mj := 248) (n := 3) (rc := 12) (ml := 4) (nr := 0) (np := 122) (as := [x_r 75, iv_c (h3276 93 0), iv_c 2147483648]) (rest := []) (lo1 := [x_r 75, iv_c (h3276 93 0), iv_c 2147483648, 147573952589676412928]) (by decide +kernel) (by decide) (by decide +kernel) (x_rb_of (by decide +kernel)) rfl rfl (x_wr (by decide) (x_wi l3520 (x_wi (by decide) x_wn))) x_wn (by decide) rfl (c248_75 j3511  (by first | decide | omega) (by first | decide | omega)) (fun h3545 q3544 => ?_)
              obtain ⟨j3546, f3547⟩ := q3544
              have f3550 := Fr.trans f3513 f3547 (by decide)
              have f3551 := Fr.trans f3514 f3547 (by decide)
              refine x_aload (np := 123) (x := 0) (by decide +kernel) rfl (x_nc_le (by decide)) ?_
              have q3552 : h3545 75 28 = 94 := by have z := jB (e := 28) 0 j3546 rg_75_28_0_1 (by decide) (by decide); omega
              refine x_getR (np := 126) (x := 732) (f := 28) (q := 94) (by decide +kernel) (by decide) (by decide +kernel) q3552 ?_
              refine x_iload (np := 127) (x := 2) (by decide +kernel) rfl (by decide) ?_
              have q3553 : h3545 94 0 = h3510 94 0 := jK 0 f3547 rg_94_0_1_6 (by first | decide | omega) (by first | decide | omega) (by decide)
              have q3554 : h3510 94 0 = 2147483647 := by rw [← e3512]; exact x_up_at
              refine x_aldC (np := 128) (x := 0) (n := 6) (i := 0) (q := 2147483647) (by decide +kernel) (by decide +kernel) (by first | decide | omega) (by first | decide | omega) (by decide) (q3553.trans q3554) (fun l3555 => ?_)
              refine x_ifz (k := 3) (tg := 135) (np := 131) (by decide +kernel) (by decide) (by decide) (fun q3556 => ?_) (fun q3557 => ?_)
              · have q3556 : 2147483648 ≤ 2147483647 := q3556
                exfalso; omega
              have q3557 : ¬ (2147483648 ≤ 2147483647) := q3557
              refine x_const (np := 132) (x := 9223372034707292159) (a := 2147483647) (by decide +kernel) (by decide) (by decide) ?_
              refine x_goto (np := 135) (x := 140) (by decide +kernel) ?_
              refine x_istore (np := 142) (x := 5) (lo' := [x_r 75, iv_c 2147483652, iv_c 2147483648, iv_c v3273, iv_c 2147483649, iv_c 2147483647]) (by decide +kernel) (by decide) (Nat.le_of_ble_eq_true rfl) rfl ?_
              refine x_iload (np := 144) (x := 5) (by decide +kernel) rfl (by decide) ?_
              refine x_ifz (k := 2) (tg := 151) (np := 147) (by decide +kernel) (by decide) (by decide) (fun q3558 => ?_) (fun q3559 => ?_)
              · have q3558 : 2147483647 < 2147483648 := q3558
                refine x_const (np := 152) (x := 9223372039002259456) (a := 2147483648) (by decide +kernel) (by decide) (by decide) ?_
                refine x_istore (np := 154) (x := 4) (lo' := [x_r 75, iv_c 2147483652, iv_c 2147483648, iv_c v3273, iv_c 2147483648, iv_c 2147483647]) (by decide +kernel) (by decide) (Nat.le_of_ble_eq_true rfl) rfl ?_
                refine x_iload (np := 156) (x := 4) (by decide +kernel) rfl (by decide) ?_
                refine x_ifz (k := 0) (tg := 180) (np := 159) (by decide +kernel) (by decide) (by decide) (fun q3560 => ?_) (fun q3561 => ?_)
                · have q3560 : 2147483648 = 2147483648 := q3560
                  refine x_iinc (np := 183) (i := 2) (j := 2147483647) (v := 2147483647) (lo' := [x_r 75, iv_c 2147483652, iv_c 2147483647, iv_c v3273, iv_c 2147483648, iv_c 2147483647]) (by decide +kernel) (by decide) (by decide) rfl (by decide) (by first | decide | omega) (by first | decide | omega) rfl ?_
                  refine x_goto (np := 186) (x := 12) (by decide +kernel) ?_
                  have q3562 : h3545 75 30 = h3510 75 30 := jK 0 f3547 rg_75_30_0_1 (by first | decide | omega) (by first | decide | omega) (by decide)
                  have q3563 : h3510 75 30 = h3492 75 30 := by rw [← e3512]; exact x_up_k (by decide)
                  have q3564 : h3492 75 30 = h3481 75 30 := by rw [← e3494]; exact x_up_i (by first | decide | omega)
                  have q3565 : h3481 75 30 = h3276 75 30 := jK 0 f3483 rg_75_30_0_1 (by first | decide | omega) (by first | decide | omega) (by decide)
                  have q3566 : h3276 75 30 = h3264 75 30 := jK 0 f3278 rg_75_30_0_1 (by first | decide | omega) (by first | decide | omega) (by decide)
                  have q3567 : h3264 75 30 = (1 + (h3189 75 30)) := by rw [← e3266]; exact x_up_at
                  exact i3252 (iv_c v3273) (iv_c 2147483647) h3545 (by first | decide | omega) j3546 f3551 (by first | decide | omega)
                have q3561 : ¬ (2147483648 = 2147483648) := q3561
                exfalso; omega
              have q3559 : ¬ (2147483647 < 2147483648) := q3559
              exfalso; omega
            have q3508 : ¬ (v3273 = 2147483649) := q3508
            exfalso; omega
          have q3506 : ¬ ((h 75 33) = 2147483648) := q3506
          refine x_const (np := 84) (x := 9223372043297226753) (a := 2147483649) (by decide +kernel) (by decide) (by decide) ?_
          have q3568 : h3492 75 30 = h3481 75 30 := by rw [← e3494]; exact x_up_i (by first | decide | omega)
          have q3569 : h3481 75 30 = h3276 75 30 := jK 0 f3483 rg_75_30_0_1 (by first | decide | omega) (by first | decide | omega) (by decide)
          have q3570 : h3276 75 30 = h3264 75 30 := jK 0 f3278 rg_75_30_0_1 (by first | decide | omega) (by first | decide | omega) (by decide)
          have q3571 : h3264 75 30 = (1 + (h3189 75 30)) := by rw [← e3266]; exact x_up_at
          refine x_retI (np := 85) (x := 0) (by decide +kernel) (by decide) (Or.inr ⟨by decide +kernel, by first | decide | omega, by first | decide | omega⟩) ⟨_, rfl, (by decide), ?_⟩
          exact ⟨j3493, f3495, (by first | decide | omega), (fun z => by first | decide | omega)⟩
        have q3272 : ¬ ((1 + (h3189 75 30)) ≤ 2147503648) := q3272
        refine x_const (np := 42) (x := 9223372039002259456) (a := 2147483648) (by decide +kernel) (by decide) (by decide) ?_
        have q3572 : h3264 75 30 = (1 + (h3189 75 30)) := by rw [← e3266]; exact x_up_at
        refine x_retI (np := 43) (x := 0) (by decide +kernel) (by decide) (Or.inr ⟨by decide +kernel, by first | decide | omega, by first | decide | omega⟩) ⟨_, rfl, (by decide), ?_⟩
        exact ⟨j3265, f3267, (by first | decide | omega), (fun z => by first | decide | omega)⟩
      · intro w3193 w3194 h3195 q3573 j3198 f3197 b3196
        have f3574 := Fr.trans f5 f3197 (by decide)
        refine x_iload (np := 13) (x := 2) (by decide +kernel) rfl (by decide) ?_
        refine x_ifz (k := 2) (tg := 186) (np := 16) (by decide +kernel) (by decide) (by decide) (fun q3575 => ?_) (fun q3576 => ?_)
        · have q3575 : 2147483649 < 2147483648 := q3575
          exfalso; omega
        have q3576 : ¬ (2147483649 < 2147483648) := q3576
        refine x_iload (np := 18) (x := 4) (by decide +kernel) rfl (by decide) ?_
        refine x_ifz (k := 0) (tg := 102) (np := 21) (by decide +kernel) (by decide) (by decide) (fun q3577 => ?_) (fun q3578 => ?_)
        · have q3577 : 2147483649 = 2147483648 := q3577
          exfalso; omega
        have q3578 : ¬ (2147483649 = 2147483648) := q3578
        refine x_aload (np := 22) (x := 0) (by decide +kernel) rfl (x_nc_le (by decide)) ?_
        refine x_dup (np := 23) (x := 0) (by decide +kernel) (by have z := x_nc_le (k := 75) (by decide); unfold x_r; omega) ?_
        refine x_getC (np := 26) (x := 734) (f := 30) (q := (h3195 75 30)) (by decide +kernel) (by decide) (by decide +kernel) rfl (fun l3579 => ?_)
        refine x_const (np := 27) (x := 9223372043297226753) (a := 2147483649) (by decide +kernel) (by decide) (by decide) ?_
        refine x_iadd (np := 28) (x := 0) (v := (1 + (h3195 75 30))) (by decide +kernel) l3579 (by decide) (by first | decide | omega) (by first | decide | omega) ?_
        refine x_putI (np := 31) (x := 734) (f := 30) (by decide +kernel) (by decide +kernel) (by first | decide | omega) (Or.inl (by decide)) ?_
        have j3581 := jU (e := 30) (v := (1 + (h3195 75 30))) 0 j3198 rg_75_30_0_1 (by first | decide | omega) (by first | decide | omega) (by first | decide | omega)
        have f3583 := jF (e := 30) (v := (1 + (h3195 75 30))) 0 f3574 rg_75_30_0_1 (by first | decide | omega) (by first | decide | omega) (by decide)
        have f3584 := jF (e := 30) (v := (1 + (h3195 75 30))) 0 f3197 rg_75_30_0_1 (by first | decide | omega) (by first | decide | omega) (by decide)
        generalize e3582 : x_up h3195 75 30 (1 + (h3195 75 30)) = h3580 at j3581 f3583 f3584 ⊢
        refine x_aload (np := 32) (x := 0) (by decide +kernel) rfl (x_nc_le (by decide)) ?_
        have q3585 : h3580 75 30 = (1 + (h3195 75 30)) := by rw [← e3582]; exact x_up_at
        refine x_getC (np := 35) (x := 734) (f := 30) (q := (1 + (h3195 75 30))) (by decide +kernel) (by decide) (by decide +kernel) q3585 (fun l3586 => ?_)
        refine x_const (np := 38) (x := 9223457938348199456) (a := 2147503648) (by decide +kernel) (by decide) (by decide) ?_
        refine x_icmp (k := 5) (tg := 43) (np := 41) (by decide +kernel) (by decide) (by first | decide | omega) (by decide) (fun q3587 => ?_) (fun q3588 => ?_)
        · have q3587 : (1 + (h3195 75 30)) ≤ 2147503648 := q3587
          refine x_aload (np := 44) (x := 0) (by decide +kernel) rfl (x_nc_le (by decide)) ?_
          refine x_iload (np := 45) (x := 2) (by decide +kernel) rfl (by decide) ?_
          refine x_cI (t := 6) (mj := 254) (n := 2) (rc := 12) (ml := 4) (nr := 0) (np := 48) (as := [x_r 75, iv_c 2147483649]) (rest := []) (lo1 := [x_r 75, iv_c 2147483649, 147573952589676412928, 147573952589676412928]) (by decide +kernel) (by decide) (by decide +kernel) (x_rb_of (by decide +kernel)) rfl rfl (x_wr (by decide) (x_wi (by decide) x_wn)) x_wn (by decide) rfl (c254_75 j3581  (by first | decide | omega)) (fun v3589 h3592 l3590 q3591 => ?_)
          obtain ⟨j3593, f3594, b3595⟩ := q3591
          have f3596 := Fr.trans f3583 f3594 (by decide)
          have f3597 := Fr.trans f3584 f3594 (by decide)
          refine x_istore (np := 49) (x := 3) (lo' := [x_r 75, iv_c 2147483652, iv_c 2147483649, iv_c v3589, iv_c 2147483649, w3194]) (by decide +kernel) l3590 (Nat.le_of_ble_eq_true rfl) rfl ?_
          refine x_iload (np := 50) (x := 3) (by decide +kernel) rfl l3590 ?_
          refine x_const (np := 51) (x := 9223372043297226753) (a := 2147483649) (by decide +kernel) (by decide) (by decide) ?_
          refine x_icmp (k := 1) (tg := 85) (np := 54) (by decide +kernel) (by decide) l3590 (by decide) (fun q3598 => ?_) (fun q3599 => ?_)
          · have q3598 : v3589 ≠ 2147483649 := q3598
            refine x_iload (np := 86) (x := 3) (by decide +kernel) rfl l3590 ?_
            refine x_const (np := 87) (x := 9223372043297226753) (a := 2147483649) (by decide +kernel) (by decide) (by decide) ?_
            refine x_icmp (k := 0) (tg := 95) (np := 90) (by decide +kernel) (by decide) l3590 (by decide) (fun q3600 => ?_) (fun q3601 => ?_)
            · have q3600 : v3589 = 2147483649 := q3600
              exfalso; omega
            have q3601 : ¬ (v3589 = 2147483649) := q3601
            refine x_iload (np := 91) (x := 2) (by decide +kernel) rfl (by decide) ?_
            refine x_iload (np := 92) (x := 1) (by decide +kernel) rfl (by decide) ?_
            refine x_icmp (k := 1) (tg := 102) (np := 95) (by decide +kernel) (by decide) (by decide) (by decide) (fun q3602 => ?_) (fun q3603 => ?_)
            · have q3602 : 2147483649 ≠ 2147483652 := q3602
              refine x_aload (np := 103) (x := 0) (by decide +kernel) rfl (x_nc_le (by decide)) ?_
              have q3604 : h3592 75 27 = 93 := by have z := jB (e := 27) 0 j3593 rg_75_27_0_1 (by decide) (by decide); omega
              refine x_getR (np := 106) (x := 731) (f := 27) (q := 93) (by decide +kernel) (by decide) (by decide +kernel) q3604 ?_
              refine x_iload (np := 107) (x := 2) (by decide +kernel) rfl (by decide) ?_
              have b3605 := jB (e := 1) 1 j3593 rg_93_0_1_6 (by first | decide | omega) (by first | decide | omega)
              refine x_aldC (np := 108) (x := 0) (n := 6) (i := 1) (q := (h3592 93 1)) (by decide +kernel) (by decide +kernel) (by first | decide | omega) (by first | decide | omega) (by decide) rfl (fun l3606 => ?_)
              refine x_ifz (k := 2) (tg := 122) (np := 111) (by decide +kernel) (by decide) l3606 (fun q3607 => ?_) (fun q3608 => ?_)
              · have q3607 : (h3592 93 1) < 2147483648 := q3607
                refine x_aload (np := 123) (x := 0) (by decide +kernel) rfl (x_nc_le (by decide)) ?_
                have q3609 : h3592 75 28 = 94 := by have z := jB (e := 28) 0 j3593 rg_75_28_0_1 (by decide) (by decide); omega
                refine x_getR (np := 126) (x := 732) (f := 28) (q := 94) (by decide +kernel) (by decide) (by decide +kernel) q3609 ?_
                refine x_iload (np := 127) (x := 2) (by decide +kernel) rfl (by decide) ?_
                have b3610 := jB (e := 1) 1 j3593 rg_94_0_1_6 (by first | decide | omega) (by first | decide | omega)
                refine x_aldC (np := 128) (x := 0) (n := 6) (i := 1) (q := (h3592 94 1)) (by decide +kernel) (by decide +kernel) (by first | decide | omega) (by first | decide | omega) (by decide) rfl (fun l3611 => ?_)
                refine x_ifz (k := 3) (tg := 135) (np := 131) (by decide +kernel) (by decide) l3611 (fun q3612 => ?_) (fun q3613 => ?_)
                · have q3612 : 2147483648 ≤ (h3592 94 1) := q3612
                  refine x_aload (np := 136) (x := 0) (by decide +kernel) rfl (x_nc_le (by decide)) ?_
                  refine x_iload (np := 137) (x := 2) (by decide +kernel) rfl (by decide) ?_
                  refine x_cP (t := 6) (mj := 257) (n := 2) (rc := 12) (ml := 3) (nr := 0) (np := 140) (as := [x_r 75, iv_c 2147483649]) (rest := []) (lo1 := [x_r 75, iv_c 2147483649, 147573952589676412928]) (by decide +kernel) (by decide) (by decide +kernel) (x_rb_of (by decide +kernel)) rfl rfl (x_wr (by decide) (x_wi (by decide) x_wn)) x_wn (by decide) rfl (c257_75_c1 j3593   (by first | decide | omega)) (fun v3614 l3615 q3616 => ?_)
                  refine x_istore (np := 142) (x := 5) (lo' := [x_r 75, iv_c 2147483652, iv_c 2147483649, iv_c v3589, iv_c 2147483649, iv_c v3614]) (by decide +kernel) l3615 (Nat.le_of_ble_eq_true rfl) rfl ?_
                  refine x_iload (np := 144) (x := 5) (by decide +kernel) rfl l3615 ?_
                  refine x_ifz (k := 2) (tg := 151) (np := 147) (by decide +kernel) (by decide) l3615 (fun q3617 => ?_) (fun q3618 => ?_)
                  · have q3617 : v3614 < 2147483648 := q3617
                    refine x_const (np := 152) (x := 9223372039002259456) (a := 2147483648) (by decide +kernel) (by decide) (by decide) ?_
                    refine x_istore (np := 154) (x := 4) (lo' := [x_r 75, iv_c 2147483652, iv_c 2147483649, iv_c v3589, iv_c 2147483648, iv_c v3614]) (by decide +kernel) (by decide) (Nat.le_of_ble_eq_true rfl) rfl ?_
                    refine x_iload (np := 156) (x := 4) (by decide +kernel) rfl (by decide) ?_
                    refine x_ifz (k := 0) (tg := 180) (np := 159) (by decide +kernel) (by decide) (by decide) (fun q3619 => ?_) (fun q3620 => ?_)
                    · have q3619 : 2147483648 = 2147483648 := q3619
                      refine x_iinc (np := 183) (i := 2) (j := 2147483647) (v := 2147483648) (lo' := [x_r 75, iv_c 2147483652, iv_c 2147483648, iv_c v3589, iv_c 2147483648, iv_c v3614]) (by decide +kernel) (by decide) (by decide) rfl (by decide) (by first | decide | omega) (by first | decide | omega) rfl ?_
                      refine x_goto (np := 186) (x := 12) (by decide +kernel) ?_
                      have q3621 : h3592 75 30 = h3580 75 30 := jK 0 f3594 rg_75_30_0_1 (by first | decide | omega) (by first | decide | omega) (by decide)
                      have q3622 : h3580 75 30 = (1 + (h3195 75 30)) := by rw [← e3582]; exact x_up_at
                      exact i3253 (iv_c v3589) (iv_c v3614) h3592 (by first | decide | omega) j3593 f3597 (by first | decide | omega)
                    have q3620 : ¬ (2147483648 = 2147483648) := q3620
                    exfalso; omega
                  have q3618 : ¬ (v3614 < 2147483648) := q3618
                  refine x_const (np := 148) (x := 9223372043297226753) (a := 2147483649) (by decide +kernel) (by decide) (by decide) ?_
                  refine x_goto (np := 151) (x := 152) (by decide +kernel) ?_
                  refine x_istore (np := 154) (x := 4) (lo' := [x_r 75, iv_c 2147483652, iv_c 2147483649, iv_c v3589, iv_c 2147483649, iv_c v3614]) (by decide +kernel) (by decide) (Nat.le_of_ble_eq_true rfl) rfl ?_
                  refine x_iload (np := 156) (x := 4) (by decide +kernel) rfl (by decide) ?_
                  refine x_ifz (k := 0) (tg := 180) (np := 159) (by decide +kernel) (by decide) (by decide) (fun q3623 => ?_) (fun q3624 => ?_)
                  · have q3623 : 2147483649 = 2147483648 := q3623
                    exfalso; omega
                  have q3624 : ¬ (2147483649 = 2147483648) := q3624
                  refine x_aload (np := 160) (x := 0) (by decide +kernel) rfl (x_nc_le (by decide)) ?_
                  have q3625 : h3592 75 27 = 93 := by have z := jB (e := 27) 0 j3593 rg_75_27_0_1 (by decide) (by decide); omega
                  refine x_getR (np := 163) (x := 731) (f := 27) (q := 93) (by decide +kernel) (by decide) (by decide +kernel) q3625 ?_
                  refine x_iload (np := 164) (x := 2) (by decide +kernel) rfl (by decide) ?_
                  refine x_iload (np := 166) (x := 5) (by decide +kernel) rfl l3615 ?_
                  refine x_ast (np := 167) (x := 0) (kd := 1) (n := 6) (i := 1) (by decide +kernel) (Or.inl rfl) (by decide +kernel) (by first | decide | omega) (by first | decide | omega) (by decide) l3615 (fun z => absurd z (by decide)) ?_
                  have j3627 := jU (e := 1) (v := v3614) 1 j3593 rg_93_0_1_6 (by first | decide | omega) (by first | decide | omega) (by first | decide | omega)
                  have f3629 := jF (e := 1) (v := v3614) 1 f3596 rg_93_0_1_6 (by first | decide | omega) (by first | decide | omega) (by decide)
                  have f3630 := jF (e := 1) (v := v3614) 1 f3597 rg_93_0_1_6 (by first | decide | omega) (by first | decide | omega) (by decide)
                  generalize e3628 : x_up h3592 93 1 v3614 = h3626 at j3627 f3629 f3630 ⊢
                  refine x_aload (np := 168) (x := 0) (by decide +kernel) rfl (x_nc_le (by decide)) ?_
                  refine x_iload (np := 170) (x := 5) (by decide +kernel) rfl l3615 ?_
                  refine x_const (np := 171) (x := 9223372043297226753) (a := 2147483649) (by decide +kernel) (by decide) (by decide) ?_
                  refine x_cV (t := 6) (mj := 248) (n := 3) (rc := 12) (ml := 4) (nr := 0) (np := 174) (as := [x_r 75, iv_c v3614, iv_c 2147483649]) (rest := []) (lo1 := [x_r 75, iv_c v3614, iv_c 2147483649, 147573952589676412928]) (by decide +kernel) (by decide) (by decide +kernel) (x_rb_of (by decide +kernel)) rfl rfl (x_wr (by decide) (x_wi l3615 (x_wi (by decide) x_wn))) x_wn (by decide) rfl (c248_75 j3627  (by first | decide | omega) (by first | decide | omega)) (fun h3634 q3633 => ?_)
                  obtain ⟨j3635, f3636⟩ := q3633
                  have f3639 := Fr.trans f3629 f3636 (by decide)
                  have f3640 := Fr.trans f3630 f3636 (by decide)
                  refine x_iinc (np := 177) (i := 2) (j := 2147483649) (v := 2147483650) (lo' := [x_r 75, iv_c 2147483652, iv_c 2147483650, iv_c v3589, iv_c 2147483649, iv_c v3614]) (by decide +kernel) (by decide) (by decide) rfl (by decide) (by first | decide | omega) (by first | decide | omega) rfl ?_
                  refine x_goto (np := 180) (x := 183) (by decide +kernel) ?_
                  refine x_goto (np := 186) (x := 12) (by decide +kernel) ?_
                  have q3641 : h3634 75 30 = h3626 75 30 := jK 0 f3636 rg_75_30_0_1 (by first | decide | omega) (by first | decide | omega) (by decide)
                  have q3642 : h3626 75 30 = h3592 75 30 := by rw [← e3628]; exact x_up_k (by decide)
                  have q3643 : h3592 75 30 = h3580 75 30 := jK 0 f3594 rg_75_30_0_1 (by first | decide | omega) (by first | decide | omega) (by decide)
                  have q3644 : h3580 75 30 = (1 + (h3195 75 30)) := by rw [← e3582]; exact x_up_at
                  exact i3249 (iv_c v3589) (iv_c v3614) h3634 (by first | decide | omega) j3635 f3640 (by first | decide | omega)
                have q3613 : ¬ (2147483648 ≤ (h3592 94 1)) := q3613
                refine x_const (np := 132) (x := 9223372034707292159) (a := 2147483647) (by decide +kernel) (by decide) (by decide) ?_
                refine x_goto (np := 135) (x := 140) (by decide +kernel) ?_
                refine x_istore (np := 142) (x := 5) (lo' := [x_r 75, iv_c 2147483652, iv_c 2147483649, iv_c v3589, iv_c 2147483649, iv_c 2147483647]) (by decide +kernel) (by decide) (Nat.le_of_ble_eq_true rfl) rfl ?_
                refine x_iload (np := 144) (x := 5) (by decide +kernel) rfl (by decide) ?_
                refine x_ifz (k := 2) (tg := 151) (np := 147) (by decide +kernel) (by decide) (by decide) (fun q3645 => ?_) (fun q3646 => ?_)
                · have q3645 : 2147483647 < 2147483648 := q3645
                  refine x_const (np := 152) (x := 9223372039002259456) (a := 2147483648) (by decide +kernel) (by decide) (by decide) ?_
                  refine x_istore (np := 154) (x := 4) (lo' := [x_r 75, iv_c 2147483652, iv_c 2147483649, iv_c v3589, iv_c 2147483648, iv_c 2147483647]) (by decide +kernel) (by decide) (Nat.le_of_ble_eq_true rfl) rfl ?_
                  refine x_iload (np := 156) (x := 4) (by decide +kernel) rfl (by decide) ?_
                  refine x_ifz (k := 0) (tg := 180) (np := 159) (by decide +kernel) (by decide) (by decide) (fun q3647 => ?_) (fun q3648 => ?_)
                  · have q3647 : 2147483648 = 2147483648 := q3647
                    refine x_iinc (np := 183) (i := 2) (j := 2147483647) (v := 2147483648) (lo' := [x_r 75, iv_c 2147483652, iv_c 2147483648, iv_c v3589, iv_c 2147483648, iv_c 2147483647]) (by decide +kernel) (by decide) (by decide) rfl (by decide) (by first | decide | omega) (by first | decide | omega) rfl ?_
                    refine x_goto (np := 186) (x := 12) (by decide +kernel) ?_
                    have q3649 : h3592 75 30 = h3580 75 30 := jK 0 f3594 rg_75_30_0_1 (by first | decide | omega) (by first | decide | omega) (by decide)
                    have q3650 : h3580 75 30 = (1 + (h3195 75 30)) := by rw [← e3582]; exact x_up_at
                    exact i3253 (iv_c v3589) (iv_c 2147483647) h3592 (by first | decide | omega) j3593 f3597 (by first | decide | omega)
                  have q3648 : ¬ (2147483648 = 2147483648) := q3648
                  exfalso; omega
                have q3646 : ¬ (2147483647 < 2147483648) := q3646
                exfalso; omega
              have q3608 : ¬ ((h3592 93 1) < 2147483648) := q3608
              refine x_aload (np := 112) (x := 0) (by decide +kernel) rfl (x_nc_le (by decide)) ?_
              refine x_aload (np := 113) (x := 0) (by decide +kernel) rfl (x_nc_le (by decide)) ?_
              have q3651 : h3592 75 27 = 93 := by have z := jB (e := 27) 0 j3593 rg_75_27_0_1 (by decide) (by decide); omega
              refine x_getR (np := 116) (x := 731) (f := 27) (q := 93) (by decide +kernel) (by decide) (by decide +kernel) q3651 ?_
              refine x_iload (np := 117) (x := 2) (by decide +kernel) rfl (by decide) ?_
              refine x_aldC (np := 118) (x := 0) (n := 6) (i := 1) (q := (h3592 93 1)) (by decide +kernel) (by decide +kernel) (by first | decide | omega) (by first | decide | omega) (by decide) rfl (fun l3652 => ?_)
              refine x_const (np := 119) (x := 9223372039002259456) (a := 2147483648) (by decide +kernel) (by decide) (by decide) ?_
              refine x_cV (t := 6) (mj := 248) (n := 3) (rc := 12) (ml := 4) (nr := 0) (np := 122) (as := [x_r 75, iv_c (h3592 93 1), iv_c 2147483648]) (rest := []) (lo1 := [x_r 75, iv_c (h3592 93 1), iv_c 2147483648, 147573952589676412928]) (by decide +kernel) (by decide) (by decide +kernel) (x_rb_of (by decide +kernel)) rfl rfl (x_wr (by decide) (x_wi l3606 (x_wi (by decide) x_wn))) x_wn (by decide) rfl (c248_75 j3593  (by first | decide | omega) (by first | decide | omega)) (fun h3656 q3655 => ?_)
              obtain ⟨j3657, f3658⟩ := q3655
              have f3661 := Fr.trans f3596 f3658 (by decide)
              have f3662 := Fr.trans f3597 f3658 (by decide)
              refine x_aload (np := 123) (x := 0) (by decide +kernel) rfl (x_nc_le (by decide)) ?_
              have q3663 : h3656 75 28 = 94 := by have z := jB (e := 28) 0 j3657 rg_75_28_0_1 (by decide) (by decide); omega
              refine x_getR (np := 126) (x := 732) (f := 28) (q := 94) (by decide +kernel) (by decide) (by decide +kernel) q3663 ?_
              refine x_iload (np := 127) (x := 2) (by decide +kernel) rfl (by decide) ?_
              have q3664 : h3656 94 1 = h3592 94 1 := jK 1 f3658 rg_94_0_1_6 (by first | decide | omega) (by first | decide | omega) (by decide)
              have b3665 := jB (e := 1) 1 j3593 rg_94_0_1_6 (by first | decide | omega) (by first | decide | omega)
              refine x_aldC (np := 128) (x := 0) (n := 6) (i := 1) (q := (h3592 94 1)) (by decide +kernel) (by decide +kernel) (by first | decide | omega) (by first | decide | omega) (by decide) q3664 (fun l3666 => ?_)
              refine x_ifz (k := 3) (tg := 135) (np := 131) (by decide +kernel) (by decide) l3666 (fun q3667 => ?_) (fun q3668 => ?_)
              · have q3667 : 2147483648 ≤ (h3592 94 1) := q3667
                refine x_aload (np := 136) (x := 0) (by decide +kernel) rfl (x_nc_le (by decide)) ?_
                refine x_iload (np := 137) (x := 2) (by decide +kernel) rfl (by decide) ?_
                have q3669 : h3656 94 1 = h3592 94 1 := jK 1 f3658 rg_94_0_1_6 (by first | decide | omega) (by first | decide | omega) (by decide)
                refine x_cP (t := 6) (mj := 257) (n := 2) (rc := 12) (ml := 3) (nr := 0) (np := 140) (as := [x_r 75, iv_c 2147483649]) (rest := []) (lo1 := [x_r 75, iv_c 2147483649, 147573952589676412928]) (by decide +kernel) (by decide) (by decide +kernel) (x_rb_of (by decide +kernel)) rfl rfl (x_wr (by decide) (x_wi (by decide) x_wn)) x_wn (by decide) rfl (c257_75_c1 j3657   (by first | decide | omega)) (fun v3670 l3671 q3672 => ?_)
                refine x_istore (np := 142) (x := 5) (lo' := [x_r 75, iv_c 2147483652, iv_c 2147483649, iv_c v3589, iv_c 2147483649, iv_c v3670]) (by decide +kernel) l3671 (Nat.le_of_ble_eq_true rfl) rfl ?_
                refine x_iload (np := 144) (x := 5) (by decide +kernel) rfl l3671 ?_
                refine x_ifz (k := 2) (tg := 151) (np := 147) (by decide +kernel) (by decide) l3671 (fun q3673 => ?_) (fun q3674 => ?_)
                · have q3673 : v3670 < 2147483648 := q3673
                  refine x_const (np := 152) (x := 9223372039002259456) (a := 2147483648) (by decide +kernel) (by decide) (by decide) ?_
                  refine x_istore (np := 154) (x := 4) (lo' := [x_r 75, iv_c 2147483652, iv_c 2147483649, iv_c v3589, iv_c 2147483648, iv_c v3670]) (by decide +kernel) (by decide) (Nat.le_of_ble_eq_true rfl) rfl ?_
                  refine x_iload (np := 156) (x := 4) (by decide +kernel) rfl (by decide) ?_
                  refine x_ifz (k := 0) (tg := 180) (np := 159) (by decide +kernel) (by decide) (by decide) (fun q3675 => ?_) (fun q3676 => ?_)
                  · have q3675 : 2147483648 = 2147483648 := q3675
                    refine x_iinc (np := 183) (i := 2) (j := 2147483647) (v := 2147483648) (lo' := [x_r 75, iv_c 2147483652, iv_c 2147483648, iv_c v3589, iv_c 2147483648, iv_c v3670]) (by decide +kernel) (by decide) (by decide) rfl (by decide) (by first | decide | omega) (by first | decide | omega) rfl ?_
                    refine x_goto (np := 186) (x := 12) (by decide +kernel) ?_
                    have q3677 : h3656 75 30 = h3592 75 30 := jK 0 f3658 rg_75_30_0_1 (by first | decide | omega) (by first | decide | omega) (by decide)
                    have q3678 : h3592 75 30 = h3580 75 30 := jK 0 f3594 rg_75_30_0_1 (by first | decide | omega) (by first | decide | omega) (by decide)
                    have q3679 : h3580 75 30 = (1 + (h3195 75 30)) := by rw [← e3582]; exact x_up_at
                    exact i3253 (iv_c v3589) (iv_c v3670) h3656 (by first | decide | omega) j3657 f3662 (by first | decide | omega)
                  have q3676 : ¬ (2147483648 = 2147483648) := q3676
                  exfalso; omega
                have q3674 : ¬ (v3670 < 2147483648) := q3674
                refine x_const (np := 148) (x := 9223372043297226753) (a := 2147483649) (by decide +kernel) (by decide) (by decide) ?_
                refine x_goto (np := 151) (x := 152) (by decide +kernel) ?_
                refine x_istore (np := 154) (x := 4) (lo' := [x_r 75, iv_c 2147483652, iv_c 2147483649, iv_c v3589, iv_c 2147483649, iv_c v3670]) (by decide +kernel) (by decide) (Nat.le_of_ble_eq_true rfl) rfl ?_
                refine x_iload (np := 156) (x := 4) (by decide +kernel) rfl (by decide) ?_
                refine x_ifz (k := 0) (tg := 180) (np := 159) (by decide +kernel) (by decide) (by decide) (fun q3680 => ?_) (fun q3681 => ?_)
                · have q3680 : 2147483649 = 2147483648 := q3680
                  exfalso; omega
                have q3681 : ¬ (2147483649 = 2147483648) := q3681
                refine x_aload (np := 160) (x := 0) (by decide +kernel) rfl (x_nc_le (by decide)) ?_
                have q3682 : h3656 75 27 = 93 := by have z := jB (e := 27) 0 j3657 rg_75_27_0_1 (by decide) (by decide); omega
                refine x_getR (np := 163) (x := 731) (f := 27) (q := 93) (by decide +kernel) (by decide) (by decide +kernel) q3682 ?_
                refine x_iload (np := 164) (x := 2) (by decide +kernel) rfl (by decide) ?_
                refine x_iload (np := 166) (x := 5) (by decide +kernel) rfl l3671 ?_
                refine x_ast (np := 167) (x := 0) (kd := 1) (n := 6) (i := 1) (by decide +kernel) (Or.inl rfl) (by decide +kernel) (by first | decide | omega) (by first | decide | omega) (by decide) l3671 (fun z => absurd z (by decide)) ?_
                have j3684 := jU (e := 1) (v := v3670) 1 j3657 rg_93_0_1_6 (by first | decide | omega) (by first | decide | omega) (by first | decide | omega)
                have f3686 := jF (e := 1) (v := v3670) 1 f3661 rg_93_0_1_6 (by first | decide | omega) (by first | decide | omega) (by decide)
                have f3687 := jF (e := 1) (v := v3670) 1 f3662 rg_93_0_1_6 (by first | decide | omega) (by first | decide | omega) (by decide)
                generalize e3685 : x_up h3656 93 1 v3670 = h3683 at j3684 f3686 f3687 ⊢
                refine x_aload (np := 168) (x := 0) (by decide +kernel) rfl (x_nc_le (by decide)) ?_
                refine x_iload (np := 170) (x := 5) (by decide +kernel) rfl l3671 ?_
                refine x_const (np := 171) (x := 9223372043297226753) (a := 2147483649) (by decide +kernel) (by decide) (by decide) ?_
                refine x_cV (t := 6) (mj := 248) (n := 3) (rc := 12) (ml := 4) (nr := 0) (np := 174) (as := [x_r 75, iv_c v3670, iv_c 2147483649]) (rest := []) (lo1 := [x_r 75, iv_c v3670, iv_c 2147483649, 147573952589676412928]) (by decide +kernel) (by decide) (by decide +kernel) (x_rb_of (by decide +kernel)) rfl rfl (x_wr (by decide) (x_wi l3671 (x_wi (by decide) x_wn))) x_wn (by decide) rfl (c248_75 j3684  (by first | decide | omega) (by first | decide | omega)) (fun h3691 q3690 => ?_)
                obtain ⟨j3692, f3693⟩ := q3690
                have f3696 := Fr.trans f3686 f3693 (by decide)
                have f3697 := Fr.trans f3687 f3693 (by decide)
                refine x_iinc (np := 177) (i := 2) (j := 2147483649) (v := 2147483650) (lo' := [x_r 75, iv_c 2147483652, iv_c 2147483650, iv_c v3589, iv_c 2147483649, iv_c v3670]) (by decide +kernel) (by decide) (by decide) rfl (by decide) (by first | decide | omega) (by first | decide | omega) rfl ?_
                refine x_goto (np := 180) (x := 183) (by decide +kernel) ?_
                refine x_goto (np := 186) (x := 12) (by decide +kernel) ?_
                have q3698 : h3691 75 30 = h3683 75 30 := jK 0 f3693 rg_75_30_0_1 (by first | decide | omega) (by first | decide | omega) (by decide)
                have q3699 : h3683 75 30 = h3656 75 30 := by rw [← e3685]; exact x_up_k (by decide)
                have q3700 : h3656 75 30 = h3592 75 30 := jK 0 f3658 rg_75_30_0_1 (by first | decide | omega) (by first | decide | omega) (by decide)
                have q3701 : h3592 75 30 = h3580 75 30 := jK 0 f3594 rg_75_30_0_1 (by first | decide | omega) (by first | decide | omega) (by decide)
                have q3702 : h3580 75 30 = (1 + (h3195 75 30)) := by rw [← e3582]; exact x_up_at
                exact i3249 (iv_c v3589) (iv_c v3670) h3691 (by first | decide | omega) j3692 f3697 (by first | decide | omega)
              have q3668 : ¬ (2147483648 ≤ (h3592 94 1)) := q3668
              refine x_const (np := 132) (x := 9223372034707292159) (a := 2147483647) (by decide +kernel) (by decide) (by decide) ?_
              refine x_goto (np := 135) (x := 140) (by decide +kernel) ?_
              refine x_istore (np := 142) (x := 5) (lo' := [x_r 75, iv_c 2147483652, iv_c 2147483649, iv_c v3589, iv_c 2147483649, iv_c 2147483647]) (by decide +kernel) (by decide) (Nat.le_of_ble_eq_true rfl) rfl ?_
              refine x_iload (np := 144) (x := 5) (by decide +kernel) rfl (by decide) ?_
              refine x_ifz (k := 2) (tg := 151) (np := 147) (by decide +kernel) (by decide) (by decide) (fun q3703 => ?_) (fun q3704 => ?_)
              · have q3703 : 2147483647 < 2147483648 := q3703
                refine x_const (np := 152) (x := 9223372039002259456) (a := 2147483648) (by decide +kernel) (by decide) (by decide) ?_
                refine x_istore (np := 154) (x := 4) (lo' := [x_r 75, iv_c 2147483652, iv_c 2147483649, iv_c v3589, iv_c 2147483648, iv_c 2147483647]) (by decide +kernel) (by decide) (Nat.le_of_ble_eq_true rfl) rfl ?_
                refine x_iload (np := 156) (x := 4) (by decide +kernel) rfl (by decide) ?_
                refine x_ifz (k := 0) (tg := 180) (np := 159) (by decide +kernel) (by decide) (by decide) (fun q3705 => ?_) (fun q3706 => ?_)
                · have q3705 : 2147483648 = 2147483648 := q3705
                  refine x_iinc (np := 183) (i := 2) (j := 2147483647) (v := 2147483648) (lo' := [x_r 75, iv_c 2147483652, iv_c 2147483648, iv_c v3589, iv_c 2147483648, iv_c 2147483647]) (by decide +kernel) (by decide) (by decide) rfl (by decide) (by first | decide | omega) (by first | decide | omega) rfl ?_
                  refine x_goto (np := 186) (x := 12) (by decide +kernel) ?_
                  have q3707 : h3656 75 30 = h3592 75 30 := jK 0 f3658 rg_75_30_0_1 (by first | decide | omega) (by first | decide | omega) (by decide)
                  have q3708 : h3592 75 30 = h3580 75 30 := jK 0 f3594 rg_75_30_0_1 (by first | decide | omega) (by first | decide | omega) (by decide)
                  have q3709 : h3580 75 30 = (1 + (h3195 75 30)) := by rw [← e3582]; exact x_up_at
                  exact i3253 (iv_c v3589) (iv_c 2147483647) h3656 (by first | decide | omega) j3657 f3662 (by first | decide | omega)
                have q3706 : ¬ (2147483648 = 2147483648) := q3706
                exfalso; omega
              have q3704 : ¬ (2147483647 < 2147483648) := q3704
              exfalso; omega
            have q3603 : ¬ (2147483649 ≠ 2147483652) := q3603
            exfalso; omega
          have q3599 : ¬ (v3589 ≠ 2147483649) := q3599
          refine x_aload (np := 55) (x := 0) (by decide +kernel) rfl (x_nc_le (by decide)) ?_
          have q3710 : h3592 75 34 = h3580 75 34 := jK 0 f3594 rg_75_34_0_1 (by first | decide | omega) (by first | decide | omega) (by decide)
          have q3711 : h3580 75 34 = h3195 75 34 := by rw [← e3582]; exact x_up_i (by first | decide | omega)
          refine x_getC (np := 58) (x := 738) (f := 34) (q := (h3195 75 34)) (by decide +kernel) (by decide) (by decide +kernel) (q3710.trans q3711) (fun l3712 => ?_)
          refine x_ifz (k := 1) (tg := 66) (np := 61) (by decide +kernel) (by decide) l3712 (fun q3713 => ?_) (fun q3714 => ?_)
          · have q3713 : (h3195 75 34) ≠ 2147483648 := q3713
            refine x_aload (np := 67) (x := 0) (by decide +kernel) rfl (x_nc_le (by decide)) ?_
            refine x_dup (np := 68) (x := 0) (by decide +kernel) (by have z := x_nc_le (k := 75) (by decide); unfold x_r; omega) ?_
            have q3715 : h3592 75 34 = h3580 75 34 := jK 0 f3594 rg_75_34_0_1 (by first | decide | omega) (by first | decide | omega) (by decide)
            have q3716 : h3580 75 34 = h3195 75 34 := by rw [← e3582]; exact x_up_i (by first | decide | omega)
            refine x_getC (np := 71) (x := 738) (f := 34) (q := (h3195 75 34)) (by decide +kernel) (by decide) (by decide +kernel) (q3715.trans q3716) (fun l3717 => ?_)
            refine x_const (np := 72) (x := 9223372043297226753) (a := 2147483649) (by decide +kernel) (by decide) (by decide) ?_
            refine x_addA (by rw [tb_b259]; decide +kernel) l3712 (by decide) (fun v3718 l3719 => ?_)
            refine x_putI (np := 76) (x := 738) (f := 34) (by decide +kernel) (by decide +kernel) l3719 (Or.inl (by decide)) ?_
            have j3721 := jU (e := 34) (v := v3718) 0 j3593 rg_75_34_0_1 (by first | decide | omega) (by first | decide | omega) (by first | decide | omega)
            have f3723 := jF (e := 34) (v := v3718) 0 f3596 rg_75_34_0_1 (by first | decide | omega) (by first | decide | omega) (by decide)
            have f3724 := jF (e := 34) (v := v3718) 0 f3597 rg_75_34_0_1 (by first | decide | omega) (by first | decide | omega) (by decide)
            generalize e3722 : x_up h3592 75 34 v3718 = h3720 at j3721 f3723 f3724 ⊢
            refine x_aload (np := 77) (x := 0) (by decide +kernel) rfl (x_nc_le (by decide)) ?_
            have q3725 : h3720 75 33 = h3592 75 33 := by rw [← e3722]; exact x_up_i (by first | decide | omega)
            have q3726 : h3592 75 33 = h3580 75 33 := jK 0 f3594 rg_75_33_0_1 (by first | decide | omega) (by first | decide | omega) (by decide)
            have q3727 : h3580 75 33 = h3195 75 33 := by rw [← e3582]; exact x_up_i (by first | decide | omega)
            have q3728 : h3195 75 33 = h2 75 33 := jK 0 f3197 rg_75_33_0_1 (by first | decide | omega) (by first | decide | omega) (by decide)
            have q3729 : h2 75 33 = h 75 33 := by rw [← e4]; exact x_up_i (by first | decide | omega)
            have b3730 := jB (e := 33) 0 hJ rg_75_33_0_1 (by first | decide | omega) (by first | decide | omega)
            refine x_getC (np := 80) (x := 737) (f := 33) (q := (h 75 33)) (by decide +kernel) (by decide) (by decide +kernel) ((((q3725.trans q3726).trans q3727).trans q3728).trans q3729) (fun l3731 => ?_)
            refine x_ifz (k := 0) (tg := 85) (np := 83) (by decide +kernel) (by decide) l3731 (fun q3732 => ?_) (fun q3733 => ?_)
            · have q3732 : (h 75 33) = 2147483648 := q3732
              refine x_iload (np := 86) (x := 3) (by decide +kernel) rfl l3590 ?_
              refine x_const (np := 87) (x := 9223372043297226753) (a := 2147483649) (by decide +kernel) (by decide) (by decide) ?_
              refine x_icmp (k := 0) (tg := 95) (np := 90) (by decide +kernel) (by decide) l3590 (by decide) (fun q3734 => ?_) (fun q3735 => ?_)
              · have q3734 : v3589 = 2147483649 := q3734
                refine x_aload (np := 96) (x := 0) (by decide +kernel) rfl (x_nc_le (by decide)) ?_
                have q3736 : h3720 75 28 = 94 := by have z := jB (e := 28) 0 j3721 rg_75_28_0_1 (by decide) (by decide); omega
                refine x_getR (np := 99) (x := 732) (f := 28) (q := 94) (by decide +kernel) (by decide) (by decide +kernel) q3736 ?_
                refine x_iload (np := 100) (x := 2) (by decide +kernel) rfl (by decide) ?_
                refine x_const (np := 101) (x := 9223372034707292159) (a := 2147483647) (by decide +kernel) (by decide) (by decide) ?_
                refine x_ast (np := 102) (x := 0) (kd := 1) (n := 6) (i := 1) (by decide +kernel) (Or.inl rfl) (by decide +kernel) (by first | decide | omega) (by first | decide | omega) (by decide) (by decide) (fun z => absurd z (by decide)) ?_
                have j3738 := jU (e := 1) (v := 2147483647) 1 j3721 rg_94_0_1_6 (by first | decide | omega) (by first | decide | omega) (by first | decide | omega)
                have f3740 := jF (e := 1) (v := 2147483647) 1 f3723 rg_94_0_1_6 (by first | decide | omega) (by first | decide | omega) (by decide)
                have f3741 := jF (e := 1) (v := 2147483647) 1 f3724 rg_94_0_1_6 (by first | decide | omega) (by first | decide | omega) (by decide)
                generalize e3739 : x_up h3720 94 1 2147483647 = h3737 at j3738 f3740 f3741 ⊢
                refine x_aload (np := 103) (x := 0) (by decide +kernel) rfl (x_nc_le (by decide)) ?_
                have q3742 : h3737 75 27 = 93 := by have z := jB (e := 27) 0 j3738 rg_75_27_0_1 (by decide) (by decide); omega
                refine x_getR (np := 106) (x := 731) (f := 27) (q := 93) (by decide +kernel) (by decide) (by decide +kernel) q3742 ?_
                refine x_iload (np := 107) (x := 2) (by decide +kernel) rfl (by decide) ?_
                have q3743 : h3737 93 1 = h3720 93 1 := by rw [← e3739]; exact x_up_k (by decide)
                have q3744 : h3720 93 1 = h3592 93 1 := by rw [← e3722]; exact x_up_k (by decide)
                have b3745 := jB (e := 1) 1 j3593 rg_93_0_1_6 (by first | decide | omega) (by first | decide | omega)
                refine x_aldC (np := 108) (x := 0) (n := 6) (i := 1) (q := (h3592 93 1)) (by decide +kernel) (by decide +kernel) (by first | decide | omega) (by first | decide | omega) (by decide) (q3743.trans q3744) (fun l3746 => ?_)
                refine x_ifz (k := 2) (tg := 122) (np := 111) (by decide +kernel) (by decide) l3746 (fun q3747 => ?_) (fun q3748 => ?_)
                · have q3747 : (h3592 93 1) < 2147483648 := q3747
                  refine x_aload (np := 123) (x := 0) (by decide +kernel) rfl (x_nc_le (by decide)) ?_
                  have q3749 : h3737 75 28 = 94 := by have z := jB (e := 28) 0 j3738 rg_75_28_0_1 (by decide) (by decide); omega
                  refine x_getR (np := 126) (x := 732) (f := 28) (q := 94) (by decide +kernel) (by decide) (by decide +kernel) q3749 ?_
                  refine x_iload (np := 127) (x := 2) (by decide +kernel) rfl (by decide) ?_
                  have q3750 : h3737 94 1 = 2147483647 := by rw [← e3739]; exact x_up_at
                  refine x_aldC (np := 128) (x := 0) (n := 6) (i := 1) (q := 2147483647) (by decide +kernel) (by decide +kernel) (by first | decide | omega) (by first | decide | omega) (by decide) q3750 (fun l3751 => ?_)
                  refine x_ifz (k := 3) (tg := 135) (np := 131) (by decide +kernel) (by decide) (by decide) (fun q3752 => ?_) (fun q3753 => ?_)
                  · have q3752 : 2147483648 ≤ 2147483647 := q3752
                    exfalso; omega
                  have q3753 : ¬ (2147483648 ≤ 2147483647) := q3753
                  refine x_const (np := 132) (x := 9223372034707292159) (a := 2147483647) (by decide +kernel) (by decide) (by decide) ?_
                  refine x_goto (np := 135) (x := 140) (by decide +kernel) ?_
                  refine x_istore (np := 142) (x := 5) (lo' := [x_r 75, iv_c 2147483652, iv_c 2147483649, iv_c v3589, iv_c 2147483649, iv_c 2147483647]) (by decide +kernel) (by decide) (Nat.le_of_ble_eq_true rfl) rfl ?_
                  refine x_iload (np := 144) (x := 5) (by decide +kernel) rfl (by decide) ?_
                  refine x_ifz (k := 2) (tg := 151) (np := 147) (by decide +kernel) (by decide) (by decide) (fun q3754 => ?_) (fun q3755 => ?_)
                  · have q3754 : 2147483647 < 2147483648 := q3754
                    refine x_const (np := 152) (x := 9223372039002259456) (a := 2147483648) (by decide +kernel) (by decide) (by decide) ?_
                    refine x_istore (np := 154) (x := 4) (lo' := [x_r 75, iv_c 2147483652, iv_c 2147483649, iv_c v3589, iv_c 2147483648, iv_c 2147483647]) (by decide +kernel) (by decide) (Nat.le_of_ble_eq_true rfl) rfl ?_
                    refine x_iload (np := 156) (x := 4) (by decide +kernel) rfl (by decide) ?_
                    refine x_ifz (k := 0) (tg := 180) (np := 159) (by decide +kernel) (by decide) (by decide) (fun q3756 => ?_) (fun q3757 => ?_)
                    · have q3756 : 2147483648 = 2147483648 := q3756
                      refine x_iinc (np := 183) (i := 2) (j := 2147483647) (v := 2147483648) (lo' := [x_r 75, iv_c 2147483652, iv_c 2147483648, iv_c v3589, iv_c 2147483648, iv_c 2147483647]) (by decide +kernel) (by decide) (by decide) rfl (by decide) (by first | decide | omega) (by first | decide | omega) rfl ?_
                      refine x_goto (np := 186) (x := 12) (by decide +kernel) ?_
                      have q3758 : h3737 75 30 = h3720 75 30 := by rw [← e3739]; exact x_up_k (by decide)
                      have q3759 : h3720 75 30 = h3592 75 30 := by rw [← e3722]; exact x_up_i (by first | decide | omega)
                      have q3760 : h3592 75 30 = h3580 75 30 := jK 0 f3594 rg_75_30_0_1 (by first | decide | omega) (by first | decide | omega) (by decide)
                      have q3761 : h3580 75 30 = (1 + (h3195 75 30)) := by rw [← e3582]; exact x_up_at
                      exact i3253 (iv_c v3589) (iv_c 2147483647) h3737 (by first | decide | omega) j3738 f3741 (by first | decide | omega)
                    have q3757 : ¬ (2147483648 = 2147483648) := q3757
                    exfalso; omega
                  have q3755 : ¬ (2147483647 < 2147483648) := q3755
                  exfalso; omega
                have q3748 : ¬ ((h3592 93 1) < 2147483648) := q3748
                refine x_aload (np := 112) (x := 0) (by decide +kernel) rfl (x_nc_le (by decide)) ?_
                refine x_aload (np := 113) (x := 0) (by decide +kernel) rfl (x_nc_le (by decide)) ?_
                have q3762 : h3737 75 27 = 93 := by have z := jB (e := 27) 0 j3738 rg_75_27_0_1 (by decide) (by decide); omega
                refine x_getR (np := 116) (x := 731) (f := 27) (q := 93) (by decide +kernel) (by decide) (by decide +kernel) q3762 ?_
                refine x_iload (np := 117) (x := 2) (by decide +kernel) rfl (by decide) ?_
                have q3763 : h3737 93 1 = h3720 93 1 := by rw [← e3739]; exact x_up_k (by decide)
                have q3764 : h3720 93 1 = h3592 93 1 := by rw [← e3722]; exact x_up_k (by decide)
                refine x_aldC (np := 118) (x := 0) (n := 6) (i := 1) (q := (h3592 93 1)) (by decide +kernel) (by decide +kernel) (by first | decide | omega) (by first | decide | omega) (by decide) (q3763.trans q3764) (fun l3765 => ?_)
                refine x_const (np := 119) (x := 9223372039002259456) (a := 2147483648) (by decide +kernel) (by decide) (by decide) ?_
                refine x_cV (t := 6) (mj := 248) (n := 3) (rc := 12) (ml := 4) (nr := 0) (np := 122) (as := [x_r 75, iv_c (h3592 93 1), iv_c 2147483648]) (rest := []) (lo1 := [x_r 75, iv_c (h3592 93 1), iv_c 2147483648, 147573952589676412928]) (by decide +kernel) (by decide) (by decide +kernel) (x_rb_of (by decide +kernel)) rfl rfl (x_wr (by decide) (x_wi l3746 (x_wi (by decide) x_wn))) x_wn (by decide) rfl (c248_75 j3738  (by first | decide | omega) (by first | decide | omega)) (fun h3769 q3768 => ?_)
                obtain ⟨j3770, f3771⟩ := q3768
                have f3774 := Fr.trans f3740 f3771 (by decide)
                have f3775 := Fr.trans f3741 f3771 (by decide)
                refine x_aload (np := 123) (x := 0) (by decide +kernel) rfl (x_nc_le (by decide)) ?_
                have q3776 : h3769 75 28 = 94 := by have z := jB (e := 28) 0 j3770 rg_75_28_0_1 (by decide) (by decide); omega
                refine x_getR (np := 126) (x := 732) (f := 28) (q := 94) (by decide +kernel) (by decide) (by decide +kernel) q3776 ?_
                refine x_iload (np := 127) (x := 2) (by decide +kernel) rfl (by decide) ?_
                have q3777 : h3769 94 1 = h3737 94 1 := jK 1 f3771 rg_94_0_1_6 (by first | decide | omega) (by first | decide | omega) (by decide)
                have q3778 : h3737 94 1 = 2147483647 := by rw [← e3739]; exact x_up_at
                refine x_aldC (np := 128) (x := 0) (n := 6) (i := 1) (q := 2147483647) (by decide +kernel) (by decide +kernel) (by first | decide | omega) (by first | decide | omega) (by decide) (q3777.trans q3778) (fun l3779 => ?_)
                refine x_ifz (k := 3) (tg := 135) (np := 131) (by decide +kernel) (by decide) (by decide) (fun q3780 => ?_) (fun q3781 => ?_)
                · have q3780 : 2147483648 ≤ 2147483647 := q3780
                  exfalso; omega
                have q3781 : ¬ (2147483648 ≤ 2147483647) := q3781
                refine x_const (np := 132) (x := 9223372034707292159) (a := 2147483647) (by decide +kernel) (by decide) (by decide) ?_
                refine x_goto (np := 135) (x := 140) (by decide +kernel) ?_
                refine x_istore (np := 142) (x := 5) (lo' := [x_r 75, iv_c 2147483652, iv_c 2147483649, iv_c v3589, iv_c 2147483649, iv_c 2147483647]) (by decide +kernel) (by decide) (Nat.le_of_ble_eq_true rfl) rfl ?_
                refine x_iload (np := 144) (x := 5) (by decide +kernel) rfl (by decide) ?_
                refine x_ifz (k := 2) (tg := 151) (np := 147) (by decide +kernel) (by decide) (by decide) (fun q3782 => ?_) (fun q3783 => ?_)
                · have q3782 : 2147483647 < 2147483648 := q3782
                  refine x_const (np := 152) (x := 9223372039002259456) (a := 2147483648) (by decide +kernel) (by decide) (by decide) ?_
                  refine x_istore (np := 154) (x := 4) (lo' := [x_r 75, iv_c 2147483652, iv_c 2147483649, iv_c v3589, iv_c 2147483648, iv_c 2147483647]) (by decide +kernel) (by decide) (Nat.le_of_ble_eq_true rfl) rfl ?_
                  refine x_iload (np := 156) (x := 4) (by decide +kernel) rfl (by decide) ?_
                  refine x_ifz (k := 0) (tg := 180) (np := 159) (by decide +kernel) (by decide) (by decide) (fun q3784 => ?_) (fun q3785 => ?_)
                  · have q3784 : 2147483648 = 2147483648 := q3784
                    refine x_iinc (np := 183) (i := 2) (j := 2147483647) (v := 2147483648) (lo' := [x_r 75, iv_c 2147483652, iv_c 2147483648, iv_c v3589, iv_c 2147483648, iv_c 2147483647]) (by decide +kernel) (by decide) (by decide) rfl (by decide) (by first | decide | omega) (by first | decide | omega) rfl ?_
                    refine x_goto (np := 186) (x := 12) (by decide +kernel) ?_
                    have q3786 : h3769 75 30 = h3737 75 30 := jK 0 f3771 rg_75_30_0_1 (by first | decide | omega) (by first | decide | omega) (by decide)
                    have q3787 : h3737 75 30 = h3720 75 30 := by rw [← e3739]; exact x_up_k (by decide)
                    have q3788 : h3720 75 30 = h3592 75 30 := by rw [← e3722]; exact x_up_i (by first | decide | omega)
                    have q3789 : h3592 75 30 = h3580 75 30 := jK 0 f3594 rg_75_30_0_1 (by first | decide | omega) (by first | decide | omega) (by decide)
                    have q3790 : h3580 75 30 = (1 + (h3195 75 30)) := by rw [← e3582]; exact x_up_at
                    exact i3253 (iv_c v3589) (iv_c 2147483647) h3769 (by first | decide | omega) j3770 f3775 (by first | decide | omega)
                  have q3785 : ¬ (2147483648 = 2147483648) := q3785
                  exfalso; omega
                have q3783 : ¬ (2147483647 < 2147483648) := q3783
                exfalso; omega
              have q3735 : ¬ (v3589 = 2147483649) := q3735
              exfalso; omega
            have q3733 : ¬ ((h 75 33) = 2147483648) := q3733
            refine x_const (np := 84) (x := 9223372043297226753) (a := 2147483649) (by decide +kernel) (by decide) (by decide) ?_
            have q3791 : h3720 75 30 = h3592 75 30 := by rw [← e3722]; exact x_up_i (by first | decide | omega)
            have q3792 : h3592 75 30 = h3580 75 30 := jK 0 f3594 rg_75_30_0_1 (by first | decide | omega) (by first | decide | omega) (by decide)
            have q3793 : h3580 75 30 = (1 + (h3195 75 30)) := by rw [← e3582]; exact x_up_at
            refine x_retI (np := 85) (x := 0) (by decide +kernel) (by decide) (Or.inr ⟨by decide +kernel, by first | decide | omega, by first | decide | omega⟩) ⟨_, rfl, (by decide), ?_⟩
            exact ⟨j3721, f3723, (by first | decide | omega), (fun z => by first | decide | omega)⟩
          have q3714 : ¬ ((h3195 75 34) ≠ 2147483648) := q3714
          refine x_aload (np := 62) (x := 0) (by decide +kernel) rfl (x_nc_le (by decide)) ?_
          refine x_iload (np := 63) (x := 2) (by decide +kernel) rfl (by decide) ?_
          refine x_cV (t := 6) (mj := 258) (n := 2) (rc := 12) (ml := 4) (nr := 0) (np := 66) (as := [x_r 75, iv_c 2147483649]) (rest := []) (lo1 := [x_r 75, iv_c 2147483649, 147573952589676412928, 147573952589676412928]) (by decide +kernel) (by decide) (by decide +kernel) (x_rb_of (by decide +kernel)) rfl rfl (x_wr (by decide) (x_wi (by decide) x_wn)) x_wn (by decide) rfl (c258_75 j3593  (by first | decide | omega)) (fun h3797 q3796 => ?_)
          obtain ⟨j3798, f3799⟩ := q3796
          have f3802 := Fr.trans f3596 f3799 (by decide)
          have f3803 := Fr.trans f3597 f3799 (by decide)
          refine x_aload (np := 67) (x := 0) (by decide +kernel) rfl (x_nc_le (by decide)) ?_
          refine x_dup (np := 68) (x := 0) (by decide +kernel) (by have z := x_nc_le (k := 75) (by decide); unfold x_r; omega) ?_
          have q3804 : h3797 75 34 = h3592 75 34 := jK 0 f3799 rg_75_34_0_1 (by first | decide | omega) (by first | decide | omega) (by decide)
          have q3805 : h3592 75 34 = h3580 75 34 := jK 0 f3594 rg_75_34_0_1 (by first | decide | omega) (by first | decide | omega) (by decide)
          have q3806 : h3580 75 34 = h3195 75 34 := by rw [← e3582]; exact x_up_i (by first | decide | omega)
          refine x_getC (np := 71) (x := 738) (f := 34) (q := (h3195 75 34)) (by decide +kernel) (by decide) (by decide +kernel) ((q3804.trans q3805).trans q3806) (fun l3807 => ?_)
          refine x_const (np := 72) (x := 9223372043297226753) (a := 2147483649) (by decide +kernel) (by decide) (by decide) ?_
          refine x_iadd (np := 73) (x := 0) (v := (1 + (h3195 75 34))) (by decide +kernel) l3712 (by decide) (by first | decide | omega) (by first | decide | omega) ?_
          refine x_putI (np := 76) (x := 738) (f := 34) (by decide +kernel) (by decide +kernel) (by first | decide | omega) (Or.inl (by decide)) ?_
          have j3809 := jU (e := 34) (v := (1 + (h3195 75 34))) 0 j3798 rg_75_34_0_1 (by first | decide | omega) (by first | decide | omega) (by first | decide | omega)
          have f3811 := jF (e := 34) (v := (1 + (h3195 75 34))) 0 f3802 rg_75_34_0_1 (by first | decide | omega) (by first | decide | omega) (by decide)
          have f3812 := jF (e := 34) (v := (1 + (h3195 75 34))) 0 f3803 rg_75_34_0_1 (by first | decide | omega) (by first | decide | omega) (by decide)
          generalize e3810 : x_up h3797 75 34 (1 + (h3195 75 34)) = h3808 at j3809 f3811 f3812 ⊢
          refine x_aload (np := 77) (x := 0) (by decide +kernel) rfl (x_nc_le (by decide)) ?_
          have q3813 : h3808 75 33 = h3797 75 33 := by rw [← e3810]; exact x_up_i (by first | decide | omega)
          have q3814 : h3797 75 33 = h3592 75 33 := jK 0 f3799 rg_75_33_0_1 (by first | decide | omega) (by first | decide | omega) (by decide)
          have q3815 : h3592 75 33 = h3580 75 33 := jK 0 f3594 rg_75_33_0_1 (by first | decide | omega) (by first | decide | omega) (by decide)
          have q3816 : h3580 75 33 = h3195 75 33 := by rw [← e3582]; exact x_up_i (by first | decide | omega)
          have q3817 : h3195 75 33 = h2 75 33 := jK 0 f3197 rg_75_33_0_1 (by first | decide | omega) (by first | decide | omega) (by decide)
          have q3818 : h2 75 33 = h 75 33 := by rw [← e4]; exact x_up_i (by first | decide | omega)
          have b3819 := jB (e := 33) 0 hJ rg_75_33_0_1 (by first | decide | omega) (by first | decide | omega)
          refine x_getC (np := 80) (x := 737) (f := 33) (q := (h 75 33)) (by decide +kernel) (by decide) (by decide +kernel) (((((q3813.trans q3814).trans q3815).trans q3816).trans q3817).trans q3818) (fun l3820 => ?_)
          refine x_ifz (k := 0) (tg := 85) (np := 83) (by decide +kernel) (by decide) l3820 (fun q3821 => ?_) (fun q3822 => ?_)
          · have q3821 : (h 75 33) = 2147483648 := q3821
            refine x_iload (np := 86) (x := 3) (by decide +kernel) rfl l3590 ?_
            refine x_const (np := 87) (x := 9223372043297226753) (a := 2147483649) (by decide +kernel) (by decide) (by decide) ?_
            refine x_icmp (k := 0) (tg := 95) (np := 90) (by decide +kernel) (by decide) l3590 (by decide) (fun q3823 => ?_) (fun q3824 => ?_)
            · have q3823 : v3589 = 2147483649 := q3823
              refine x_aload (np := 96) (x := 0) (by decide +kernel) rfl (x_nc_le (by decide)) ?_
              have q3825 : h3808 75 28 = 94 := by have z := jB (e := 28) 0 j3809 rg_75_28_0_1 (by decide) (by decide); omega
              refine x_getR (np := 99) (x := 732) (f := 28) (q := 94) (by decide +kernel) (by decide) (by decide +kernel) q3825 ?_
              refine x_iload (np := 100) (x := 2) (by decide +kernel) rfl (by decide) ?_
              refine x_const (np := 101) (x := 9223372034707292159) (a := 2147483647) (by decide +kernel) (by decide) (by decide) ?_
              refine x_ast (np := 102) (x := 0) (kd := 1) (n := 6) (i := 1) (by decide +kernel) (Or.inl rfl) (by decide +kernel) (by first | decide | omega) (by first | decide | omega) (by decide) (by decide) (fun z => absurd z (by decide)) ?_
              have j3827 := jU (e := 1) (v := 2147483647) 1 j3809 rg_94_0_1_6 (by first | decide | omega) (by first | decide | omega) (by first | decide | omega)
              have f3829 := jF (e := 1) (v := 2147483647) 1 f3811 rg_94_0_1_6 (by first | decide | omega) (by first | decide | omega) (by decide)
              have f3830 := jF (e := 1) (v := 2147483647) 1 f3812 rg_94_0_1_6 (by first | decide | omega) (by first | decide | omega) (by decide)
              generalize e3828 : x_up h3808 94 1 2147483647 = h3826 at j3827 f3829 f3830 ⊢
              refine x_aload (np := 103) (x := 0) (by decide +kernel) rfl (x_nc_le (by decide)) ?_
              have q3831 : h3826 75 27 = 93 := by have z := jB (e := 27) 0 j3827 rg_75_27_0_1 (by decide) (by decide); omega
              refine x_getR (np := 106) (x := 731) (f := 27) (q := 93) (by decide +kernel) (by decide) (by decide +kernel) q3831 ?_
              refine x_iload (np := 107) (x := 2) (by decide +kernel) rfl (by decide) ?_
              have q3832 : h3826 93 1 = h3808 93 1 := by rw [← e3828]; exact x_up_k (by decide)
              have q3833 : h3808 93 1 = h3797 93 1 := by rw [← e3810]; exact x_up_k (by decide)
              have q3834 : h3797 93 1 = h3592 93 1 := jK 1 f3799 rg_93_0_1_6 (by first | decide | omega) (by first | decide | omega) (by decide)
              have b3835 := jB (e := 1) 1 j3593 rg_93_0_1_6 (by first | decide | omega) (by first | decide | omega)
              refine x_aldC (np := 108) (x := 0) (n := 6) (i := 1) (q := (h3592 93 1)) (by decide +kernel) (by decide +kernel) (by first | decide | omega) (by first | decide | omega) (by decide) ((q3832.trans q3833).trans q3834) (fun l3836 => ?_)
              refine x_ifz (k := 2) (tg := 122) (np := 111) (by decide +kernel) (by decide) l3836 (fun q3837 => ?_) (fun q3838 => ?_)
              · have q3837 : (h3592 93 1) < 2147483648 := q3837
                refine x_aload (np := 123) (x := 0) (by decide +kernel) rfl (x_nc_le (by decide)) ?_
                have q3839 : h3826 75 28 = 94 := by have z := jB (e := 28) 0 j3827 rg_75_28_0_1 (by decide) (by decide); omega
                refine x_getR (np := 126) (x := 732) (f := 28) (q := 94) (by decide +kernel) (by decide) (by decide +kernel) q3839 ?_
                refine x_iload (np := 127) (x := 2) (by decide +kernel) rfl (by decide) ?_
                have q3840 : h3826 94 1 = 2147483647 := by rw [← e3828]; exact x_up_at
                refine x_aldC (np := 128) (x := 0) (n := 6) (i := 1) (q := 2147483647) (by decide +kernel) (by decide +kernel) (by first | decide | omega) (by first | decide | omega) (by decide) q3840 (fun l3841 => ?_)
                refine x_ifz (k := 3) (tg := 135) (np := 131) (by decide +kernel) (by decide) (by decide) (fun q3842 => ?_) (fun q3843 => ?_)
                · have q3842 : 2147483648 ≤ 2147483647 := q3842
                  exfalso; omega
                have q3843 : ¬ (2147483648 ≤ 2147483647) := q3843
                refine x_const (np := 132) (x := 9223372034707292159) (a := 2147483647) (by decide +kernel) (by decide) (by decide) ?_
                refine x_goto (np := 135) (x := 140) (by decide +kernel) ?_
                refine x_istore (np := 142) (x := 5) (lo' := [x_r 75, iv_c 2147483652, iv_c 2147483649, iv_c v3589, iv_c 2147483649, iv_c 2147483647]) (by decide +kernel) (by decide) (Nat.le_of_ble_eq_true rfl) rfl ?_
                refine x_iload (np := 144) (x := 5) (by decide +kernel) rfl (by decide) ?_
                refine x_ifz (k := 2) (tg := 151) (np := 147) (by decide +kernel) (by decide) (by decide) (fun q3844 => ?_) (fun q3845 => ?_)
                · have q3844 : 2147483647 < 2147483648 := q3844
                  refine x_const (np := 152) (x := 9223372039002259456) (a := 2147483648) (by decide +kernel) (by decide) (by decide) ?_
                  refine x_istore (np := 154) (x := 4) (lo' := [x_r 75, iv_c 2147483652, iv_c 2147483649, iv_c v3589, iv_c 2147483648, iv_c 2147483647]) (by decide +kernel) (by decide) (Nat.le_of_ble_eq_true rfl) rfl ?_
                  refine x_iload (np := 156) (x := 4) (by decide +kernel) rfl (by decide) ?_
                  refine x_ifz (k := 0) (tg := 180) (np := 159) (by decide +kernel) (by decide) (by decide) (fun q3846 => ?_) (fun q3847 => ?_)
                  · have q3846 : 2147483648 = 2147483648 := q3846
                    refine x_iinc (np := 183) (i := 2) (j := 2147483647) (v := 2147483648) (lo' := [x_r 75, iv_c 2147483652, iv_c 2147483648, iv_c v3589, iv_c 2147483648, iv_c 2147483647]) (by decide +kernel) (by decide) (by decide) rfl (by decide) (by first | decide | omega) (by first | decide | omega) rfl ?_
                    refine x_goto (np := 186) (x := 12) (by decide +kernel) ?_
                    have q3848 : h3826 75 30 = h3808 75 30 := by rw [← e3828]; exact x_up_k (by decide)
                    have q3849 : h3808 75 30 = h3797 75 30 := by rw [← e3810]; exact x_up_i (by first | decide | omega)
                    have q3850 : h3797 75 30 = h3592 75 30 := jK 0 f3799 rg_75_30_0_1 (by first | decide | omega) (by first | decide | omega) (by decide)
                    have q3851 : h3592 75 30 = h3580 75 30 := jK 0 f3594 rg_75_30_0_1 (by first | decide | omega) (by first | decide | omega) (by decide)
                    have q3852 : h3580 75 30 = (1 + (h3195 75 30)) := by rw [← e3582]; exact x_up_at
                    exact i3253 (iv_c v3589) (iv_c 2147483647) h3826 (by first | decide | omega) j3827 f3830 (by first | decide | omega)
                  have q3847 : ¬ (2147483648 = 2147483648) := q3847
                  exfalso; omega
                have q3845 : ¬ (2147483647 < 2147483648) := q3845
                exfalso; omega
              have q3838 : ¬ ((h3592 93 1) < 2147483648) := q3838
              refine x_aload (np := 112) (x := 0) (by decide +kernel) rfl (x_nc_le (by decide)) ?_
              refine x_aload (np := 113) (x := 0) (by decide +kernel) rfl (x_nc_le (by decide)) ?_
              have q3853 : h3826 75 27 = 93 := by have z := jB (e := 27) 0 j3827 rg_75_27_0_1 (by decide) (by decide); omega
              refine x_getR (np := 116) (x := 731) (f := 27) (q := 93) (by decide +kernel) (by decide) (by decide +kernel) q3853 ?_
              refine x_iload (np := 117) (x := 2) (by decide +kernel) rfl (by decide) ?_
              have q3854 : h3826 93 1 = h3808 93 1 := by rw [← e3828]; exact x_up_k (by decide)
              have q3855 : h3808 93 1 = h3797 93 1 := by rw [← e3810]; exact x_up_k (by decide)
              have q3856 : h3797 93 1 = h3592 93 1 := jK 1 f3799 rg_93_0_1_6 (by first | decide | omega) (by first | decide | omega) (by decide)
              refine x_aldC (np := 118) (x := 0) (n := 6) (i := 1) (q := (h3592 93 1)) (by decide +kernel) (by decide +kernel) (by first | decide | omega) (by first | decide | omega) (by decide) ((q3854.trans q3855).trans q3856) (fun l3857 => ?_)
              refine x_const (np := 119) (x := 9223372039002259456) (a := 2147483648) (by decide +kernel) (by decide) (by decide) ?_
              refine x_cV (t := 6) (mj := 248) (n := 3) (rc := 12) (ml := 4) (nr := 0) (np := 122) (as := [x_r 75, iv_c (h3592 93 1), iv_c 2147483648]) (rest := []) (lo1 := [x_r 75, iv_c (h3592 93 1), iv_c 2147483648, 147573952589676412928]) (by decide +kernel) (by decide) (by decide +kernel) (x_rb_of (by decide +kernel)) rfl rfl (x_wr (by decide) (x_wi l3836 (x_wi (by decide) x_wn))) x_wn (by decide) rfl (c248_75 j3827  (by first | decide | omega) (by first | decide | omega)) (fun h3861 q3860 => ?_)
              obtain ⟨j3862, f3863⟩ := q3860
              have f3866 := Fr.trans f3829 f3863 (by decide)
              have f3867 := Fr.trans f3830 f3863 (by decide)
              refine x_aload (np := 123) (x := 0) (by decide +kernel) rfl (x_nc_le (by decide)) ?_
              have q3868 : h3861 75 28 = 94 := by have z := jB (e := 28) 0 j3862 rg_75_28_0_1 (by decide) (by decide); omega
              refine x_getR (np := 126) (x := 732) (f := 28) (q := 94) (by decide +kernel) (by decide) (by decide +kernel) q3868 ?_
              refine x_iload (np := 127) (x := 2) (by decide +kernel) rfl (by decide) ?_
              have q3869 : h3861 94 1 = h3826 94 1 := jK 1 f3863 rg_94_0_1_6 (by first | decide | omega) (by first | decide | omega) (by decide)
              have q3870 : h3826 94 1 = 2147483647 := by rw [← e3828]; exact x_up_at
              refine x_aldC (np := 128) (x := 0) (n := 6) (i := 1) (q := 2147483647) (by decide +kernel) (by decide +kernel) (by first | decide | omega) (by first | decide | omega) (by decide) (q3869.trans q3870) (fun l3871 => ?_)
              refine x_ifz (k := 3) (tg := 135) (np := 131) (by decide +kernel) (by decide) (by decide) (fun q3872 => ?_) (fun q3873 => ?_)
              · have q3872 : 2147483648 ≤ 2147483647 := q3872
                exfalso; omega
              have q3873 : ¬ (2147483648 ≤ 2147483647) := q3873
              refine x_const (np := 132) (x := 9223372034707292159) (a := 2147483647) (by decide +kernel) (by decide) (by decide) ?_
              refine x_goto (np := 135) (x := 140) (by decide +kernel) ?_
              refine x_istore (np := 142) (x := 5) (lo' := [x_r 75, iv_c 2147483652, iv_c 2147483649, iv_c v3589, iv_c 2147483649, iv_c 2147483647]) (by decide +kernel) (by decide) (Nat.le_of_ble_eq_true rfl) rfl ?_
              refine x_iload (np := 144) (x := 5) (by decide +kernel) rfl (by decide) ?_
              refine x_ifz (k := 2) (tg := 151) (np := 147) (by decide +kernel) (by decide) (by decide) (fun q3874 => ?_) (fun q3875 => ?_)
              · have q3874 : 2147483647 < 2147483648 := q3874
                refine x_const (np := 152) (x := 9223372039002259456) (a := 2147483648) (by decide +kernel) (by decide) (by decide) ?_
                refine x_istore (np := 154) (x := 4) (lo' := [x_r 75, iv_c 2147483652, iv_c 2147483649, iv_c v3589, iv_c 2147483648, iv_c 2147483647]) (by decide +kernel) (by decide) (Nat.le_of_ble_eq_true rfl) rfl ?_
                refine x_iload (np := 156) (x := 4) (by decide +kernel) rfl (by decide) ?_
                refine x_ifz (k := 0) (tg := 180) (np := 159) (by decide +kernel) (by decide) (by decide) (fun q3876 => ?_) (fun q3877 => ?_)
                · have q3876 : 2147483648 = 2147483648 := q3876
                  refine x_iinc (np := 183) (i := 2) (j := 2147483647) (v := 2147483648) (lo' := [x_r 75, iv_c 2147483652, iv_c 2147483648, iv_c v3589, iv_c 2147483648, iv_c 2147483647]) (by decide +kernel) (by decide) (by decide) rfl (by decide) (by first | decide | omega) (by first | decide | omega) rfl ?_
                  refine x_goto (np := 186) (x := 12) (by decide +kernel) ?_
                  have q3878 : h3861 75 30 = h3826 75 30 := jK 0 f3863 rg_75_30_0_1 (by first | decide | omega) (by first | decide | omega) (by decide)
                  have q3879 : h3826 75 30 = h3808 75 30 := by rw [← e3828]; exact x_up_k (by decide)
                  have q3880 : h3808 75 30 = h3797 75 30 := by rw [← e3810]; exact x_up_i (by first | decide | omega)
                  have q3881 : h3797 75 30 = h3592 75 30 := jK 0 f3799 rg_75_30_0_1 (by first | decide | omega) (by first | decide | omega) (by decide)
                  have q3882 : h3592 75 30 = h3580 75 30 := jK 0 f3594 rg_75_30_0_1 (by first | decide | omega) (by first | decide | omega) (by decide)
                  have q3883 : h3580 75 30 = (1 + (h3195 75 30)) := by rw [← e3582]; exact x_up_at
                  exact i3253 (iv_c v3589) (iv_c 2147483647) h3861 (by first | decide | omega) j3862 f3867 (by first | decide | omega)
                have q3877 : ¬ (2147483648 = 2147483648) := q3877
                exfalso; omega
              have q3875 : ¬ (2147483647 < 2147483648) := q3875
              exfalso; omega
            have q3824 : ¬ (v3589 = 2147483649) := q3824
            exfalso; omega
          have q3822 : ¬ ((h 75 33) = 2147483648) := q3822
          refine x_const (np := 84) (x := 9223372043297226753) (a := 2147483649) (by decide +kernel) (by decide) (by decide) ?_
          have q3884 : h3808 75 30 = h3797 75 30 := by rw [← e3810]; exact x_up_i (by first | decide | omega)
          have q3885 : h3797 75 30 = h3592 75 30 := jK 0 f3799 rg_75_30_0_1 (by first | decide | omega) (by first | decide | omega) (by decide)
          have q3886 : h3592 75 30 = h3580 75 30 := jK 0 f3594 rg_75_30_0_1 (by first | decide | omega) (by first | decide | omega) (by decide)
          have q3887 : h3580 75 30 = (1 + (h3195 75 30)) := by rw [← e3582]; exact x_up_at
          refine x_retI (np := 85) (x := 0) (by decide +kernel) (by decide) (Or.inr ⟨by decide +kernel, by first | decide | omega, by first | decide | omega⟩) ⟨_, rfl, (by decide), ?_⟩
          exact ⟨j3809, f3811, (by first | decide | omega), (fun z => by first | decide | omega)⟩
        have q3588 : ¬ ((1 + (h3195 75 30)) ≤ 2147503648) := q3588
        refine x_const (np := 42) (x := 9223372039002259456) (a := 2147483648) (by decide +kernel) (by decide) (by decide) ?_
        have q3888 : h3580 75 30 = (1 + (h3195 75 30)) := by rw [← e3582]; exact x_up_at
        refine x_retI (np := 43) (x := 0) (by decide +kernel) (by decide) (Or.inr ⟨by decide +kernel, by first | decide | omega, by first | decide | omega⟩) ⟨_, rfl, (by decide), ?_⟩
        exact ⟨j3581, f3583, (by first | decide | omega), (fun z => by first | decide | omega)⟩
      · intro w3199 w3200 h3201 q3889 j3204 f3203 b3202
        have f3890 := Fr.trans f5 f3203 (by decide)
        refine x_iload (np := 13) (x := 2) (by decide +kernel) rfl (by decide) ?_
        refine x_ifz (k := 2) (tg := 186) (np := 16) (by decide +kernel) (by decide) (by decide) (fun q3891 => ?_) (fun q3892 => ?_)
        · have q3891 : 2147483650 < 2147483648 := q3891
          exfalso; omega
        have q3892 : ¬ (2147483650 < 2147483648) := q3892
        refine x_iload (np := 18) (x := 4) (by decide +kernel) rfl (by decide) ?_
        refine x_ifz (k := 0) (tg := 102) (np := 21) (by decide +kernel) (by decide) (by decide) (fun q3893 => ?_) (fun q3894 => ?_)
        · have q3893 : 2147483649 = 2147483648 := q3893
          exfalso; omega
        have q3894 : ¬ (2147483649 = 2147483648) := q3894
        refine x_aload (np := 22) (x := 0) (by decide +kernel) rfl (x_nc_le (by decide)) ?_
        refine x_dup (np := 23) (x := 0) (by decide +kernel) (by have z := x_nc_le (k := 75) (by decide); unfold x_r; omega) ?_
        refine x_getC (np := 26) (x := 734) (f := 30) (q := (h3201 75 30)) (by decide +kernel) (by decide) (by decide +kernel) rfl (fun l3895 => ?_)
        refine x_const (np := 27) (x := 9223372043297226753) (a := 2147483649) (by decide +kernel) (by decide) (by decide) ?_
        refine x_iadd (np := 28) (x := 0) (v := (1 + (h3201 75 30))) (by decide +kernel) l3895 (by decide) (by first | decide | omega) (by first | decide | omega) ?_
        refine x_putI (np := 31) (x := 734) (f := 30) (by decide +kernel) (by decide +kernel) (by first | decide | omega) (Or.inl (by decide)) ?_
        have j3897 := jU (e := 30) (v := (1 + (h3201 75 30))) 0 j3204 rg_75_30_0_1 (by first | decide | omega) (by first | decide | omega) (by first | decide | omega)
        have f3899 := jF (e := 30) (v := (1 + (h3201 75 30))) 0 f3890 rg_75_30_0_1 (by first | decide | omega) (by first | decide | omega) (by decide)
        have f3900 := jF (e := 30) (v := (1 + (h3201 75 30))) 0 f3203 rg_75_30_0_1 (by first | decide | omega) (by first | decide | omega) (by decide)
        generalize e3898 : x_up h3201 75 30 (1 + (h3201 75 30)) = h3896 at j3897 f3899 f3900 ⊢
        refine x_aload (np := 32) (x := 0) (by decide +kernel) rfl (x_nc_le (by decide)) ?_
        have q3901 : h3896 75 30 = (1 + (h3201 75 30)) := by rw [← e3898]; exact x_up_at
        refine x_getC (np := 35) (x := 734) (f := 30) (q := (1 + (h3201 75 30))) (by decide +kernel) (by decide) (by decide +kernel) q3901 (fun l3902 => ?_)
        refine x_const (np := 38) (x := 9223457938348199456) (a := 2147503648) (by decide +kernel) (by decide) (by decide) ?_
        refine x_icmp (k := 5) (tg := 43) (np := 41) (by decide +kernel) (by decide) (by first | decide | omega) (by decide) (fun q3903 => ?_) (fun q3904 => ?_)
        · have q3903 : (1 + (h3201 75 30)) ≤ 2147503648 := q3903
          refine x_aload (np := 44) (x := 0) (by decide +kernel) rfl (x_nc_le (by decide)) ?_
          refine x_iload (np := 45) (x := 2) (by decide +kernel) rfl (by decide) ?_
          refine x_cI (t := 6) (mj := 254) (n := 2) (rc := 12) (ml := 4) (nr := 0) (np := 48) (as := [x_r 75, iv_c 2147483650]) (rest := []) (lo1 := [x_r 75, iv_c 2147483650, 147573952589676412928, 147573952589676412928]) (by decide +kernel) (by decide) (by decide +kernel) (x_rb_of (by decide +kernel)) rfl rfl (x_wr (by decide) (x_wi (by decide) x_wn)) x_wn (by decide) rfl (c254_75 j3897  (by first | decide | omega)) (fun v3905 h3908 l3906 q3907 => ?_)
          obtain ⟨j3909, f3910, b3911⟩ := q3907
          have f3912 := Fr.trans f3899 f3910 (by decide)
          have f3913 := Fr.trans f3900 f3910 (by decide)
          refine x_istore (np := 49) (x := 3) (lo' := [x_r 75, iv_c 2147483652, iv_c 2147483650, iv_c v3905, iv_c 2147483649, w3200]) (by decide +kernel) l3906 (Nat.le_of_ble_eq_true rfl) rfl ?_
          refine x_iload (np := 50) (x := 3) (by decide +kernel) rfl l3906 ?_
          refine x_const (np := 51) (x := 9223372043297226753) (a := 2147483649) (by decide +kernel) (by decide) (by decide) ?_
          refine x_icmp (k := 1) (tg := 85) (np := 54) (by decide +kernel) (by decide) l3906 (by decide) (fun q3914 => ?_) (fun q3915 => ?_)
          · have q3914 : v3905 ≠ 2147483649 := q3914
            refine x_iload (np := 86) (x := 3) (by decide +kernel) rfl l3906 ?_
            refine x_const (np := 87) (x := 9223372043297226753) (a := 2147483649) (by decide +kernel) (by decide) (by decide) ?_
            refine x_icmp (k := 0) (tg := 95) (np := 90) (by decide +kernel) (by decide) l3906 (by decide) (fun q3916 => ?_) (fun q3917 => ?_)
            · have q3916 : v3905 = 2147483649 := q3916
              exfalso; omega
            have q3917 : ¬ (v3905 = 2147483649) := q3917
            refine x_iload (np := 91) (x := 2) (by decide +kernel) rfl (by decide) ?_
            refine x_iload (np := 92) (x := 1) (by decide +kernel) rfl (by decide) ?_
            refine x_icmp (k := 1) (tg := 102) (np := 95) (by decide +kernel) (by decide) (by decide) (by decide) (fun q3918 => ?_) (fun q3919 => ?_)
            · have q3918 : 2147483650 ≠ 2147483652 := q3918
              refine x_aload (np := 103) (x := 0) (by decide +kernel) rfl (x_nc_le (by decide)) ?_
              have q3920 : h3908 75 27 = 93 := by have z := jB (e := 27) 0 j3909 rg_75_27_0_1 (by decide) (by decide); omega
              refine x_getR (np := 106) (x := 731) (f := 27) (q := 93) (by decide +kernel) (by decide) (by decide +kernel) q3920 ?_
              refine x_iload (np := 107) (x := 2) (by decide +kernel) rfl (by decide) ?_
              have b3921 := jB (e := 2) 2 j3909 rg_93_0_1_6 (by first | decide | omega) (by first | decide | omega)
              refine x_aldC (np := 108) (x := 0) (n := 6) (i := 2) (q := (h3908 93 2)) (by decide +kernel) (by decide +kernel) (by first | decide | omega) (by first | decide | omega) (by decide) rfl (fun l3922 => ?_)
              refine x_ifz (k := 2) (tg := 122) (np := 111) (by decide +kernel) (by decide) l3922 (fun q3923 => ?_) (fun q3924 => ?_)
              · have q3923 : (h3908 93 2) < 2147483648 := q3923
                refine x_aload (np := 123) (x := 0) (by decide +kernel) rfl (x_nc_le (by decide)) ?_
                have q3925 : h3908 75 28 = 94 := by have z := jB (e := 28) 0 j3909 rg_75_28_0_1 (by decide) (by decide); omega
                refine x_getR (np := 126) (x := 732) (f := 28) (q := 94) (by decide +kernel) (by decide) (by decide +kernel) q3925 ?_
                refine x_iload (np := 127) (x := 2) (by decide +kernel) rfl (by decide) ?_
                have b3926 := jB (e := 2) 2 j3909 rg_94_0_1_6 (by first | decide | omega) (by first | decide | omega)
                refine x_aldC (np := 128) (x := 0) (n := 6) (i := 2) (q := (h3908 94 2)) (by decide +kernel) (by decide +kernel) (by first | decide | omega) (by first | decide | omega) (by decide) rfl (fun l3927 => ?_)
                refine x_ifz (k := 3) (tg := 135) (np := 131) (by decide +kernel) (by decide) l3927 (fun q3928 => ?_) (fun q3929 => ?_)
                · have q3928 : 2147483648 ≤ (h3908 94 2) := q3928
                  refine x_aload (np := 136) (x := 0) (by decide +kernel) rfl (x_nc_le (by decide)) ?_
                  refine x_iload (np := 137) (x := 2) (by decide +kernel) rfl (by decide) ?_
                  refine x_cP (t := 6) (mj := 257) (n := 2) (rc := 12) (ml := 3) (nr := 0) (np := 140) (as := [x_r 75, iv_c 2147483650]) (rest := []) (lo1 := [x_r 75, iv_c 2147483650, 147573952589676412928]) (by decide +kernel) (by decide) (by decide +kernel) (x_rb_of (by decide +kernel)) rfl rfl (x_wr (by decide) (x_wi (by decide) x_wn)) x_wn (by decide) rfl (c257_75_c2 j3909   (by first | decide | omega)) (fun v3930 l3931 q3932 => ?_)
                  refine x_istore (np := 142) (x := 5) (lo' := [x_r 75, iv_c 2147483652, iv_c 2147483650, iv_c v3905, iv_c 2147483649, iv_c v3930]) (by decide +kernel) l3931 (Nat.le_of_ble_eq_true rfl) rfl ?_
                  refine x_iload (np := 144) (x := 5) (by decide +kernel) rfl l3931 ?_
                  refine x_ifz (k := 2) (tg := 151) (np := 147) (by decide +kernel) (by decide) l3931 (fun q3933 => ?_) (fun q3934 => ?_)
                  · have q3933 : v3930 < 2147483648 := q3933
                    refine x_const (np := 152) (x := 9223372039002259456) (a := 2147483648) (by decide +kernel) (by decide) (by decide) ?_
                    refine x_istore (np := 154) (x := 4) (lo' := [x_r 75, iv_c 2147483652, iv_c 2147483650, iv_c v3905, iv_c 2147483648, iv_c v3930]) (by decide +kernel) (by decide) (Nat.le_of_ble_eq_true rfl) rfl ?_
                    refine x_iload (np := 156) (x := 4) (by decide +kernel) rfl (by decide) ?_
                    refine x_ifz (k := 0) (tg := 180) (np := 159) (by decide +kernel) (by decide) (by decide) (fun q3935 => ?_) (fun q3936 => ?_)
                    · have q3935 : 2147483648 = 2147483648 := q3935
                      refine x_iinc (np := 183) (i := 2) (j := 2147483647) (v := 2147483649) (lo' := [x_r 75, iv_c 2147483652, iv_c 2147483649, iv_c v3905, iv_c 2147483648, iv_c v3930]) (by decide +kernel) (by decide) (by decide) rfl (by decide) (by first | decide | omega) (by first | decide | omega) rfl ?_
                      refine x_goto (np := 186) (x := 12) (by decide +kernel) ?_
                      have q3937 : h3908 75 30 = h3896 75 30 := jK 0 f3910 rg_75_30_0_1 (by first | decide | omega) (by first | decide | omega) (by decide)
                      have q3938 : h3896 75 30 = (1 + (h3201 75 30)) := by rw [← e3898]; exact x_up_at
                      exact i3254 (iv_c v3905) (iv_c v3930) h3908 (by first | decide | omega) j3909 f3913 (by first | decide | omega)
                    have q3936 : ¬ (2147483648 = 2147483648) := q3936
                    exfalso; omega
                  have q3934 : ¬ (v3930 < 2147483648) := q3934
                  refine x_const (np := 148) (x := 9223372043297226753) (a := 2147483649) (by decide +kernel) (by decide) (by decide) ?_
                  refine x_goto (np := 151) (x := 152) (by decide +kernel) ?_
                  refine x_istore (np := 154) (x := 4) (lo' := [x_r 75, iv_c 2147483652, iv_c 2147483650, iv_c v3905, iv_c 2147483649, iv_c v3930]) (by decide +kernel) (by decide) (Nat.le_of_ble_eq_true rfl) rfl ?_
                  refine x_iload (np := 156) (x := 4) (by decide +kernel) rfl (by decide) ?_
                  refine x_ifz (k := 0) (tg := 180) (np := 159) (by decide +kernel) (by decide) (by decide) (fun q3939 => ?_) (fun q3940 => ?_)
                  · have q3939 : 2147483649 = 2147483648 := q3939
                    exfalso; omega
                  have q3940 : ¬ (2147483649 = 2147483648) := q3940
                  refine x_aload (np := 160) (x := 0) (by decide +kernel) rfl (x_nc_le (by decide)) ?_
                  have q3941 : h3908 75 27 = 93 := by have z := jB (e := 27) 0 j3909 rg_75_27_0_1 (by decide) (by decide); omega
                  refine x_getR (np := 163) (x := 731) (f := 27) (q := 93) (by decide +kernel) (by decide) (by decide +kernel) q3941 ?_
                  refine x_iload (np := 164) (x := 2) (by decide +kernel) rfl (by decide) ?_
                  refine x_iload (np := 166) (x := 5) (by decide +kernel) rfl l3931 ?_
                  refine x_ast (np := 167) (x := 0) (kd := 1) (n := 6) (i := 2) (by decide +kernel) (Or.inl rfl) (by decide +kernel) (by first | decide | omega) (by first | decide | omega) (by decide) l3931 (fun z => absurd z (by decide)) ?_
                  have j3943 := jU (e := 2) (v := v3930) 2 j3909 rg_93_0_1_6 (by first | decide | omega) (by first | decide | omega) (by first | decide | omega)
                  have f3945 := jF (e := 2) (v := v3930) 2 f3912 rg_93_0_1_6 (by first | decide | omega) (by first | decide | omega) (by decide)
                  have f3946 := jF (e := 2) (v := v3930) 2 f3913 rg_93_0_1_6 (by first | decide | omega) (by first | decide | omega) (by decide)
                  generalize e3944 : x_up h3908 93 2 v3930 = h3942 at j3943 f3945 f3946 ⊢
                  refine x_aload (np := 168) (x := 0) (by decide +kernel) rfl (x_nc_le (by decide)) ?_
                  refine x_iload (np := 170) (x := 5) (by decide +kernel) rfl l3931 ?_
                  refine x_const (np := 171) (x := 9223372043297226753) (a := 2147483649) (by decide +kernel) (by decide) (by decide) ?_
                  refine x_cV (t := 6) (mj := 248) (n := 3) (rc := 12) (ml := 4) (nr := 0) (np := 174) (as := [x_r 75, iv_c v3930, iv_c 2147483649]) (rest := []) (lo1 := [x_r 75, iv_c v3930, iv_c 2147483649, 147573952589676412928]) (by decide +kernel) (by decide) (by decide +kernel) (x_rb_of (by decide +kernel)) rfl rfl (x_wr (by decide) (x_wi l3931 (x_wi (by decide) x_wn))) x_wn (by decide) rfl (c248_75 j3943  (by first | decide | omega) (by first | decide | omega)) (fun h3950 q3949 => ?_)
                  obtain ⟨j3951, f3952⟩ := q3949
                  have f3955 := Fr.trans f3945 f3952 (by decide)
                  have f3956 := Fr.trans f3946 f3952 (by decide)
                  refine x_iinc (np := 177) (i := 2) (j := 2147483649) (v := 2147483651) (lo' := [x_r 75, iv_c 2147483652, iv_c 2147483651, iv_c v3905, iv_c 2147483649, iv_c v3930]) (by decide +kernel) (by decide) (by decide) rfl (by decide) (by first | decide | omega) (by first | decide | omega) rfl ?_
                  refine x_goto (np := 180) (x := 183) (by decide +kernel) ?_
                  refine x_goto (np := 186) (x := 12) (by decide +kernel) ?_
                  have q3957 : h3950 75 30 = h3942 75 30 := jK 0 f3952 rg_75_30_0_1 (by first | decide | omega) (by first | decide | omega) (by decide)
                  have q3958 : h3942 75 30 = h3908 75 30 := by rw [← e3944]; exact x_up_k (by decide)
                  have q3959 : h3908 75 30 = h3896 75 30 := jK 0 f3910 rg_75_30_0_1 (by first | decide | omega) (by first | decide | omega) (by decide)
                  have q3960 : h3896 75 30 = (1 + (h3201 75 30)) := by rw [← e3898]; exact x_up_at
                  exact i3250 (iv_c v3905) (iv_c v3930) h3950 (by first | decide | omega) j3951 f3956 (by first | decide | omega)
                have q3929 : ¬ (2147483648 ≤ (h3908 94 2)) := q3929
                refine x_const (np := 132) (x := 9223372034707292159) (a := 2147483647) (by decide +kernel) (by decide) (by decide) ?_
                refine x_goto (np := 135) (x := 140) (by decide +kernel) ?_
                refine x_istore (np := 142) (x := 5) (lo' := [x_r 75, iv_c 2147483652, iv_c 2147483650, iv_c v3905, iv_c 2147483649, iv_c 2147483647]) (by decide +kernel) (by decide) (Nat.le_of_ble_eq_true rfl) rfl ?_
                refine x_iload (np := 144) (x := 5) (by decide +kernel) rfl (by decide) ?_
                refine x_ifz (k := 2) (tg := 151) (np := 147) (by decide +kernel) (by decide) (by decide) (fun q3961 => ?_) (fun q3962 => ?_)
                · have q3961 : 2147483647 < 2147483648 := q3961
                  refine x_const (np := 152) (x := 9223372039002259456) (a := 2147483648) (by decide +kernel) (by decide) (by decide) ?_
                  refine x_istore (np := 154) (x := 4) (lo' := [x_r 75, iv_c 2147483652, iv_c 2147483650, iv_c v3905, iv_c 2147483648, iv_c 2147483647]) (by decide +kernel) (by decide) (Nat.le_of_ble_eq_true rfl) rfl ?_
                  refine x_iload (np := 156) (x := 4) (by decide +kernel) rfl (by decide) ?_
                  refine x_ifz (k := 0) (tg := 180) (np := 159) (by decide +kernel) (by decide) (by decide) (fun q3963 => ?_) (fun q3964 => ?_)
                  · have q3963 : 2147483648 = 2147483648 := q3963
                    refine x_iinc (np := 183) (i := 2) (j := 2147483647) (v := 2147483649) (lo' := [x_r 75, iv_c 2147483652, iv_c 2147483649, iv_c v3905, iv_c 2147483648, iv_c 2147483647]) (by decide +kernel) (by decide) (by decide) rfl (by decide) (by first | decide | omega) (by first | decide | omega) rfl ?_
                    refine x_goto (np := 186) (x := 12) (by decide +kernel) ?_
                    have q3965 : h3908 75 30 = h3896 75 30 := jK 0 f3910 rg_75_30_0_1 (by first | decide | omega) (by first | decide | omega) (by decide)
                    have q3966 : h3896 75 30 = (1 + (h3201 75 30)) := by rw [← e3898]; exact x_up_at
                    exact i3254 (iv_c v3905) (iv_c 2147483647) h3908 (by first | decide | omega) j3909 f3913 (by first | decide | omega)
                  have q3964 : ¬ (2147483648 = 2147483648) := q3964
                  exfalso; omega
                have q3962 : ¬ (2147483647 < 2147483648) := q3962
                exfalso; omega
              have q3924 : ¬ ((h3908 93 2) < 2147483648) := q3924
              refine x_aload (np := 112) (x := 0) (by decide +kernel) rfl (x_nc_le (by decide)) ?_
              refine x_aload (np := 113) (x := 0) (by decide +kernel) rfl (x_nc_le (by decide)) ?_
              have q3967 : h3908 75 27 = 93 := by have z := jB (e := 27) 0 j3909 rg_75_27_0_1 (by decide) (by decide); omega
              refine x_getR (np := 116) (x := 731) (f := 27) (q := 93) (by decide +kernel) (by decide) (by decide +kernel) q3967 ?_
              refine x_iload (np := 117) (x := 2) (by decide +kernel) rfl (by decide) ?_
              refine x_aldC (np := 118) (x := 0) (n := 6) (i := 2) (q := (h3908 93 2)) (by decide +kernel) (by decide +kernel) (by first | decide | omega) (by first | decide | omega) (by decide) rfl (fun l3968 => ?_)
              refine x_const (np := 119) (x := 9223372039002259456) (a := 2147483648) (by decide +kernel) (by decide) (by decide) ?_
              refine x_cV (t := 6) (mj := 248) (n := 3) (rc := 12) (ml := 4) (nr := 0) (np := 122) (as := [x_r 75, iv_c (h3908 93 2), iv_c 2147483648]) (rest := []) (lo1 := [x_r 75, iv_c (h3908 93 2), iv_c 2147483648, 147573952589676412928]) (by decide +kernel) (by decide) (by decide +kernel) (x_rb_of (by decide +kernel)) rfl rfl (x_wr (by decide) (x_wi l3922 (x_wi (by decide) x_wn))) x_wn (by decide) rfl (c248_75 j3909  (by first | decide | omega) (by first | decide | omega)) (fun h3972 q3971 => ?_)
              obtain ⟨j3973, f3974⟩ := q3971
              have f3977 := Fr.trans f3912 f3974 (by decide)
              have f3978 := Fr.trans f3913 f3974 (by decide)
              refine x_aload (np := 123) (x := 0) (by decide +kernel) rfl (x_nc_le (by decide)) ?_
              have q3979 : h3972 75 28 = 94 := by have z := jB (e := 28) 0 j3973 rg_75_28_0_1 (by decide) (by decide); omega
              refine x_getR (np := 126) (x := 732) (f := 28) (q := 94) (by decide +kernel) (by decide) (by decide +kernel) q3979 ?_
              refine x_iload (np := 127) (x := 2) (by decide +kernel) rfl (by decide) ?_
              have q3980 : h3972 94 2 = h3908 94 2 := jK 2 f3974 rg_94_0_1_6 (by first | decide | omega) (by first | decide | omega) (by decide)
              have b3981 := jB (e := 2) 2 j3909 rg_94_0_1_6 (by first | decide | omega) (by first | decide | omega)
              refine x_aldC (np := 128) (x := 0) (n := 6) (i := 2) (q := (h3908 94 2)) (by decide +kernel) (by decide +kernel) (by first | decide | omega) (by first | decide | omega) (by decide) q3980 (fun l3982 => ?_)
              refine x_ifz (k := 3) (tg := 135) (np := 131) (by decide +kernel) (by decide) l3982 (fun q3983 => ?_) (fun q3984 => ?_)
              · have q3983 : 2147483648 ≤ (h3908 94 2) := q3983
                refine x_aload (np := 136) (x := 0) (by decide +kernel) rfl (x_nc_le (by decide)) ?_
                refine x_iload (np := 137) (x := 2) (by decide +kernel) rfl (by decide) ?_
                have q3985 : h3972 94 2 = h3908 94 2 := jK 2 f3974 rg_94_0_1_6 (by first | decide | omega) (by first | decide | omega) (by decide)
                refine x_cP (t := 6) (mj := 257) (n := 2) (rc := 12) (ml := 3) (nr := 0) (np := 140) (as := [x_r 75, iv_c 2147483650]) (rest := []) (lo1 := [x_r 75, iv_c 2147483650, 147573952589676412928]) (by decide +kernel) (by decide) (by decide +kernel) (x_rb_of (by decide +kernel)) rfl rfl (x_wr (by decide) (x_wi (by decide) x_wn)) x_wn (by decide) rfl (c257_75_c2 j3973   (by first | decide | omega)) (fun v3986 l3987 q3988 => ?_)
                refine x_istore (np := 142) (x := 5) (lo' := [x_r 75, iv_c 2147483652, iv_c 2147483650, iv_c v3905, iv_c 2147483649, iv_c v3986]) (by decide +kernel) l3987 (Nat.le_of_ble_eq_true rfl) rfl ?_
                refine x_iload (np := 144) (x := 5) (by decide +kernel) rfl l3987 ?_
                refine x_ifz (k := 2) (tg := 151) (np := 147) (by decide +kernel) (by decide) l3987 (fun q3989 => ?_) (fun q3990 => ?_)
                · have q3989 : v3986 < 2147483648 := q3989
                  refine x_const (np := 152) (x := 9223372039002259456) (a := 2147483648) (by decide +kernel) (by decide) (by decide) ?_
                  refine x_istore (np := 154) (x := 4) (lo' := [x_r 75, iv_c 2147483652, iv_c 2147483650, iv_c v3905, iv_c 2147483648, iv_c v3986]) (by decide +kernel) (by decide) (Nat.le_of_ble_eq_true rfl) rfl ?_
                  refine x_iload (np := 156) (x := 4) (by decide +kernel) rfl (by decide) ?_
                  refine x_ifz (k := 0) (tg := 180) (np := 159) (by decide +kernel) (by decide) (by decide) (fun q3991 => ?_) (fun q3992 => ?_)
                  · have q3991 : 2147483648 = 2147483648 := q3991
                    refine x_iinc (np := 183) (i := 2) (j := 2147483647) (v := 2147483649) (lo' := [x_r 75, iv_c 2147483652, iv_c 2147483649, iv_c v3905, iv_c 2147483648, iv_c v3986]) (by decide +kernel) (by decide) (by decide) rfl (by decide) (by first | decide | omega) (by first | decide | omega) rfl ?_
                    refine x_goto (np := 186) (x := 12) (by decide +kernel) ?_
                    have q3993 : h3972 75 30 = h3908 75 30 := jK 0 f3974 rg_75_30_0_1 (by first | decide | omega) (by first | decide | omega) (by decide)
                    have q3994 : h3908 75 30 = h3896 75 30 := jK 0 f3910 rg_75_30_0_1 (by first | decide | omega) (by first | decide | omega) (by decide)
                    have q3995 : h3896 75 30 = (1 + (h3201 75 30)) := by rw [← e3898]; exact x_up_at
                    exact i3254 (iv_c v3905) (iv_c v3986) h3972 (by first | decide | omega) j3973 f3978 (by first | decide | omega)
                  have q3992 : ¬ (2147483648 = 2147483648) := q3992
                  exfalso; omega
                have q3990 : ¬ (v3986 < 2147483648) := q3990
                refine x_const (np := 148) (x := 9223372043297226753) (a := 2147483649) (by decide +kernel) (by decide) (by decide) ?_
                refine x_goto (np := 151) (x := 152) (by decide +kernel) ?_
                refine x_istore (np := 154) (x := 4) (lo' := [x_r 75, iv_c 2147483652, iv_c 2147483650, iv_c v3905, iv_c 2147483649, iv_c v3986]) (by decide +kernel) (by decide) (Nat.le_of_ble_eq_true rfl) rfl ?_
                refine x_iload (np := 156) (x := 4) (by decide +kernel) rfl (by decide) ?_
                refine x_ifz (k := 0) (tg := 180) (np := 159) (by decide +kernel) (by decide) (by decide) (fun q3996 => ?_) (fun q3997 => ?_)
                · have q3996 : 2147483649 = 2147483648 := q3996
                  exfalso; omega
                have q3997 : ¬ (2147483649 = 2147483648) := q3997
                refine x_aload (np := 160) (x := 0) (by decide +kernel) rfl (x_nc_le (by decide)) ?_
                have q3998 : h3972 75 27 = 93 := by have z := jB (e := 27) 0 j3973 rg_75_27_0_1 (by decide) (by decide); omega
                refine x_getR (np := 163) (x := 731) (f := 27) (q := 93) (by decide +kernel) (by decide) (by decide +kernel) q3998 ?_
                refine x_iload (np := 164) (x := 2) (by decide +kernel) rfl (by decide) ?_
                refine x_iload (np := 166) (x := 5) (by decide +kernel) rfl l3987 ?_
                refine x_ast (np := 167) (x := 0) (kd := 1) (n := 6) (i := 2) (by decide +kernel) (Or.inl rfl) (by decide +kernel) (by first | decide | omega) (by first | decide | omega) (by decide) l3987 (fun z => absurd z (by decide)) ?_
                have j4000 := jU (e := 2) (v := v3986) 2 j3973 rg_93_0_1_6 (by first | decide | omega) (by first | decide | omega) (by first | decide | omega)
                have f4002 := jF (e := 2) (v := v3986) 2 f3977 rg_93_0_1_6 (by first | decide | omega) (by first | decide | omega) (by decide)
                have f4003 := jF (e := 2) (v := v3986) 2 f3978 rg_93_0_1_6 (by first | decide | omega) (by first | decide | omega) (by decide)
                generalize e4001 : x_up h3972 93 2 v3986 = h3999 at j4000 f4002 f4003 ⊢
                refine x_aload (np := 168) (x := 0) (by decide +kernel) rfl (x_nc_le (by decide)) ?_
                refine x_iload (np := 170) (x := 5) (by decide +kernel) rfl l3987 ?_
                refine x_const (np := 171) (x := 9223372043297226753) (a := 2147483649) (by decide +kernel) (by decide) (by decide) ?_
                refine x_cV (t := 6) (mj := 248) (n := 3) (rc := 12) (ml := 4) (nr := 0) (np := 174) (as := [x_r 75, iv_c v3986, iv_c 2147483649]) (rest := []) (lo1 := [x_r 75, iv_c v3986, iv_c 2147483649, 147573952589676412928]) (by decide +kernel) (by decide) (by decide +kernel) (x_rb_of (by decide +kernel)) rfl rfl (x_wr (by decide) (x_wi l3987 (x_wi (by decide) x_wn))) x_wn (by decide) rfl (c248_75 j4000  (by first | decide | omega) (by first | decide | omega)) (fun h4007 q4006 => ?_)
                obtain ⟨j4008, f4009⟩ := q4006
                have f4012 := Fr.trans f4002 f4009 (by decide)
                have f4013 := Fr.trans f4003 f4009 (by decide)
                refine x_iinc (np := 177) (i := 2) (j := 2147483649) (v := 2147483651) (lo' := [x_r 75, iv_c 2147483652, iv_c 2147483651, iv_c v3905, iv_c 2147483649, iv_c v3986]) (by decide +kernel) (by decide) (by decide) rfl (by decide) (by first | decide | omega) (by first | decide | omega) rfl ?_
                refine x_goto (np := 180) (x := 183) (by decide +kernel) ?_
                refine x_goto (np := 186) (x := 12) (by decide +kernel) ?_
                have q4014 : h4007 75 30 = h3999 75 30 := jK 0 f4009 rg_75_30_0_1 (by first | decide | omega) (by first | decide | omega) (by decide)
                have q4015 : h3999 75 30 = h3972 75 30 := by rw [← e4001]; exact x_up_k (by decide)
                have q4016 : h3972 75 30 = h3908 75 30 := jK 0 f3974 rg_75_30_0_1 (by first | decide | omega) (by first | decide | omega) (by decide)
                have q4017 : h3908 75 30 = h3896 75 30 := jK 0 f3910 rg_75_30_0_1 (by first | decide | omega) (by first | decide | omega) (by decide)
                have q4018 : h3896 75 30 = (1 + (h3201 75 30)) := by rw [← e3898]; exact x_up_at
                exact i3250 (iv_c v3905) (iv_c v3986) h4007 (by first | decide | omega) j4008 f4013 (by first | decide | omega)
              have q3984 : ¬ (2147483648 ≤ (h3908 94 2)) := q3984
              refine x_const (np := 132) (x := 9223372034707292159) (a := 2147483647) (by decide +kernel) (by decide) (by decide) ?_
              refine x_goto (np := 135) (x := 140) (by decide +kernel) ?_
              refine x_istore (np := 142) (x := 5) (lo' := [x_r 75, iv_c 2147483652, iv_c 2147483650, iv_c v3905, iv_c 2147483649, iv_c 2147483647]) (by decide +kernel) (by decide) (Nat.le_of_ble_eq_true rfl) rfl ?_
              refine x_iload (np := 144) (x := 5) (by decide +kernel) rfl (by decide) ?_
              refine x_ifz (k := 2) (tg := 151) (np := 147) (by decide +kernel) (by decide) (by decide) (fun q4019 => ?_) (fun q4020 => ?_)
              · have q4019 : 2147483647 < 2147483648 := q4019
                refine x_const (np := 152) (x := 9223372039002259456) (a := 2147483648) (by decide +kernel) (by decide) (by decide) ?_
                refine x_istore (np := 154) (x := 4) (lo' := [x_r 75, iv_c 2147483652, iv_c 2147483650, iv_c v3905, iv_c 2147483648, iv_c 2147483647]) (by decide +kernel) (by decide) (Nat.le_of_ble_eq_true rfl) rfl ?_
                refine x_iload (np := 156) (x := 4) (by decide +kernel) rfl (by decide) ?_
                refine x_ifz (k := 0) (tg := 180) (np := 159) (by decide +kernel) (by decide) (by decide) (fun q4021 => ?_) (fun q4022 => ?_)
                · have q4021 : 2147483648 = 2147483648 := q4021
                  refine x_iinc (np := 183) (i := 2) (j := 2147483647) (v := 2147483649) (lo' := [x_r 75, iv_c 2147483652, iv_c 2147483649, iv_c v3905, iv_c 2147483648, iv_c 2147483647]) (by decide +kernel) (by decide) (by decide) rfl (by decide) (by first | decide | omega) (by first | decide | omega) rfl ?_
                  refine x_goto (np := 186) (x := 12) (by decide +kernel) ?_
                  have q4023 : h3972 75 30 = h3908 75 30 := jK 0 f3974 rg_75_30_0_1 (by first | decide | omega) (by first | decide | omega) (by decide)
                  have q4024 : h3908 75 30 = h3896 75 30 := jK 0 f3910 rg_75_30_0_1 (by first | decide | omega) (by first | decide | omega) (by decide)
                  have q4025 : h3896 75 30 = (1 + (h3201 75 30)) := by rw [← e3898]; exact x_up_at
                  exact i3254 (iv_c v3905) (iv_c 2147483647) h3972 (by first | decide | omega) j3973 f3978 (by first | decide | omega)
                have q4022 : ¬ (2147483648 = 2147483648) := q4022
                exfalso; omega
              have q4020 : ¬ (2147483647 < 2147483648) := q4020
              exfalso; omega
            have q3919 : ¬ (2147483650 ≠ 2147483652) := q3919
            exfalso; omega
          have q3915 : ¬ (v3905 ≠ 2147483649) := q3915
          refine x_aload (np := 55) (x := 0) (by decide +kernel) rfl (x_nc_le (by decide)) ?_
          have q4026 : h3908 75 34 = h3896 75 34 := jK 0 f3910 rg_75_34_0_1 (by first | decide | omega) (by first | decide | omega) (by decide)
          have q4027 : h3896 75 34 = h3201 75 34 := by rw [← e3898]; exact x_up_i (by first | decide | omega)
          refine x_getC (np := 58) (x := 738) (f := 34) (q := (h3201 75 34)) (by decide +kernel) (by decide) (by decide +kernel) (q4026.trans q4027) (fun l4028 => ?_)
          refine x_ifz (k := 1) (tg := 66) (np := 61) (by decide +kernel) (by decide) l4028 (fun q4029 => ?_) (fun q4030 => ?_)
          · have q4029 : (h3201 75 34) ≠ 2147483648 := q4029
            refine x_aload (np := 67) (x := 0) (by decide +kernel) rfl (x_nc_le (by decide)) ?_
            refine x_dup (np := 68) (x := 0) (by decide +kernel) (by have z := x_nc_le (k := 75) (by decide); unfold x_r; omega) ?_
            have q4031 : h3908 75 34 = h3896 75 34 := jK 0 f3910 rg_75_34_0_1 (by first | decide | omega) (by first | decide | omega) (by decide)
            have q4032 : h3896 75 34 = h3201 75 34 := by rw [← e3898]; exact x_up_i (by first | decide | omega)
            refine x_getC (np := 71) (x := 738) (f := 34) (q := (h3201 75 34)) (by decide +kernel) (by decide) (by decide +kernel) (q4031.trans q4032) (fun l4033 => ?_)
            refine x_const (np := 72) (x := 9223372043297226753) (a := 2147483649) (by decide +kernel) (by decide) (by decide) ?_
            refine x_addA (by rw [tb_b259]; decide +kernel) l4028 (by decide) (fun v4034 l4035 => ?_)
            refine x_putI (np := 76) (x := 738) (f := 34) (by decide +kernel) (by decide +kernel) l4035 (Or.inl (by decide)) ?_
            have j4037 := jU (e := 34) (v := v4034) 0 j3909 rg_75_34_0_1 (by first | decide | omega) (by first | decide | omega) (by first | decide | omega)
            have f4039 := jF (e := 34) (v := v4034) 0 f3912 rg_75_34_0_1 (by first | decide | omega) (by first | decide | omega) (by decide)
            have f4040 := jF (e := 34) (v := v4034) 0 f3913 rg_75_34_0_1 (by first | decide | omega) (by first | decide | omega) (by decide)
            generalize e4038 : x_up h3908 75 34 v4034 = h4036 at j4037 f4039 f4040 ⊢
            refine x_aload (np := 77) (x := 0) (by decide +kernel) rfl (x_nc_le (by decide)) ?_
            have q4041 : h4036 75 33 = h3908 75 33 := by rw [← e4038]; exact x_up_i (by first | decide | omega)
            have q4042 : h3908 75 33 = h3896 75 33 := jK 0 f3910 rg_75_33_0_1 (by first | decide | omega) (by first | decide | omega) (by decide)
            have q4043 : h3896 75 33 = h3201 75 33 := by rw [← e3898]; exact x_up_i (by first | decide | omega)
            have q4044 : h3201 75 33 = h2 75 33 := jK 0 f3203 rg_75_33_0_1 (by first | decide | omega) (by first | decide | omega) (by decide)
            have q4045 : h2 75 33 = h 75 33 := by rw [← e4]; exact x_up_i (by first | decide | omega)
            have b4046 := jB (e := 33) 0 hJ rg_75_33_0_1 (by first | decide | omega) (by first | decide | omega)
            refine x_getC (np := 80) (x := 737) (f := 33) (q := (h 75 33)) (by decide +kernel) (by decide) (by decide +kernel) ((((q4041.trans q4042).trans q4043).trans q4044).trans q4045) (fun l4047 => ?_)
            refine x_ifz (k := 0) (tg := 85) (np := 83) (by decide +kernel) (by decide) l4047 (fun q4048 => ?_) (fun q4049 => ?_)
            · have q4048 : (h 75 33) = 2147483648 := q4048
              refine x_iload (np := 86) (x := 3) (by decide +kernel) rfl l3906 ?_
              refine x_const (np := 87) (x := 9223372043297226753) (a := 2147483649) (by decide +kernel) (by decide) (by decide) ?_
              refine x_icmp (k := 0) (tg := 95) (np := 90) (by decide +kernel) (by decide) l3906 (by decide) (fun q4050 => ?_) (fun q4051 => ?_)
              · have q4050 : v3905 = 2147483649 := q4050
                refine x_aload (np := 96) (x := 0) (by decide +kernel) rfl (x_nc_le (by decide)) ?_
                have q4052 : h4036 75 28 = 94 := by have z := jB (e := 28) 0 j4037 rg_75_28_0_1 (by decide) (by decide); omega
                refine x_getR (np := 99) (x := 732) (f := 28) (q := 94) (by decide +kernel) (by decide) (by decide +kernel) q4052 ?_
                refine x_iload (np := 100) (x := 2) (by decide +kernel) rfl (by decide) ?_
                refine x_const (np := 101) (x := 9223372034707292159) (a := 2147483647) (by decide +kernel) (by decide) (by decide) ?_
                refine x_ast (np := 102) (x := 0) (kd := 1) (n := 6) (i := 2) (by decide +kernel) (Or.inl rfl) (by decide +kernel) (by first | decide | omega) (by first | decide | omega) (by decide) (by decide) (fun z => absurd z (by decide)) ?_
                have j4054 := jU (e := 2) (v := 2147483647) 2 j4037 rg_94_0_1_6 (by first | decide | omega) (by first | decide | omega) (by first | decide | omega)
                have f4056 := jF (e := 2) (v := 2147483647) 2 f4039 rg_94_0_1_6 (by first | decide | omega) (by first | decide | omega) (by decide)
                have f4057 := jF (e := 2) (v := 2147483647) 2 f4040 rg_94_0_1_6 (by first | decide | omega) (by first | decide | omega) (by decide)
                generalize e4055 : x_up h4036 94 2 2147483647 = h4053 at j4054 f4056 f4057 ⊢
                refine x_aload (np := 103) (x := 0) (by decide +kernel) rfl (x_nc_le (by decide)) ?_
                have q4058 : h4053 75 27 = 93 := by have z := jB (e := 27) 0 j4054 rg_75_27_0_1 (by decide) (by decide); omega
                refine x_getR (np := 106) (x := 731) (f := 27) (q := 93) (by decide +kernel) (by decide) (by decide +kernel) q4058 ?_
                refine x_iload (np := 107) (x := 2) (by decide +kernel) rfl (by decide) ?_
                have q4059 : h4053 93 2 = h4036 93 2 := by rw [← e4055]; exact x_up_k (by decide)
                have q4060 : h4036 93 2 = h3908 93 2 := by rw [← e4038]; exact x_up_k (by decide)
                have b4061 := jB (e := 2) 2 j3909 rg_93_0_1_6 (by first | decide | omega) (by first | decide | omega)
                refine x_aldC (np := 108) (x := 0) (n := 6) (i := 2) (q := (h3908 93 2)) (by decide +kernel) (by decide +kernel) (by first | decide | omega) (by first | decide | omega) (by decide) (q4059.trans q4060) (fun l4062 => ?_)
                refine x_ifz (k := 2) (tg := 122) (np := 111) (by decide +kernel) (by decide) l4062 (fun q4063 => ?_) (fun q4064 => ?_)
                · have q4063 : (h3908 93 2) < 2147483648 := q4063
                  refine x_aload (np := 123) (x := 0) (by decide +kernel) rfl (x_nc_le (by decide)) ?_
                  have q4065 : h4053 75 28 = 94 := by have z := jB (e := 28) 0 j4054 rg_75_28_0_1 (by decide) (by decide); omega
                  refine x_getR (np := 126) (x := 732) (f := 28) (q := 94) (by decide +kernel) (by decide) (by decide +kernel) q4065 ?_
                  refine x_iload (np := 127) (x := 2) (by decide +kernel) rfl (by decide) ?_
                  have q4066 : h4053 94 2 = 2147483647 := by rw [← e4055]; exact x_up_at
                  refine x_aldC (np := 128) (x := 0) (n := 6) (i := 2) (q := 2147483647) (by decide +kernel) (by decide +kernel) (by first | decide | omega) (by first | decide | omega) (by decide) q4066 (fun l4067 => ?_)
                  refine x_ifz (k := 3) (tg := 135) (np := 131) (by decide +kernel) (by decide) (by decide) (fun q4068 => ?_) (fun q4069 => ?_)
                  · have q4068 : 2147483648 ≤ 2147483647 := q4068
                    exfalso; omega
                  have q4069 : ¬ (2147483648 ≤ 2147483647) := q4069
                  refine x_const (np := 132) (x := 9223372034707292159) (a := 2147483647) (by decide +kernel) (by decide) (by decide) ?_
                  refine x_goto (np := 135) (x := 140) (by decide +kernel) ?_
                  refine x_istore (np := 142) (x := 5) (lo' := [x_r 75, iv_c 2147483652, iv_c 2147483650, iv_c v3905, iv_c 2147483649, iv_c 2147483647]) (by decide +kernel) (by decide) (Nat.le_of_ble_eq_true rfl) rfl ?_
                  refine x_iload (np := 144) (x := 5) (by decide +kernel) rfl (by decide) ?_
                  refine x_ifz (k := 2) (tg := 151) (np := 147) (by decide +kernel) (by decide) (by decide) (fun q4070 => ?_) (fun q4071 => ?_)
                  · have q4070 : 2147483647 < 2147483648 := q4070
                    refine x_const (np := 152) (x := 9223372039002259456) (a := 2147483648) (by decide +kernel) (by decide) (by decide) ?_
                    refine x_istore (np := 154) (x := 4) (lo' := [x_r 75, iv_c 2147483652, iv_c 2147483650, iv_c v3905, iv_c 2147483648, iv_c 2147483647]) (by decide +kernel) (by decide) (Nat.le_of_ble_eq_true rfl) rfl ?_
                    refine x_iload (np := 156) (x := 4) (by decide +kernel) rfl (by decide) ?_
                    refine x_ifz (k := 0) (tg := 180) (np := 159) (by decide +kernel) (by decide) (by decide) (fun q4072 => ?_) (fun q4073 => ?_)
                    · have q4072 : 2147483648 = 2147483648 := q4072
                      refine x_iinc (np := 183) (i := 2) (j := 2147483647) (v := 2147483649) (lo' := [x_r 75, iv_c 2147483652, iv_c 2147483649, iv_c v3905, iv_c 2147483648, iv_c 2147483647]) (by decide +kernel) (by decide) (by decide) rfl (by decide) (by first | decide | omega) (by first | decide | omega) rfl ?_
                      refine x_goto (np := 186) (x := 12) (by decide +kernel) ?_
                      have q4074 : h4053 75 30 = h4036 75 30 := by rw [← e4055]; exact x_up_k (by decide)
                      have q4075 : h4036 75 30 = h3908 75 30 := by rw [← e4038]; exact x_up_i (by first | decide | omega)
                      have q4076 : h3908 75 30 = h3896 75 30 := jK 0 f3910 rg_75_30_0_1 (by first | decide | omega) (by first | decide | omega) (by decide)
                      have q4077 : h3896 75 30 = (1 + (h3201 75 30)) := by rw [← e3898]; exact x_up_at
                      exact i3254 (iv_c v3905) (iv_c 2147483647) h4053 (by first | decide | omega) j4054 f4057 (by first | decide | omega)
                    have q4073 : ¬ (2147483648 = 2147483648) := q4073
                    exfalso; omega
                  have q4071 : ¬ (2147483647 < 2147483648) := q4071
                  exfalso; omega
                have q4064 : ¬ ((h3908 93 2) < 2147483648) := q4064
                refine x_aload (np := 112) (x := 0) (by decide +kernel) rfl (x_nc_le (by decide)) ?_
                refine x_aload (np := 113) (x := 0) (by decide +kernel) rfl (x_nc_le (by decide)) ?_
                have q4078 : h4053 75 27 = 93 := by have z := jB (e := 27) 0 j4054 rg_75_27_0_1 (by decide) (by decide); omega
                refine x_getR (np := 116) (x := 731) (f := 27) (q := 93) (by decide +kernel) (by decide) (by decide +kernel) q4078 ?_
                refine x_iload (np := 117) (x := 2) (by decide +kernel) rfl (by decide) ?_
                have q4079 : h4053 93 2 = h4036 93 2 := by rw [← e4055]; exact x_up_k (by decide)
                have q4080 : h4036 93 2 = h3908 93 2 := by rw [← e4038]; exact x_up_k (by decide)
                refine x_aldC (np := 118) (x := 0) (n := 6) (i := 2) (q := (h3908 93 2)) (by decide +kernel) (by decide +kernel) (by first | decide | omega) (by first | decide | omega) (by decide) (q4079.trans q4080) (fun l4081 => ?_)
                refine x_const (np := 119) (x := 9223372039002259456) (a := 2147483648) (by decide +kernel) (by decide) (by decide) ?_
                refine x_cV (t := 6) (mj := 248) (n := 3) (rc := 12) (ml := 4) (nr := 0) (np := 122) (as := [x_r 75, iv_c (h3908 93 2), iv_c 2147483648]) (rest := []) (lo1 := [x_r 75, iv_c (h3908 93 2), iv_c 2147483648, 147573952589676412928]) (by decide +kernel) (by decide) (by decide +kernel) (x_rb_of (by decide +kernel)) rfl rfl (x_wr (by decide) (x_wi l4062 (x_wi (by decide) x_wn))) x_wn (by decide) rfl (c248_75 j4054  (by first | decide | omega) (by first | decide | omega)) (fun h4085 q4084 => ?_)
                obtain ⟨j4086, f4087⟩ := q4084
                have f4090 := Fr.trans f4056 f4087 (by decide)
                have f4091 := Fr.trans f4057 f4087 (by decide)
                refine x_aload (np := 123) (x := 0) (by decide +kernel) rfl (x_nc_le (by decide)) ?_
                have q4092 : h4085 75 28 = 94 := by have z := jB (e := 28) 0 j4086 rg_75_28_0_1 (by decide) (by decide); omega
                refine x_getR (np := 126) (x := 732) (f := 28) (q := 94) (by decide +kernel) (by decide) (by decide +kernel) q4092 ?_
                refine x_iload (np := 127) (x := 2) (by decide +kernel) rfl (by decide) ?_
                have q4093 : h4085 94 2 = h4053 94 2 := jK 2 f4087 rg_94_0_1_6 (by first | decide | omega) (by first | decide | omega) (by decide)
                have q4094 : h4053 94 2 = 2147483647 := by rw [← e4055]; exact x_up_at
                refine x_aldC (np := 128) (x := 0) (n := 6) (i := 2) (q := 2147483647) (by decide +kernel) (by decide +kernel) (by first | decide | omega) (by first | decide | omega) (by decide) (q4093.trans q4094) (fun l4095 => ?_)
                refine x_ifz (k := 3) (tg := 135) (np := 131) (by decide +kernel) (by decide) (by decide) (fun q4096 => ?_) (fun q4097 => ?_)
                · have q4096 : 2147483648 ≤ 2147483647 := q4096
                  exfalso; omega
                have q4097 : ¬ (2147483648 ≤ 2147483647) := q4097
                refine x_const (np := 132) (x := 9223372034707292159) (a := 2147483647) (by decide +kernel) (by decide) (by decide) ?_
                refine x_goto (np := 135) (x := 140) (by decide +kernel) ?_
                refine x_istore (np := 142) (x := 5) (lo' := [x_r 75, iv_c 2147483652, iv_c 2147483650, iv_c v3905, iv_c 2147483649, iv_c 2147483647]) (by decide +kernel) (by decide) (Nat.le_of_ble_eq_true rfl) rfl ?_
                refine x_iload (np := 144) (x := 5) (by decide +kernel) rfl (by decide) ?_
                refine x_ifz (k := 2) (tg := 151) (np := 147) (by decide +kernel) (by decide) (by decide) (fun q4098 => ?_) (fun q4099 => ?_)
                · have q4098 : 2147483647 < 2147483648 := q4098
                  refine x_const (np := 152) (x := 9223372039002259456) (a := 2147483648) (by decide +kernel) (by decide) (by decide) ?_
                  refine x_istore (np := 154) (x := 4) (lo' := [x_r 75, iv_c 2147483652, iv_c 2147483650, iv_c v3905, iv_c 2147483648, iv_c 2147483647]) (by decide +kernel) (by decide) (Nat.le_of_ble_eq_true rfl) rfl ?_
                  refine x_iload (np := 156) (x := 4) (by decide +kernel) rfl (by decide) ?_
                  refine x_ifz (k := 0) (tg := 180) (np := 159) (by decide +kernel) (by decide) (by decide) (fun q4100 => ?_) (fun q4101 => ?_)
                  · have q4100 : 2147483648 = 2147483648 := q4100
                    refine x_iinc (np := 183) (i := 2) (j := 2147483647) (v := 2147483649) (lo' := [x_r 75, iv_c 2147483652, iv_c 2147483649, iv_c v3905, iv_c 2147483648, iv_c 2147483647]) (by decide +kernel) (by decide) (by decide) rfl (by decide) (by first | decide | omega) (by first | decide | omega) rfl ?_
                    refine x_goto (np := 186) (x := 12) (by decide +kernel) ?_
                    have q4102 : h4085 75 30 = h4053 75 30 := jK 0 f4087 rg_75_30_0_1 (by first | decide | omega) (by first | decide | omega) (by decide)
                    have q4103 : h4053 75 30 = h4036 75 30 := by rw [← e4055]; exact x_up_k (by decide)
                    have q4104 : h4036 75 30 = h3908 75 30 := by rw [← e4038]; exact x_up_i (by first | decide | omega)
                    have q4105 : h3908 75 30 = h3896 75 30 := jK 0 f3910 rg_75_30_0_1 (by first | decide | omega) (by first | decide | omega) (by decide)
                    have q4106 : h3896 75 30 = (1 + (h3201 75 30)) := by rw [← e3898]; exact x_up_at
                    exact i3254 (iv_c v3905) (iv_c 2147483647) h4085 (by first | decide | omega) j4086 f4091 (by first | decide | omega)
                  have q4101 : ¬ (2147483648 = 2147483648) := q4101
                  exfalso; omega
                have q4099 : ¬ (2147483647 < 2147483648) := q4099
                exfalso; omega
              have q4051 : ¬ (v3905 = 2147483649) := q4051
              exfalso; omega
            have q4049 : ¬ ((h 75 33) = 2147483648) := q4049
            refine x_const (np := 84) (x := 9223372043297226753) (a := 2147483649) (by decide +kernel) (by decide) (by decide) ?_
            have q4107 : h4036 75 30 = h3908 75 30 := by rw [← e4038]; exact x_up_i (by first | decide | omega)
            have q4108 : h3908 75 30 = h3896 75 30 := jK 0 f3910 rg_75_30_0_1 (by first | decide | omega) (by first | decide | omega) (by decide)
            have q4109 : h3896 75 30 = (1 + (h3201 75 30)) := by rw [← e3898]; exact x_up_at
            refine x_retI (np := 85) (x := 0) (by decide +kernel) (by decide) (Or.inr ⟨by decide +kernel, by first | decide | omega, by first | decide | omega⟩) ⟨_, rfl, (by decide), ?_⟩
            exact ⟨j4037, f4039, (by first | decide | omega), (fun z => by first | decide | omega)⟩
          have q4030 : ¬ ((h3201 75 34) ≠ 2147483648) := q4030
          refine x_aload (np := 62) (x := 0) (by decide +kernel) rfl (x_nc_le (by decide)) ?_
          refine x_iload (np := 63) (x := 2) (by decide +kernel) rfl (by decide) ?_
          refine x_cV (t := 6) (mj := 258) (n := 2) (rc := 12) (ml := 4) (nr := 0) (np := 66) (as := [x_r 75, iv_c 2147483650]) (rest := []) (lo1 := [x_r 75, iv_c 2147483650, 147573952589676412928, 147573952589676412928]) (by decide +kernel) (by decide) (by decide +kernel) (x_rb_of (by decide +kernel)) rfl rfl (x_wr (by decide) (x_wi (by decide) x_wn)) x_wn (by decide) rfl (c258_75 j3909  (by first | decide | omega)) (fun h4113 q4112 => ?_)
          obtain ⟨j4114, f4115⟩ := q4112
          have f4118 := Fr.trans f3912 f4115 (by decide)
          have f4119 := Fr.trans f3913 f4115 (by decide)
          refine x_aload (np := 67) (x := 0) (by decide +kernel) rfl (x_nc_le (by decide)) ?_
          refine x_dup (np := 68) (x := 0) (by decide +kernel) (by have z := x_nc_le (k := 75) (by decide); unfold x_r; omega) ?_
          have q4120 : h4113 75 34 = h3908 75 34 := jK 0 f4115 rg_75_34_0_1 (by first | decide | omega) (by first | decide | omega) (by decide)
          have q4121 : h3908 75 34 = h3896 75 34 := jK 0 f3910 rg_75_34_0_1 (by first | decide | omega) (by first | decide | omega) (by decide)
          have q4122 : h3896 75 34 = h3201 75 34 := by rw [← e3898]; exact x_up_i (by first | decide | omega)
          refine x_getC (np := 71) (x := 738) (f := 34) (q := (h3201 75 34)) (by decide +kernel) (by decide) (by decide +kernel) ((q4120.trans q4121).trans q4122) (fun l4123 => ?_)
          refine x_const (np := 72) (x := 9223372043297226753) (a := 2147483649) (by decide +kernel) (by decide) (by decide) ?_
          refine x_iadd (np := 73) (x := 0) (v := (1 + (h3201 75 34))) (by decide +kernel) l4028 (by decide) (by first | decide | omega) (by first | decide | omega) ?_
          refine x_putI (np := 76) (x := 738) (f := 34) (by decide +kernel) (by decide +kernel) (by first | decide | omega) (Or.inl (by decide)) ?_
          have j4125 := jU (e := 34) (v := (1 + (h3201 75 34))) 0 j4114 rg_75_34_0_1 (by first | decide | omega) (by first | decide | omega) (by first | decide | omega)
          have f4127 := jF (e := 34) (v := (1 + (h3201 75 34))) 0 f4118 rg_75_34_0_1 (by first | decide | omega) (by first | decide | omega) (by decide)
          have f4128 := jF (e := 34) (v := (1 + (h3201 75 34))) 0 f4119 rg_75_34_0_1 (by first | decide | omega) (by first | decide | omega) (by decide)
          generalize e4126 : x_up h4113 75 34 (1 + (h3201 75 34)) = h4124 at j4125 f4127 f4128 ⊢
          refine x_aload (np := 77) (x := 0) (by decide +kernel) rfl (x_nc_le (by decide)) ?_
          have q4129 : h4124 75 33 = h4113 75 33 := by rw [← e4126]; exact x_up_i (by first | decide | omega)
          have q4130 : h4113 75 33 = h3908 75 33 := jK 0 f4115 rg_75_33_0_1 (by first | decide | omega) (by first | decide | omega) (by decide)
          have q4131 : h3908 75 33 = h3896 75 33 := jK 0 f3910 rg_75_33_0_1 (by first | decide | omega) (by first | decide | omega) (by decide)
          have q4132 : h3896 75 33 = h3201 75 33 := by rw [← e3898]; exact x_up_i (by first | decide | omega)
          have q4133 : h3201 75 33 = h2 75 33 := jK 0 f3203 rg_75_33_0_1 (by first | decide | omega) (by first | decide | omega) (by decide)
          have q4134 : h2 75 33 = h 75 33 := by rw [← e4]; exact x_up_i (by first | decide | omega)
          have b4135 := jB (e := 33) 0 hJ rg_75_33_0_1 (by first | decide | omega) (by first | decide | omega)
          refine x_getC (np := 80) (x := 737) (f := 33) (q := (h 75 33)) (by decide +kernel) (by decide) (by decide +kernel) (((((q4129.trans q4130).trans q4131).trans q4132).trans q4133).trans q4134) (fun l4136 => ?_)
          refine x_ifz (k := 0) (tg := 85) (np := 83) (by decide +kernel) (by decide) l4136 (fun q4137 => ?_) (fun q4138 => ?_)
          · have q4137 : (h 75 33) = 2147483648 := q4137
            refine x_iload (np := 86) (x := 3) (by decide +kernel) rfl l3906 ?_
            refine x_const (np := 87) (x := 9223372043297226753) (a := 2147483649) (by decide +kernel) (by decide) (by decide) ?_
            refine x_icmp (k := 0) (tg := 95) (np := 90) (by decide +kernel) (by decide) l3906 (by decide) (fun q4139 => ?_) (fun q4140 => ?_)
            · have q4139 : v3905 = 2147483649 := q4139
              refine x_aload (np := 96) (x := 0) (by decide +kernel) rfl (x_nc_le (by decide)) ?_
              have q4141 : h4124 75 28 = 94 := by have z := jB (e := 28) 0 j4125 rg_75_28_0_1 (by decide) (by decide); omega
              refine x_getR (np := 99) (x := 732) (f := 28) (q := 94) (by decide +kernel) (by decide) (by decide +kernel) q4141 ?_
              refine x_iload (np := 100) (x := 2) (by decide +kernel) rfl (by decide) ?_
              refine x_const (np := 101) (x := 9223372034707292159) (a := 2147483647) (by decide +kernel) (by decide) (by decide) ?_
              refine x_ast (np := 102) (x := 0) (kd := 1) (n := 6) (i := 2) (by decide +kernel) (Or.inl rfl) (by decide +kernel) (by first | decide | omega) (by first | decide | omega) (by decide) (by decide) (fun z => absurd z (by decide)) ?_
              have j4143 := jU (e := 2) (v := 2147483647) 2 j4125 rg_94_0_1_6 (by first | decide | omega) (by first | decide | omega) (by first | decide | omega)
              have f4145 := jF (e := 2) (v := 2147483647) 2 f4127 rg_94_0_1_6 (by first | decide | omega) (by first | decide | omega) (by decide)
              have f4146 := jF (e := 2) (v := 2147483647) 2 f4128 rg_94_0_1_6 (by first | decide | omega) (by first | decide | omega) (by decide)
              generalize e4144 : x_up h4124 94 2 2147483647 = h4142 at j4143 f4145 f4146 ⊢
              refine x_aload (np := 103) (x := 0) (by decide +kernel) rfl (x_nc_le (by decide)) ?_
              have q4147 : h4142 75 27 = 93 := by have z := jB (e := 27) 0 j4143 rg_75_27_0_1 (by decide) (by decide); omega
              refine x_getR (np := 106) (x := 731) (f := 27) (q := 93) (by decide +kernel) (by decide) (by decide +kernel) q4147 ?_
              refine x_iload (np := 107) (x := 2) (by decide +kernel) rfl (by decide) ?_
              have q4148 : h4142 93 2 = h4124 93 2 := by rw [← e4144]; exact x_up_k (by decide)
              have q4149 : h4124 93 2 = h4113 93 2 := by rw [← e4126]; exact x_up_k (by decide)
              have q4150 : h4113 93 2 = h3908 93 2 := jK 2 f4115 rg_93_0_1_6 (by first | decide | omega) (by first | decide | omega) (by decide)
              have b4151 := jB (e := 2) 2 j3909 rg_93_0_1_6 (by first | decide | omega) (by first | decide | omega)
              refine x_aldC (np := 108) (x := 0) (n := 6) (i := 2) (q := (h3908 93 2)) (by decide +kernel) (by decide +kernel) (by first | decide | omega) (by first | decide | omega) (by decide) ((q4148.trans q4149).trans q4150) (fun l4152 => ?_)
              refine x_ifz (k := 2) (tg := 122) (np := 111) (by decide +kernel) (by decide) l4152 (fun q4153 => ?_) (fun q4154 => ?_)
              · have q4153 : (h3908 93 2) < 2147483648 := q4153
                refine x_aload (np := 123) (x := 0) (by decide +kernel) rfl (x_nc_le (by decide)) ?_
                have q4155 : h4142 75 28 = 94 := by have z := jB (e := 28) 0 j4143 rg_75_28_0_1 (by decide) (by decide); omega
                refine x_getR (np := 126) (x := 732) (f := 28) (q := 94) (by decide +kernel) (by decide) (by decide +kernel) q4155 ?_
                refine x_iload (np := 127) (x := 2) (by decide +kernel) rfl (by decide) ?_
                have q4156 : h4142 94 2 = 2147483647 := by rw [← e4144]; exact x_up_at
                refine x_aldC (np := 128) (x := 0) (n := 6) (i := 2) (q := 2147483647) (by decide +kernel) (by decide +kernel) (by first | decide | omega) (by first | decide | omega) (by decide) q4156 (fun l4157 => ?_)
                refine x_ifz (k := 3) (tg := 135) (np := 131) (by decide +kernel) (by decide) (by decide) (fun q4158 => ?_) (fun q4159 => ?_)
                · have q4158 : 2147483648 ≤ 2147483647 := q4158
                  exfalso; omega
                have q4159 : ¬ (2147483648 ≤ 2147483647) := q4159
                refine x_const (np := 132) (x := 9223372034707292159) (a := 2147483647) (by decide +kernel) (by decide) (by decide) ?_
                refine x_goto (np := 135) (x := 140) (by decide +kernel) ?_
                refine x_istore (np := 142) (x := 5) (lo' := [x_r 75, iv_c 2147483652, iv_c 2147483650, iv_c v3905, iv_c 2147483649, iv_c 2147483647]) (by decide +kernel) (by decide) (Nat.le_of_ble_eq_true rfl) rfl ?_
                refine x_iload (np := 144) (x := 5) (by decide +kernel) rfl (by decide) ?_
                refine x_ifz (k := 2) (tg := 151) (np := 147) (by decide +kernel) (by decide) (by decide) (fun q4160 => ?_) (fun q4161 => ?_)
                · have q4160 : 2147483647 < 2147483648 := q4160
                  refine x_const (np := 152) (x := 9223372039002259456) (a := 2147483648) (by decide +kernel) (by decide) (by decide) ?_
                  refine x_istore (np := 154) (x := 4) (lo' := [x_r 75, iv_c 2147483652, iv_c 2147483650, iv_c v3905, iv_c 2147483648, iv_c 2147483647]) (by decide +kernel) (by decide) (Nat.le_of_ble_eq_true rfl) rfl ?_
                  refine x_iload (np := 156) (x := 4) (by decide +kernel) rfl (by decide) ?_
                  refine x_ifz (k := 0) (tg := 180) (np := 159) (by decide +kernel) (by decide) (by decide) (fun q4162 => ?_) (fun q4163 => ?_)
                  · have q4162 : 2147483648 = 2147483648 := q4162
                    refine x_iinc (np := 183) (i := 2) (j := 2147483647) (v := 2147483649) (lo' := [x_r 75, iv_c 2147483652, iv_c 2147483649, iv_c v3905, iv_c 2147483648, iv_c 2147483647]) (by decide +kernel) (by decide) (by decide) rfl (by decide) (by first | decide | omega) (by first | decide | omega) rfl ?_
                    refine x_goto (np := 186) (x := 12) (by decide +kernel) ?_
                    have q4164 : h4142 75 30 = h4124 75 30 := by rw [← e4144]; exact x_up_k (by decide)
                    have q4165 : h4124 75 30 = h4113 75 30 := by rw [← e4126]; exact x_up_i (by first | decide | omega)
                    have q4166 : h4113 75 30 = h3908 75 30 := jK 0 f4115 rg_75_30_0_1 (by first | decide | omega) (by first | decide | omega) (by decide)
                    have q4167 : h3908 75 30 = h3896 75 30 := jK 0 f3910 rg_75_30_0_1 (by first | decide | omega) (by first | decide | omega) (by decide)
                    have q4168 : h3896 75 30 = (1 + (h3201 75 30)) := by rw [← e3898]; exact x_up_at
                    exact i3254 (iv_c v3905) (iv_c 2147483647) h4142 (by first | decide | omega) j4143 f4146 (by first | decide | omega)
                  have q4163 : ¬ (2147483648 = 2147483648) := q4163
                  exfalso; omega
                have q4161 : ¬ (2147483647 < 2147483648) := q4161
                exfalso; omega
              have q4154 : ¬ ((h3908 93 2) < 2147483648) := q4154
              refine x_aload (np := 112) (x := 0) (by decide +kernel) rfl (x_nc_le (by decide)) ?_
              refine x_aload (np := 113) (x := 0) (by decide +kernel) rfl (x_nc_le (by decide)) ?_
              have q4169 : h4142 75 27 = 93 := by have z := jB (e := 27) 0 j4143 rg_75_27_0_1 (by decide) (by decide); omega
              refine x_getR (np := 116) (x := 731) (f := 27) (q := 93) (by decide +kernel) (by decide) (by decide +kernel) q4169 ?_
              refine x_iload (np := 117) (x := 2) (by decide +kernel) rfl (by decide) ?_
              have q4170 : h4142 93 2 = h4124 93 2 := by rw [← e4144]; exact x_up_k (by decide)
              have q4171 : h4124 93 2 = h4113 93 2 := by rw [← e4126]; exact x_up_k (by decide)
              have q4172 : h4113 93 2 = h3908 93 2 := jK 2 f4115 rg_93_0_1_6 (by first | decide | omega) (by first | decide | omega) (by decide)
              refine x_aldC (np := 118) (x := 0) (n := 6) (i := 2) (q := (h3908 93 2)) (by decide +kernel) (by decide +kernel) (by first | decide | omega) (by first | decide | omega) (by decide) ((q4170.trans q4171).trans q4172) (fun l4173 => ?_)
              refine x_const (np := 119) (x := 9223372039002259456) (a := 2147483648) (by decide +kernel) (by decide) (by decide) ?_
              refine x_cV (t := 6) (mj := 248) (n := 3) (rc := 12) (ml := 4) (nr := 0) (np := 122) (as := [x_r 75, iv_c (h3908 93 2), iv_c 2147483648]) (rest := []) (lo1 := [x_r 75, iv_c (h3908 93 2), iv_c 2147483648, 147573952589676412928]) (by decide +kernel) (by decide) (by decide +kernel) (x_rb_of (by decide +kernel)) rfl rfl (x_wr (by decide) (x_wi l4152 (x_wi (by decide) x_wn))) x_wn (by decide) rfl (c248_75 j4143  (by first | decide | omega) (by first | decide | omega)) (fun h4177 q4176 => ?_)
              obtain ⟨j4178, f4179⟩ := q4176
              have f4182 := Fr.trans f4145 f4179 (by decide)
              have f4183 := Fr.trans f4146 f4179 (by decide)
              refine x_aload (np := 123) (x := 0) (by decide +kernel) rfl (x_nc_le (by decide)) ?_
              have q4184 : h4177 75 28 = 94 := by have z := jB (e := 28) 0 j4178 rg_75_28_0_1 (by decide) (by decide); omega
              refine x_getR (np := 126) (x := 732) (f := 28) (q := 94) (by decide +kernel) (by decide) (by decide +kernel) q4184 ?_
              refine x_iload (np := 127) (x := 2) (by decide +kernel) rfl (by decide) ?_
              have q4185 : h4177 94 2 = h4142 94 2 := jK 2 f4179 rg_94_0_1_6 (by first | decide | omega) (by first | decide | omega) (by decide)
              have q4186 : h4142 94 2 = 2147483647 := by rw [← e4144]; exact x_up_at
              refine x_aldC (np := 128) (x := 0) (n := 6) (i := 2) (q := 2147483647) (by decide +kernel) (by decide +kernel) (by first | decide | omega) (by first | decide | omega) (by decide) (q4185.trans q4186) (fun l4187 => ?_)
              refine x_ifz (k := 3) (tg := 135) (np := 131) (by decide +kernel) (by decide) (by decide) (fun q4188 => ?_) (fun q4189 => ?_)
              · have q4188 : 2147483648 ≤ 2147483647 := q4188
                exfalso; omega
              have q4189 : ¬ (2147483648 ≤ 2147483647) := q4189
              refine x_const (np := 132) (x := 9223372034707292159) (a := 2147483647) (by decide +kernel) (by decide) (by decide) ?_
              refine x_goto (np := 135) (x := 140) (by decide +kernel) ?_
              refine x_istore (np := 142) (x := 5) (lo' := [x_r 75, iv_c 2147483652, iv_c 2147483650, iv_c v3905, iv_c 2147483649, iv_c 2147483647]) (by decide +kernel) (by decide) (Nat.le_of_ble_eq_true rfl) rfl ?_
              refine x_iload (np := 144) (x := 5) (by decide +kernel) rfl (by decide) ?_
              refine x_ifz (k := 2) (tg := 151) (np := 147) (by decide +kernel) (by decide) (by decide) (fun q4190 => ?_) (fun q4191 => ?_)
              · have q4190 : 2147483647 < 2147483648 := q4190
                refine x_const (np := 152) (x := 9223372039002259456) (a := 2147483648) (by decide +kernel) (by decide) (by decide) ?_
                refine x_istore (np := 154) (x := 4) (lo' := [x_r 75, iv_c 2147483652, iv_c 2147483650, iv_c v3905, iv_c 2147483648, iv_c 2147483647]) (by decide +kernel) (by decide) (Nat.le_of_ble_eq_true rfl) rfl ?_
                refine x_iload (np := 156) (x := 4) (by decide +kernel) rfl (by decide) ?_
                refine x_ifz (k := 0) (tg := 180) (np := 159) (by decide +kernel) (by decide) (by decide) (fun q4192 => ?_) (fun q4193 => ?_)
                · have q4192 : 2147483648 = 2147483648 := q4192
                  refine x_iinc (np := 183) (i := 2) (j := 2147483647) (v := 2147483649) (lo' := [x_r 75, iv_c 2147483652, iv_c 2147483649, iv_c v3905, iv_c 2147483648, iv_c 2147483647]) (by decide +kernel) (by decide) (by decide) rfl (by decide) (by first | decide | omega) (by first | decide | omega) rfl ?_
                  refine x_goto (np := 186) (x := 12) (by decide +kernel) ?_
                  have q4194 : h4177 75 30 = h4142 75 30 := jK 0 f4179 rg_75_30_0_1 (by first | decide | omega) (by first | decide | omega) (by decide)
                  have q4195 : h4142 75 30 = h4124 75 30 := by rw [← e4144]; exact x_up_k (by decide)
                  have q4196 : h4124 75 30 = h4113 75 30 := by rw [← e4126]; exact x_up_i (by first | decide | omega)
                  have q4197 : h4113 75 30 = h3908 75 30 := jK 0 f4115 rg_75_30_0_1 (by first | decide | omega) (by first | decide | omega) (by decide)
                  have q4198 : h3908 75 30 = h3896 75 30 := jK 0 f3910 rg_75_30_0_1 (by first | decide | omega) (by first | decide | omega) (by decide)
                  have q4199 : h3896 75 30 = (1 + (h3201 75 30)) := by rw [← e3898]; exact x_up_at
                  exact i3254 (iv_c v3905) (iv_c 2147483647) h4177 (by first | decide | omega) j4178 f4183 (by first | decide | omega)
                have q4193 : ¬ (2147483648 = 2147483648) := q4193
                exfalso; omega
              have q4191 : ¬ (2147483647 < 2147483648) := q4191
              exfalso; omega
            have q4140 : ¬ (v3905 = 2147483649) := q4140
            exfalso; omega
          have q4138 : ¬ ((h 75 33) = 2147483648) := q4138
          refine x_const (np := 84) (x := 9223372043297226753) (a := 2147483649) (by decide +kernel) (by decide) (by decide) ?_
          have q4200 : h4124 75 30 = h4113 75 30 := by rw [← e4126]; exact x_up_i (by first | decide | omega)
          have q4201 : h4113 75 30 = h3908 75 30 := jK 0 f4115 rg_75_30_0_1 (by first | decide | omega) (by first | decide | omega) (by decide)
          have q4202 : h3908 75 30 = h3896 75 30 := jK 0 f3910 rg_75_30_0_1 (by first | decide | omega) (by first | decide | omega) (by decide)
          have q4203 : h3896 75 30 = (1 + (h3201 75 30)) := by rw [← e3898]; exact x_up_at
          refine x_retI (np := 85) (x := 0) (by decide +kernel) (by decide) (Or.inr ⟨by decide +kernel, by first | decide | omega, by first | decide | omega⟩) ⟨_, rfl, (by decide), ?_⟩
          exact ⟨j4125, f4127, (by first | decide | omega), (fun z => by first | decide | omega)⟩
        have q3904 : ¬ ((1 + (h3201 75 30)) ≤ 2147503648) := q3904
        refine x_const (np := 42) (x := 9223372039002259456) (a := 2147483648) (by decide +kernel) (by decide) (by decide) ?_
        have q4204 : h3896 75 30 = (1 + (h3201 75 30)) := by rw [← e3898]; exact x_up_at
        refine x_retI (np := 43) (x := 0) (by decide +kernel) (by decide) (Or.inr ⟨by decide +kernel, by first | decide | omega, by first | decide | omega⟩) ⟨_, rfl, (by decide), ?_⟩
        exact ⟨j3897, f3899, (by first | decide | omega), (fun z => by first | decide | omega)⟩
      · intro w3205 w3206 h3207 q4205 j3210 f3209 b3208
        have f4206 := Fr.trans f5 f3209 (by decide)
        refine x_iload (np := 13) (x := 2) (by decide +kernel) rfl (by decide) ?_
        refine x_ifz (k := 2) (tg := 186) (np := 16) (by decide +kernel) (by decide) (by decide) (fun q4207 => ?_) (fun q4208 => ?_)
        · have q4207 : 2147483651 < 2147483648 := q4207
          exfalso; omega
        have q4208 : ¬ (2147483651 < 2147483648) := q4208
        refine x_iload (np := 18) (x := 4) (by decide +kernel) rfl (by decide) ?_
        refine x_ifz (k := 0) (tg := 102) (np := 21) (by decide +kernel) (by decide) (by decide) (fun q4209 => ?_) (fun q4210 => ?_)
        · have q4209 : 2147483649 = 2147483648 := q4209
          exfalso; omega
        have q4210 : ¬ (2147483649 = 2147483648) := q4210
        refine x_aload (np := 22) (x := 0) (by decide +kernel) rfl (x_nc_le (by decide)) ?_
        refine x_dup (np := 23) (x := 0) (by decide +kernel) (by have z := x_nc_le (k := 75) (by decide); unfold x_r; omega) ?_
        refine x_getC (np := 26) (x := 734) (f := 30) (q := (h3207 75 30)) (by decide +kernel) (by decide) (by decide +kernel) rfl (fun l4211 => ?_)
        refine x_const (np := 27) (x := 9223372043297226753) (a := 2147483649) (by decide +kernel) (by decide) (by decide) ?_
        refine x_iadd (np := 28) (x := 0) (v := (1 + (h3207 75 30))) (by decide +kernel) l4211 (by decide) (by first | decide | omega) (by first | decide | omega) ?_
        refine x_putI (np := 31) (x := 734) (f := 30) (by decide +kernel) (by decide +kernel) (by first | decide | omega) (Or.inl (by decide)) ?_
        have j4213 := jU (e := 30) (v := (1 + (h3207 75 30))) 0 j3210 rg_75_30_0_1 (by first | decide | omega) (by first | decide | omega) (by first | decide | omega)
        have f4215 := jF (e := 30) (v := (1 + (h3207 75 30))) 0 f4206 rg_75_30_0_1 (by first | decide | omega) (by first | decide | omega) (by decide)
        have f4216 := jF (e := 30) (v := (1 + (h3207 75 30))) 0 f3209 rg_75_30_0_1 (by first | decide | omega) (by first | decide | omega) (by decide)
        generalize e4214 : x_up h3207 75 30 (1 + (h3207 75 30)) = h4212 at j4213 f4215 f4216 ⊢
        refine x_aload (np := 32) (x := 0) (by decide +kernel) rfl (x_nc_le (by decide)) ?_
        have q4217 : h4212 75 30 = (1 + (h3207 75 30)) := by rw [← e4214]; exact x_up_at
        refine x_getC (np := 35) (x := 734) (f := 30) (q := (1 + (h3207 75 30))) (by decide +kernel) (by decide) (by decide +kernel) q4217 (fun l4218 => ?_)
        refine x_const (np := 38) (x := 9223457938348199456) (a := 2147503648) (by decide +kernel) (by decide) (by decide) ?_
        refine x_icmp (k := 5) (tg := 43) (np := 41) (by decide +kernel) (by decide) (by first | decide | omega) (by decide) (fun q4219 => ?_) (fun q4220 => ?_)
        · have q4219 : (1 + (h3207 75 30)) ≤ 2147503648 := q4219
          refine x_aload (np := 44) (x := 0) (by decide +kernel) rfl (x_nc_le (by decide)) ?_
          refine x_iload (np := 45) (x := 2) (by decide +kernel) rfl (by decide) ?_
          refine x_cI (t := 6) (mj := 254) (n := 2) (rc := 12) (ml := 4) (nr := 0) (np := 48) (as := [x_r 75, iv_c 2147483651]) (rest := []) (lo1 := [x_r 75, iv_c 2147483651, 147573952589676412928, 147573952589676412928]) (by decide +kernel) (by decide) (by decide +kernel) (x_rb_of (by decide +kernel)) rfl rfl (x_wr (by decide) (x_wi (by decide) x_wn)) x_wn (by decide) rfl (c254_75 j4213  (by first | decide | omega)) (fun v4221 h4224 l4222 q4223 => ?_)
          obtain ⟨j4225, f4226, b4227⟩ := q4223
          have f4228 := Fr.trans f4215 f4226 (by decide)
          have f4229 := Fr.trans f4216 f4226 (by decide)
          refine x_istore (np := 49) (x := 3) (lo' := [x_r 75, iv_c 2147483652, iv_c 2147483651, iv_c v4221, iv_c 2147483649, w3206]) (by decide +kernel) l4222 (Nat.le_of_ble_eq_true rfl) rfl ?_
          refine x_iload (np := 50) (x := 3) (by decide +kernel) rfl l4222 ?_
          refine x_const (np := 51) (x := 9223372043297226753) (a := 2147483649) (by decide +kernel) (by decide) (by decide) ?_
          refine x_icmp (k := 1) (tg := 85) (np := 54) (by decide +kernel) (by decide) l4222 (by decide) (fun q4230 => ?_) (fun q4231 => ?_)
          · have q4230 : v4221 ≠ 2147483649 := q4230
            refine x_iload (np := 86) (x := 3) (by decide +kernel) rfl l4222 ?_
            refine x_const (np := 87) (x := 9223372043297226753) (a := 2147483649) (by decide +kernel) (by decide) (by decide) ?_
            refine x_icmp (k := 0) (tg := 95) (np := 90) (by decide +kernel) (by decide) l4222 (by decide) (fun q4232 => ?_) (fun q4233 => ?_)
            · have q4232 : v4221 = 2147483649 := q4232
              exfalso; omega
            have q4233 : ¬ (v4221 = 2147483649) := q4233
            refine x_iload (np := 91) (x := 2) (by decide +kernel) rfl (by decide) ?_
            refine x_iload (np := 92) (x := 1) (by decide +kernel) rfl (by decide) ?_
            refine x_icmp (k := 1) (tg := 102) (np := 95) (by decide +kernel) (by decide) (by decide) (by decide) (fun q4234 => ?_) (fun q4235 => ?_)
            · have q4234 : 2147483651 ≠ 2147483652 := q4234
              refine x_aload (np := 103) (x := 0) (by decide +kernel) rfl (x_nc_le (by decide)) ?_
              have q4236 : h4224 75 27 = 93 := by have z := jB (e := 27) 0 j4225 rg_75_27_0_1 (by decide) (by decide); omega
              refine x_getR (np := 106) (x := 731) (f := 27) (q := 93) (by decide +kernel) (by decide) (by decide +kernel) q4236 ?_
              refine x_iload (np := 107) (x := 2) (by decide +kernel) rfl (by decide) ?_
              have b4237 := jB (e := 3) 3 j4225 rg_93_0_1_6 (by first | decide | omega) (by first | decide | omega)
              refine x_aldC (np := 108) (x := 0) (n := 6) (i := 3) (q := (h4224 93 3)) (by decide +kernel) (by decide +kernel) (by first | decide | omega) (by first | decide | omega) (by decide) rfl (fun l4238 => ?_)
              refine x_ifz (k := 2) (tg := 122) (np := 111) (by decide +kernel) (by decide) l4238 (fun q4239 => ?_) (fun q4240 => ?_)
              · have q4239 : (h4224 93 3) < 2147483648 := q4239
                refine x_aload (np := 123) (x := 0) (by decide +kernel) rfl (x_nc_le (by decide)) ?_
                have q4241 : h4224 75 28 = 94 := by have z := jB (e := 28) 0 j4225 rg_75_28_0_1 (by decide) (by decide); omega
                refine x_getR (np := 126) (x := 732) (f := 28) (q := 94) (by decide +kernel) (by decide) (by decide +kernel) q4241 ?_
                refine x_iload (np := 127) (x := 2) (by decide +kernel) rfl (by decide) ?_
                have b4242 := jB (e := 3) 3 j4225 rg_94_0_1_6 (by first | decide | omega) (by first | decide | omega)
                refine x_aldC (np := 128) (x := 0) (n := 6) (i := 3) (q := (h4224 94 3)) (by decide +kernel) (by decide +kernel) (by first | decide | omega) (by first | decide | omega) (by decide) rfl (fun l4243 => ?_)
                refine x_ifz (k := 3) (tg := 135) (np := 131) (by decide +kernel) (by decide) l4243 (fun q4244 => ?_) (fun q4245 => ?_)
                · have q4244 : 2147483648 ≤ (h4224 94 3) := q4244
                  refine x_aload (np := 136) (x := 0) (by decide +kernel) rfl (x_nc_le (by decide)) ?_
                  refine x_iload (np := 137) (x := 2) (by decide +kernel) rfl (by decide) ?_
                  refine x_cP (t := 6) (mj := 257) (n := 2) (rc := 12) (ml := 3) (nr := 0) (np := 140) (as := [x_r 75, iv_c 2147483651]) (rest := []) (lo1 := [x_r 75, iv_c 2147483651, 147573952589676412928]) (by decide +kernel) (by decide) (by decide +kernel) (x_rb_of (by decide +kernel)) rfl rfl (x_wr (by decide) (x_wi (by decide) x_wn)) x_wn (by decide) rfl (c257_75_c3 j4225   (by first | decide | omega)) (fun v4246 l4247 q4248 => ?_)
                  refine x_istore (np := 142) (x := 5) (lo' := [x_r 75, iv_c 2147483652, iv_c 2147483651, iv_c v4221, iv_c 2147483649, iv_c v4246]) (by decide +kernel) l4247 (Nat.le_of_ble_eq_true rfl) rfl ?_
                  refine x_iload (np := 144) (x := 5) (by decide +kernel) rfl l4247 ?_
                  refine x_ifz (k := 2) (tg := 151) (np := 147) (by decide +kernel) (by decide) l4247 (fun q4249 => ?_) (fun q4250 => ?_)
                  · have q4249 : v4246 < 2147483648 := q4249
                    refine x_const (np := 152) (x := 9223372039002259456) (a := 2147483648) (by decide +kernel) (by decide) (by decide) ?_
                    refine x_istore (np := 154) (x := 4) (lo' := [x_r 75, iv_c 2147483652, iv_c 2147483651, iv_c v4221, iv_c 2147483648, iv_c v4246]) (by decide +kernel) (by decide) (Nat.le_of_ble_eq_true rfl) rfl ?_
                    refine x_iload (np := 156) (x := 4) (by decide +kernel) rfl (by decide) ?_
                    refine x_ifz (k := 0) (tg := 180) (np := 159) (by decide +kernel) (by decide) (by decide) (fun q4251 => ?_) (fun q4252 => ?_)
                    · have q4251 : 2147483648 = 2147483648 := q4251
                      refine x_iinc (np := 183) (i := 2) (j := 2147483647) (v := 2147483650) (lo' := [x_r 75, iv_c 2147483652, iv_c 2147483650, iv_c v4221, iv_c 2147483648, iv_c v4246]) (by decide +kernel) (by decide) (by decide) rfl (by decide) (by first | decide | omega) (by first | decide | omega) rfl ?_
                      refine x_goto (np := 186) (x := 12) (by decide +kernel) ?_
                      have q4253 : h4224 75 30 = h4212 75 30 := jK 0 f4226 rg_75_30_0_1 (by first | decide | omega) (by first | decide | omega) (by decide)
                      have q4254 : h4212 75 30 = (1 + (h3207 75 30)) := by rw [← e4214]; exact x_up_at
                      exact i3255 (iv_c v4221) (iv_c v4246) h4224 (by first | decide | omega) j4225 f4229 (by first | decide | omega)
                    have q4252 : ¬ (2147483648 = 2147483648) := q4252
                    exfalso; omega
                  have q4250 : ¬ (v4246 < 2147483648) := q4250
                  refine x_const (np := 148) (x := 9223372043297226753) (a := 2147483649) (by decide +kernel) (by decide) (by decide) ?_
                  refine x_goto (np := 151) (x := 152) (by decide +kernel) ?_
                  refine x_istore (np := 154) (x := 4) (lo' := [x_r 75, iv_c 2147483652, iv_c 2147483651, iv_c v4221, iv_c 2147483649, iv_c v4246]) (by decide +kernel) (by decide) (Nat.le_of_ble_eq_true rfl) rfl ?_
                  refine x_iload (np := 156) (x := 4) (by decide +kernel) rfl (by decide) ?_
                  refine x_ifz (k := 0) (tg := 180) (np := 159) (by decide +kernel) (by decide) (by decide) (fun q4255 => ?_) (fun q4256 => ?_)
                  · have q4255 : 2147483649 = 2147483648 := q4255
                    exfalso; omega
                  have q4256 : ¬ (2147483649 = 2147483648) := q4256
                  refine x_aload (np := 160) (x := 0) (by decide +kernel) rfl (x_nc_le (by decide)) ?_
                  have q4257 : h4224 75 27 = 93 := by have z := jB (e := 27) 0 j4225 rg_75_27_0_1 (by decide) (by decide); omega
                  refine x_getR (np := 163) (x := 731) (f := 27) (q := 93) (by decide +kernel) (by decide) (by decide +kernel) q4257 ?_
                  refine x_iload (np := 164) (x := 2) (by decide +kernel) rfl (by decide) ?_
                  refine x_iload (np := 166) (x := 5) (by decide +kernel) rfl l4247 ?_
                  refine x_ast (np := 167) (x := 0) (kd := 1) (n := 6) (i := 3) (by decide +kernel) (Or.inl rfl) (by decide +kernel) (by first | decide | omega) (by first | decide | omega) (by decide) l4247 (fun z => absurd z (by decide)) ?_
                  have j4259 := jU (e := 3) (v := v4246) 3 j4225 rg_93_0_1_6 (by first | decide | omega) (by first | decide | omega) (by first | decide | omega)
                  have f4261 := jF (e := 3) (v := v4246) 3 f4228 rg_93_0_1_6 (by first | decide | omega) (by first | decide | omega) (by decide)
                  have f4262 := jF (e := 3) (v := v4246) 3 f4229 rg_93_0_1_6 (by first | decide | omega) (by first | decide | omega) (by decide)
                  generalize e4260 : x_up h4224 93 3 v4246 = h4258 at j4259 f4261 f4262 ⊢
                  refine x_aload (np := 168) (x := 0) (by decide +kernel) rfl (x_nc_le (by decide)) ?_
                  refine x_iload (np := 170) (x := 5) (by decide +kernel) rfl l4247 ?_
                  refine x_const (np := 171) (x := 9223372043297226753) (a := 2147483649) (by decide +kernel) (by decide) (by decide) ?_
                  refine x_cV (t := 6) (mj := 248) (n := 3) (rc := 12) (ml := 4) (nr := 0) (np := 174) (as := [x_r 75, iv_c v4246, iv_c 2147483649]) (rest := []) (lo1 := [x_r 75, iv_c v4246, iv_c 2147483649, 147573952589676412928]) (by decide +kernel) (by decide) (by decide +kernel) (x_rb_of (by decide +kernel)) rfl rfl (x_wr (by decide) (x_wi l4247 (x_wi (by decide) x_wn))) x_wn (by decide) rfl (c248_75 j4259  (by first | decide | omega) (by first | decide | omega)) (fun h4266 q4265 => ?_)
                  obtain ⟨j4267, f4268⟩ := q4265
                  have f4271 := Fr.trans f4261 f4268 (by decide)
                  have f4272 := Fr.trans f4262 f4268 (by decide)
                  refine x_iinc (np := 177) (i := 2) (j := 2147483649) (v := 2147483652) (lo' := [x_r 75, iv_c 2147483652, iv_c 2147483652, iv_c v4221, iv_c 2147483649, iv_c v4246]) (by decide +kernel) (by decide) (by decide) rfl (by decide) (by first | decide | omega) (by first | decide | omega) rfl ?_
                  refine x_goto (np := 180) (x := 183) (by decide +kernel) ?_
                  refine x_goto (np := 186) (x := 12) (by decide +kernel) ?_
                  have q4273 : h4266 75 30 = h4258 75 30 := jK 0 f4268 rg_75_30_0_1 (by first | decide | omega) (by first | decide | omega) (by decide)
                  have q4274 : h4258 75 30 = h4224 75 30 := by rw [← e4260]; exact x_up_k (by decide)
                  have q4275 : h4224 75 30 = h4212 75 30 := jK 0 f4226 rg_75_30_0_1 (by first | decide | omega) (by first | decide | omega) (by decide)
                  have q4276 : h4212 75 30 = (1 + (h3207 75 30)) := by rw [← e4214]; exact x_up_at
                  exact i3251 (iv_c v4221) (iv_c v4246) h4266 (by first | decide | omega) j4267 f4272 (by first | decide | omega)
                have q4245 : ¬ (2147483648 ≤ (h4224 94 3)) := q4245
                refine x_const (np := 132) (x := 9223372034707292159) (a := 2147483647) (by decide +kernel) (by decide) (by decide) ?_
                refine x_goto (np := 135) (x := 140) (by decide +kernel) ?_
                refine x_istore (np := 142) (x := 5) (lo' := [x_r 75, iv_c 2147483652, iv_c 2147483651, iv_c v4221, iv_c 2147483649, iv_c 2147483647]) (by decide +kernel) (by decide) (Nat.le_of_ble_eq_true rfl) rfl ?_
                refine x_iload (np := 144) (x := 5) (by decide +kernel) rfl (by decide) ?_
                refine x_ifz (k := 2) (tg := 151) (np := 147) (by decide +kernel) (by decide) (by decide) (fun q4277 => ?_) (fun q4278 => ?_)
                · have q4277 : 2147483647 < 2147483648 := q4277
                  refine x_const (np := 152) (x := 9223372039002259456) (a := 2147483648) (by decide +kernel) (by decide) (by decide) ?_
                  refine x_istore (np := 154) (x := 4) (lo' := [x_r 75, iv_c 2147483652, iv_c 2147483651, iv_c v4221, iv_c 2147483648, iv_c 2147483647]) (by decide +kernel) (by decide) (Nat.le_of_ble_eq_true rfl) rfl ?_
                  refine x_iload (np := 156) (x := 4) (by decide +kernel) rfl (by decide) ?_
                  refine x_ifz (k := 0) (tg := 180) (np := 159) (by decide +kernel) (by decide) (by decide) (fun q4279 => ?_) (fun q4280 => ?_)
                  · have q4279 : 2147483648 = 2147483648 := q4279
                    refine x_iinc (np := 183) (i := 2) (j := 2147483647) (v := 2147483650) (lo' := [x_r 75, iv_c 2147483652, iv_c 2147483650, iv_c v4221, iv_c 2147483648, iv_c 2147483647]) (by decide +kernel) (by decide) (by decide) rfl (by decide) (by first | decide | omega) (by first | decide | omega) rfl ?_
                    refine x_goto (np := 186) (x := 12) (by decide +kernel) ?_
                    have q4281 : h4224 75 30 = h4212 75 30 := jK 0 f4226 rg_75_30_0_1 (by first | decide | omega) (by first | decide | omega) (by decide)
                    have q4282 : h4212 75 30 = (1 + (h3207 75 30)) := by rw [← e4214]; exact x_up_at
                    exact i3255 (iv_c v4221) (iv_c 2147483647) h4224 (by first | decide | omega) j4225 f4229 (by first | decide | omega)
                  have q4280 : ¬ (2147483648 = 2147483648) := q4280
                  exfalso; omega
                have q4278 : ¬ (2147483647 < 2147483648) := q4278
                exfalso; omega
              have q4240 : ¬ ((h4224 93 3) < 2147483648) := q4240
              refine x_aload (np := 112) (x := 0) (by decide +kernel) rfl (x_nc_le (by decide)) ?_
              refine x_aload (np := 113) (x := 0) (by decide +kernel) rfl (x_nc_le (by decide)) ?_
              have q4283 : h4224 75 27 = 93 := by have z := jB (e := 27) 0 j4225 rg_75_27_0_1 (by decide) (by decide); omega
              refine x_getR (np := 116) (x := 731) (f := 27) (q := 93) (by decide +kernel) (by decide) (by decide +kernel) q4283 ?_
              refine x_iload (np := 117) (x := 2) (by decide +kernel) rfl (by decide) ?_
              refine x_aldC (np := 118) (x := 0) (n := 6) (i := 3) (q := (h4224 93 3)) (by decide +kernel) (by decide +kernel) (by first | decide | omega) (by first | decide | omega) (by decide) rfl (fun l4284 => ?_)
              refine x_const (np := 119) (x := 9223372039002259456) (a := 2147483648) (by decide +kernel) (by decide) (by decide) ?_
              refine x_cV (t := 6) (mj := 248) (n := 3) (rc := 12) (ml := 4) (nr := 0) (np := 122) (as := [x_r 75, iv_c (h4224 93 3), iv_c 2147483648]) (rest := []) (lo1 := [x_r 75, iv_c (h4224 93 3), iv_c 2147483648, 147573952589676412928]) (by decide +kernel) (by decide) (by decide +kernel) (x_rb_of (by decide +kernel)) rfl rfl (x_wr (by decide) (x_wi l4238 (x_wi (by decide) x_wn))) x_wn (by decide) rfl (c248_75 j4225  (by first | decide | omega) (by first | decide | omega)) (fun h4288 q4287 => ?_)
              obtain ⟨j4289, f4290⟩ := q4287
              have f4293 := Fr.trans f4228 f4290 (by decide)
              have f4294 := Fr.trans f4229 f4290 (by decide)
              refine x_aload (np := 123) (x := 0) (by decide +kernel) rfl (x_nc_le (by decide)) ?_
              have q4295 : h4288 75 28 = 94 := by have z := jB (e := 28) 0 j4289 rg_75_28_0_1 (by decide) (by decide); omega
              refine x_getR (np := 126) (x := 732) (f := 28) (q := 94) (by decide +kernel) (by decide) (by decide +kernel) q4295 ?_
              refine x_iload (np := 127) (x := 2) (by decide +kernel) rfl (by decide) ?_
              have q4296 : h4288 94 3 = h4224 94 3 := jK 3 f4290 rg_94_0_1_6 (by first | decide | omega) (by first | decide | omega) (by decide)
              have b4297 := jB (e := 3) 3 j4225 rg_94_0_1_6 (by first | decide | omega) (by first | decide | omega)
              refine x_aldC (np := 128) (x := 0) (n := 6) (i := 3) (q := (h4224 94 3)) (by decide +kernel) (by decide +kernel) (by first | decide | omega) (by first | decide | omega) (by decide) q4296 (fun l4298 => ?_)
              refine x_ifz (k := 3) (tg := 135) (np := 131) (by decide +kernel) (by decide) l4298 (fun q4299 => ?_) (fun q4300 => ?_)
              · have q4299 : 2147483648 ≤ (h4224 94 3) := q4299
                refine x_aload (np := 136) (x := 0) (by decide +kernel) rfl (x_nc_le (by decide)) ?_
                refine x_iload (np := 137) (x := 2) (by decide +kernel) rfl (by decide) ?_
                have q4301 : h4288 94 3 = h4224 94 3 := jK 3 f4290 rg_94_0_1_6 (by first | decide | omega) (by first | decide | omega) (by decide)
                refine x_cP (t := 6) (mj := 257) (n := 2) (rc := 12) (ml := 3) (nr := 0) (np := 140) (as := [x_r 75, iv_c 2147483651]) (rest := []) (lo1 := [x_r 75, iv_c 2147483651, 147573952589676412928]) (by decide +kernel) (by decide) (by decide +kernel) (x_rb_of (by decide +kernel)) rfl rfl (x_wr (by decide) (x_wi (by decide) x_wn)) x_wn (by decide) rfl (c257_75_c3 j4289   (by first | decide | omega)) (fun v4302 l4303 q4304 => ?_)
                refine x_istore (np := 142) (x := 5) (lo' := [x_r 75, iv_c 2147483652, iv_c 2147483651, iv_c v4221, iv_c 2147483649, iv_c v4302]) (by decide +kernel) l4303 (Nat.le_of_ble_eq_true rfl) rfl ?_
                refine x_iload (np := 144) (x := 5) (by decide +kernel) rfl l4303 ?_
                refine x_ifz (k := 2) (tg := 151) (np := 147) (by decide +kernel) (by decide) l4303 (fun q4305 => ?_) (fun q4306 => ?_)
                · have q4305 : v4302 < 2147483648 := q4305
                  refine x_const (np := 152) (x := 9223372039002259456) (a := 2147483648) (by decide +kernel) (by decide) (by decide) ?_
                  refine x_istore (np := 154) (x := 4) (lo' := [x_r 75, iv_c 2147483652, iv_c 2147483651, iv_c v4221, iv_c 2147483648, iv_c v4302]) (by decide +kernel) (by decide) (Nat.le_of_ble_eq_true rfl) rfl ?_
                  refine x_iload (np := 156) (x := 4) (by decide +kernel) rfl (by decide) ?_
                  refine x_ifz (k := 0) (tg := 180) (np := 159) (by decide +kernel) (by decide) (by decide) (fun q4307 => ?_) (fun q4308 => ?_)
                  · have q4307 : 2147483648 = 2147483648 := q4307
                    refine x_iinc (np := 183) (i := 2) (j := 2147483647) (v := 2147483650) (lo' := [x_r 75, iv_c 2147483652, iv_c 2147483650, iv_c v4221, iv_c 2147483648, iv_c v4302]) (by decide +kernel) (by decide) (by decide) rfl (by decide) (by first | decide | omega) (by first | decide | omega) rfl ?_
                    refine x_goto (np := 186) (x := 12) (by decide +kernel) ?_
                    have q4309 : h4288 75 30 = h4224 75 30 := jK 0 f4290 rg_75_30_0_1 (by first | decide | omega) (by first | decide | omega) (by decide)
                    have q4310 : h4224 75 30 = h4212 75 30 := jK 0 f4226 rg_75_30_0_1 (by first | decide | omega) (by first | decide | omega) (by decide)
                    have q4311 : h4212 75 30 = (1 + (h3207 75 30)) := by rw [← e4214]; exact x_up_at
                    exact i3255 (iv_c v4221) (iv_c v4302) h4288 (by first | decide | omega) j4289 f4294 (by first | decide | omega)
                  have q4308 : ¬ (2147483648 = 2147483648) := q4308
                  exfalso; omega
                have q4306 : ¬ (v4302 < 2147483648) := q4306
                refine x_const (np := 148) (x := 9223372043297226753) (a := 2147483649) (by decide +kernel) (by decide) (by decide) ?_
                refine x_goto (np := 151) (x := 152) (by decide +kernel) ?_
                refine x_istore (np := 154) (x := 4) (lo' := [x_r 75, iv_c 2147483652, iv_c 2147483651, iv_c v4221, iv_c 2147483649, iv_c v4302]) (by decide +kernel) (by decide) (Nat.le_of_ble_eq_true rfl) rfl ?_
                refine x_iload (np := 156) (x := 4) (by decide +kernel) rfl (by decide) ?_
                refine x_ifz (k := 0) (tg := 180) (np := 159) (by decide +kernel) (by decide) (by decide) (fun q4312 => ?_) (fun q4313 => ?_)
                · have q4312 : 2147483649 = 2147483648 := q4312
                  exfalso; omega
                have q4313 : ¬ (2147483649 = 2147483648) := q4313
                refine x_aload (np := 160) (x := 0) (by decide +kernel) rfl (x_nc_le (by decide)) ?_
                have q4314 : h4288 75 27 = 93 := by have z := jB (e := 27) 0 j4289 rg_75_27_0_1 (by decide) (by decide); omega
                refine x_getR (np := 163) (x := 731) (f := 27) (q := 93) (by decide +kernel) (by decide) (by decide +kernel) q4314 ?_
                refine x_iload (np := 164) (x := 2) (by decide +kernel) rfl (by decide) ?_
                refine x_iload (np := 166) (x := 5) (by decide +kernel) rfl l4303 ?_
                refine x_ast (np := 167) (x := 0) (kd := 1) (n := 6) (i := 3) (by decide +kernel) (Or.inl rfl) (by decide +kernel) (by first | decide | omega) (by first | decide | omega) (by decide) l4303 (fun z => absurd z (by decide)) ?_
                have j4316 := jU (e := 3) (v := v4302) 3 j4289 rg_93_0_1_6 (by first | decide | omega) (by first | decide | omega) (by first | decide | omega)
                have f4318 := jF (e := 3) (v := v4302) 3 f4293 rg_93_0_1_6 (by first | decide | omega) (by first | decide | omega) (by decide)
                have f4319 := jF (e := 3) (v := v4302) 3 f4294 rg_93_0_1_6 (by first | decide | omega) (by first | decide | omega) (by decide)
                generalize e4317 : x_up h4288 93 3 v4302 = h4315 at j4316 f4318 f4319 ⊢
                refine x_aload (np := 168) (x := 0) (by decide +kernel) rfl (x_nc_le (by decide)) ?_
                refine x_iload (np := 170) (x := 5) (by decide +kernel) rfl l4303 ?_
                refine x_const (np := 171) (x := 9223372043297226753) (a := 2147483649) (by decide +kernel) (by decide) (by decide) ?_
                refine x_cV (t := 6) (mj := 248) (n := 3) (rc := 12) (ml := 4) (nr := 0) (np := 174) (as := [x_r 75, iv_c v4302, iv_c 2147483649]) (rest := []) (lo1 := [x_r 75, iv_c v4302, iv_c 2147483649, 147573952589676412928]) (by decide +kernel) (by decide) (by decide +kernel) (x_rb_of (by decide +kernel)) rfl rfl (x_wr (by decide) (x_wi l4303 (x_wi (by decide) x_wn))) x_wn (by decide) rfl (c248_75 j4316  (by first | decide | omega) (by first | decide | omega)) (fun h4323 q4322 => ?_)
                obtain ⟨j4324, f4325⟩ := q4322
                have f4328 := Fr.trans f4318 f4325 (by decide)
                have f4329 := Fr.trans f4319 f4325 (by decide)
                refine x_iinc (np := 177) (i := 2) (j := 2147483649) (v := 2147483652) (lo' := [x_r 75, iv_c 2147483652, iv_c 2147483652, iv_c v4221, iv_c 2147483649, iv_c v4302]) (by decide +kernel) (by decide) (by decide) rfl (by decide) (by first | decide | omega) (by first | decide | omega) rfl ?_
                refine x_goto (np := 180) (x := 183) (by decide +kernel) ?_
                refine x_goto (np := 186) (x := 12) (by decide +kernel) ?_
                have q4330 : h4323 75 30 = h4315 75 30 := jK 0 f4325 rg_75_30_0_1 (by first | decide | omega) (by first | decide | omega) (by decide)
                have q4331 : h4315 75 30 = h4288 75 30 := by rw [← e4317]; exact x_up_k (by decide)
                have q4332 : h4288 75 30 = h4224 75 30 := jK 0 f4290 rg_75_30_0_1 (by first | decide | omega) (by first | decide | omega) (by decide)
                have q4333 : h4224 75 30 = h4212 75 30 := jK 0 f4226 rg_75_30_0_1 (by first | decide | omega) (by first | decide | omega) (by decide)
                have q4334 : h4212 75 30 = (1 + (h3207 75 30)) := by rw [← e4214]; exact x_up_at
                exact i3251 (iv_c v4221) (iv_c v4302) h4323 (by first | decide | omega) j4324 f4329 (by first | decide | omega)
              have q4300 : ¬ (2147483648 ≤ (h4224 94 3)) := q4300
              refine x_const (np := 132) (x := 9223372034707292159) (a := 2147483647) (by decide +kernel) (by decide) (by decide) ?_
              refine x_goto (np := 135) (x := 140) (by decide +kernel) ?_
              refine x_istore (np := 142) (x := 5) (lo' := [x_r 75, iv_c 2147483652, iv_c 2147483651, iv_c v4221, iv_c 2147483649, iv_c 2147483647]) (by decide +kernel) (by decide) (Nat.le_of_ble_eq_true rfl) rfl ?_
              refine x_iload (np := 144) (x := 5) (by decide +kernel) rfl (by decide) ?_
              refine x_ifz (k := 2) (tg := 151) (np := 147) (by decide +kernel) (by decide) (by decide) (fun q4335 => ?_) (fun q4336 => ?_)
              · have q4335 : 2147483647 < 2147483648 := q4335
                refine x_const (np := 152) (x := 9223372039002259456) (a := 2147483648) (by decide +kernel) (by decide) (by decide) ?_
                refine x_istore (np := 154) (x := 4) (lo' := [x_r 75, iv_c 2147483652, iv_c 2147483651, iv_c v4221, iv_c 2147483648, iv_c 2147483647]) (by decide +kernel) (by decide) (Nat.le_of_ble_eq_true rfl) rfl ?_
                refine x_iload (np := 156) (x := 4) (by decide +kernel) rfl (by decide) ?_
                refine x_ifz (k := 0) (tg := 180) (np := 159) (by decide +kernel) (by decide) (by decide) (fun q4337 => ?_) (fun q4338 => ?_)
                · have q4337 : 2147483648 = 2147483648 := q4337
                  refine x_iinc (np := 183) (i := 2) (j := 2147483647) (v := 2147483650) (lo' := [x_r 75, iv_c 2147483652, iv_c 2147483650, iv_c v4221, iv_c 2147483648, iv_c 2147483647]) (by decide +kernel) (by decide) (by decide) rfl (by decide) (by first | decide | omega) (by first | decide | omega) rfl ?_
                  refine x_goto (np := 186) (x := 12) (by decide +kernel) ?_
                  have q4339 : h4288 75 30 = h4224 75 30 := jK 0 f4290 rg_75_30_0_1 (by first | decide | omega) (by first | decide | omega) (by decide)
                  have q4340 : h4224 75 30 = h4212 75 30 := jK 0 f4226 rg_75_30_0_1 (by first | decide | omega) (by first | decide | omega) (by decide)
                  have q4341 : h4212 75 30 = (1 + (h3207 75 30)) := by rw [← e4214]; exact x_up_at
                  exact i3255 (iv_c v4221) (iv_c 2147483647) h4288 (by first | decide | omega) j4289 f4294 (by first | decide | omega)
                have q4338 : ¬ (2147483648 = 2147483648) := q4338
                exfalso; omega
              have q4336 : ¬ (2147483647 < 2147483648) := q4336
              exfalso; omega
            have q4235 : ¬ (2147483651 ≠ 2147483652) := q4235
            exfalso; omega
          have q4231 : ¬ (v4221 ≠ 2147483649) := q4231
          refine x_aload (np := 55) (x := 0) (by decide +kernel) rfl (x_nc_le (by decide)) ?_
          have q4342 : h4224 75 34 = h4212 75 34 := jK 0 f4226 rg_75_34_0_1 (by first | decide | omega) (by first | decide | omega) (by decide)
          have q4343 : h4212 75 34 = h3207 75 34 := by rw [← e4214]; exact x_up_i (by first | decide | omega)
          refine x_getC (np := 58) (x := 738) (f := 34) (q := (h3207 75 34)) (by decide +kernel) (by decide) (by decide +kernel) (q4342.trans q4343) (fun l4344 => ?_)
          refine x_ifz (k := 1) (tg := 66) (np := 61) (by decide +kernel) (by decide) l4344 (fun q4345 => ?_) (fun q4346 => ?_)
          · have q4345 : (h3207 75 34) ≠ 2147483648 := q4345
            refine x_aload (np := 67) (x := 0) (by decide +kernel) rfl (x_nc_le (by decide)) ?_
            refine x_dup (np := 68) (x := 0) (by decide +kernel) (by have z := x_nc_le (k := 75) (by decide); unfold x_r; omega) ?_
            have q4347 : h4224 75 34 = h4212 75 34 := jK 0 f4226 rg_75_34_0_1 (by first | decide | omega) (by first | decide | omega) (by decide)
            have q4348 : h4212 75 34 = h3207 75 34 := by rw [← e4214]; exact x_up_i (by first | decide | omega)
            refine x_getC (np := 71) (x := 738) (f := 34) (q := (h3207 75 34)) (by decide +kernel) (by decide) (by decide +kernel) (q4347.trans q4348) (fun l4349 => ?_)
            refine x_const (np := 72) (x := 9223372043297226753) (a := 2147483649) (by decide +kernel) (by decide) (by decide) ?_
            refine x_addA (by rw [tb_b259]; decide +kernel) l4344 (by decide) (fun v4350 l4351 => ?_)
            refine x_putI (np := 76) (x := 738) (f := 34) (by decide +kernel) (by decide +kernel) l4351 (Or.inl (by decide)) ?_
            have j4353 := jU (e := 34) (v := v4350) 0 j4225 rg_75_34_0_1 (by first | decide | omega) (by first | decide | omega) (by first | decide | omega)
            have f4355 := jF (e := 34) (v := v4350) 0 f4228 rg_75_34_0_1 (by first | decide | omega) (by first | decide | omega) (by decide)
            have f4356 := jF (e := 34) (v := v4350) 0 f4229 rg_75_34_0_1 (by first | decide | omega) (by first | decide | omega) (by decide)
            generalize e4354 : x_up h4224 75 34 v4350 = h4352 at j4353 f4355 f4356 ⊢
            refine x_aload (np := 77) (x := 0) (by decide +kernel) rfl (x_nc_le (by decide)) ?_
            have q4357 : h4352 75 33 = h4224 75 33 := by rw [← e4354]; exact x_up_i (by first | decide | omega)
            have q4358 : h4224 75 33 = h4212 75 33 := jK 0 f4226 rg_75_33_0_1 (by first | decide | omega) (by first | decide | omega) (by decide)
            have q4359 : h4212 75 33 = h3207 75 33 := by rw [← e4214]; exact x_up_i (by first | decide | omega)
            have q4360 : h3207 75 33 = h2 75 33 := jK 0 f3209 rg_75_33_0_1 (by first | decide | omega) (by first | decide | omega) (by decide)
            have q4361 : h2 75 33 = h 75 33 := by rw [← e4]; exact x_up_i (by first | decide | omega)
            have b4362 := jB (e := 33) 0 hJ rg_75_33_0_1 (by first | decide | omega) (by first | decide | omega)
            refine x_getC (np := 80) (x := 737) (f := 33) (q := (h 75 33)) (by decide +kernel) (by decide) (by decide +kernel) ((((q4357.trans q4358).trans q4359).trans q4360).trans q4361) (fun l4363 => ?_)
            refine x_ifz (k := 0) (tg := 85) (np := 83) (by decide +kernel) (by decide) l4363 (fun q4364 => ?_) (fun q4365 => ?_)
            · have q4364 : (h 75 33) = 2147483648 := q4364
              refine x_iload (np := 86) (x := 3) (by decide +kernel) rfl l4222 ?_
              refine x_const (np := 87) (x := 9223372043297226753) (a := 2147483649) (by decide +kernel) (by decide) (by decide) ?_
              refine x_icmp (k := 0) (tg := 95) (np := 90) (by decide +kernel) (by decide) l4222 (by decide) (fun q4366 => ?_) (fun q4367 => ?_)
              · have q4366 : v4221 = 2147483649 := q4366
                refine x_aload (np := 96) (x := 0) (by decide +kernel) rfl (x_nc_le (by decide)) ?_
                have q4368 : h4352 75 28 = 94 := by have z := jB (e := 28) 0 j4353 rg_75_28_0_1 (by decide) (by decide); omega
                refine x_getR (np := 99) (x := 732) (f := 28) (q := 94) (by decide +kernel) (by decide) (by decide +kernel) q4368 ?_
                refine x_iload (np := 100) (x := 2) (by decide +kernel) rfl (by decide) ?_
                refine x_const (np := 101) (x := 9223372034707292159) (a := 2147483647) (by decide +kernel) (by decide) (by decide) ?_
                refine x_ast (np := 102) (x := 0) (kd := 1) (n := 6) (i := 3) (by decide +kernel) (Or.inl rfl) (by decide +kernel) (by first | decide | omega) (by first | decide | omega) (by decide) (by decide) (fun z => absurd z (by decide)) ?_
                have j4370 := jU (e := 3) (v := 2147483647) 3 j4353 rg_94_0_1_6 (by first | decide | omega) (by first | decide | omega) (by first | decide | omega)
                have f4372 := jF (e := 3) (v := 2147483647) 3 f4355 rg_94_0_1_6 (by first | decide | omega) (by first | decide | omega) (by decide)
                have f4373 := jF (e := 3) (v := 2147483647) 3 f4356 rg_94_0_1_6 (by first | decide | omega) (by first | decide | omega) (by decide)
                generalize e4371 : x_up h4352 94 3 2147483647 = h4369 at j4370 f4372 f4373 ⊢
                refine x_aload (np := 103) (x := 0) (by decide +kernel) rfl (x_nc_le (by decide)) ?_
                have q4374 : h4369 75 27 = 93 := by have z := jB (e := 27) 0 j4370 rg_75_27_0_1 (by decide) (by decide); omega
                refine x_getR (np := 106) (x := 731) (f := 27) (q := 93) (by decide +kernel) (by decide) (by decide +kernel) q4374 ?_
                refine x_iload (np := 107) (x := 2) (by decide +kernel) rfl (by decide) ?_
                have q4375 : h4369 93 3 = h4352 93 3 := by rw [← e4371]; exact x_up_k (by decide)
                have q4376 : h4352 93 3 = h4224 93 3 := by rw [← e4354]; exact x_up_k (by decide)
                have b4377 := jB (e := 3) 3 j4225 rg_93_0_1_6 (by first | decide | omega) (by first | decide | omega)
                refine x_aldC (np := 108) (x := 0) (n := 6) (i := 3) (q := (h4224 93 3)) (by decide +kernel) (by decide +kernel) (by first | decide | omega) (by first | decide | omega) (by decide) (q4375.trans q4376) (fun l4378 => ?_)
                refine x_ifz (k := 2) (tg := 122) (np := 111) (by decide +kernel) (by decide) l4378 (fun q4379 => ?_) (fun q4380 => ?_)
                · have q4379 : (h4224 93 3) < 2147483648 := q4379
                  refine x_aload (np := 123) (x := 0) (by decide +kernel) rfl (x_nc_le (by decide)) ?_
                  have q4381 : h4369 75 28 = 94 := by have z := jB (e := 28) 0 j4370 rg_75_28_0_1 (by decide) (by decide); omega
                  refine x_getR (np := 126) (x := 732) (f := 28) (q := 94) (by decide +kernel) (by decide) (by decide +kernel) q4381 ?_
                  refine x_iload (np := 127) (x := 2) (by decide +kernel) rfl (by decide) ?_
                  have q4382 : h4369 94 3 = 2147483647 := by rw [← e4371]; exact x_up_at
                  refine x_aldC (np := 128) (x := 0) (n := 6) (i := 3) (q := 2147483647) (by decide +kernel) (by decide +kernel) (by first | decide | omega) (by first | decide | omega) (by decide) q4382 (fun l4383 => ?_)
                  refine x_ifz (k := 3) (tg := 135) (np := 131) (by decide +kernel) (by decide) (by decide) (fun q4384 => ?_) (fun q4385 => ?_)
                  · have q4384 : 2147483648 ≤ 2147483647 := q4384
                    exfalso; omega
                  have q4385 : ¬ (2147483648 ≤ 2147483647) := q4385
                  refine x_const (np := 132) (x := 9223372034707292159) (a := 2147483647) (by decide +kernel) (by decide) (by decide) ?_
                  refine x_goto (np := 135) (x := 140) (by decide +kernel) ?_
                  refine x_istore (np := 142) (x := 5) (lo' := [x_r 75, iv_c 2147483652, iv_c 2147483651, iv_c v4221, iv_c 2147483649, iv_c 2147483647]) (by decide +kernel) (by decide) (Nat.le_of_ble_eq_true rfl) rfl ?_
                  refine x_iload (np := 144) (x := 5) (by decide +kernel) rfl (by decide) ?_
                  refine x_ifz (k := 2) (tg := 151) (np := 147) (by decide +kernel) (by decide) (by decide) (fun q4386 => ?_) (fun q4387 => ?_)
                  · have q4386 : 2147483647 < 2147483648 := q4386
                    refine x_const (np := 152) (x := 9223372039002259456) (a := 2147483648) (by decide +kernel) (by decide) (by decide) ?_
                    refine x_istore (np := 154) (x := 4) (lo' := [x_r 75, iv_c 2147483652, iv_c 2147483651, iv_c v4221, iv_c 2147483648, iv_c 2147483647]) (by decide +kernel) (by decide) (Nat.le_of_ble_eq_true rfl) rfl ?_
                    refine x_iload (np := 156) (x := 4) (by decide +kernel) rfl (by decide) ?_
                    refine x_ifz (k := 0) (tg := 180) (np := 159) (by decide +kernel) (by decide) (by decide) (fun q4388 => ?_) (fun q4389 => ?_)
                    · have q4388 : 2147483648 = 2147483648 := q4388
                      refine x_iinc (np := 183) (i := 2) (j := 2147483647) (v := 2147483650) (lo' := [x_r 75, iv_c 2147483652, iv_c 2147483650, iv_c v4221, iv_c 2147483648, iv_c 2147483647]) (by decide +kernel) (by decide) (by decide) rfl (by decide) (by first | decide | omega) (by first | decide | omega) rfl ?_
                      refine x_goto (np := 186) (x := 12) (by decide +kernel) ?_
                      have q4390 : h4369 75 30 = h4352 75 30 := by rw [← e4371]; exact x_up_k (by decide)
                      have q4391 : h4352 75 30 = h4224 75 30 := by rw [← e4354]; exact x_up_i (by first | decide | omega)
                      have q4392 : h4224 75 30 = h4212 75 30 := jK 0 f4226 rg_75_30_0_1 (by first | decide | omega) (by first | decide | omega) (by decide)
                      have q4393 : h4212 75 30 = (1 + (h3207 75 30)) := by rw [← e4214]; exact x_up_at
                      exact i3255 (iv_c v4221) (iv_c 2147483647) h4369 (by first | decide | omega) j4370 f4373 (by first | decide | omega)
                    have q4389 : ¬ (2147483648 = 2147483648) := q4389
                    exfalso; omega
                  have q4387 : ¬ (2147483647 < 2147483648) := q4387
                  exfalso; omega
                have q4380 : ¬ ((h4224 93 3) < 2147483648) := q4380
                refine x_aload (np := 112) (x := 0) (by decide +kernel) rfl (x_nc_le (by decide)) ?_
                refine x_aload (np := 113) (x := 0) (by decide +kernel) rfl (x_nc_le (by decide)) ?_
                have q4394 : h4369 75 27 = 93 := by have z := jB (e := 27) 0 j4370 rg_75_27_0_1 (by decide) (by decide); omega
                refine x_getR (np := 116) (x := 731) (f := 27) (q := 93) (by decide +kernel) (by decide) (by decide +kernel) q4394 ?_
                refine x_iload (np := 117) (x := 2) (by decide +kernel) rfl (by decide) ?_
                have q4395 : h4369 93 3 = h4352 93 3 := by rw [← e4371]; exact x_up_k (by decide)
                have q4396 : h4352 93 3 = h4224 93 3 := by rw [← e4354]; exact x_up_k (by decide)
                refine x_aldC (np := 118) (x := 0) (n := 6) (i := 3) (q := (h4224 93 3)) (by decide +kernel) (by decide +kernel) (by first | decide | omega) (by first | decide | omega) (by decide) (q4395.trans q4396) (fun l4397 => ?_)
                refine x_const (np := 119) (x := 9223372039002259456) (a := 2147483648) (by decide +kernel) (by decide) (by decide) ?_
                refine x_cV (t := 6) (mj := 248) (n := 3) (rc := 12) (ml := 4) (nr := 0) (np := 122) (as := [x_r 75, iv_c (h4224 93 3), iv_c 2147483648]) (rest := []) (lo1 := [x_r 75, iv_c (h4224 93 3), iv_c 2147483648, 147573952589676412928]) (by decide +kernel) (by decide) (by decide +kernel) (x_rb_of (by decide +kernel)) rfl rfl (x_wr (by decide) (x_wi l4378 (x_wi (by decide) x_wn))) x_wn (by decide) rfl (c248_75 j4370  (by first | decide | omega) (by first | decide | omega)) (fun h4401 q4400 => ?_)
                obtain ⟨j4402, f4403⟩ := q4400
                have f4406 := Fr.trans f4372 f4403 (by decide)
                have f4407 := Fr.trans f4373 f4403 (by decide)
                refine x_aload (np := 123) (x := 0) (by decide +kernel) rfl (x_nc_le (by decide)) ?_
                have q4408 : h4401 75 28 = 94 := by have z := jB (e := 28) 0 j4402 rg_75_28_0_1 (by decide) (by decide); omega
                refine x_getR (np := 126) (x := 732) (f := 28) (q := 94) (by decide +kernel) (by decide) (by decide +kernel) q4408 ?_
                refine x_iload (np := 127) (x := 2) (by decide +kernel) rfl (by decide) ?_
                have q4409 : h4401 94 3 = h4369 94 3 := jK 3 f4403 rg_94_0_1_6 (by first | decide | omega) (by first | decide | omega) (by decide)
                have q4410 : h4369 94 3 = 2147483647 := by rw [← e4371]; exact x_up_at
                refine x_aldC (np := 128) (x := 0) (n := 6) (i := 3) (q := 2147483647) (by decide +kernel) (by decide +kernel) (by first | decide | omega) (by first | decide | omega) (by decide) (q4409.trans q4410) (fun l4411 => ?_)
                refine x_ifz (k := 3) (tg := 135) (np := 131) (by decide +kernel) (by decide) (by decide) (fun q4412 => ?_) (fun q4413 => ?_)
                · have q4412 : 2147483648 ≤ 2147483647 := q4412
                  exfalso; omega
                have q4413 : ¬ (2147483648 ≤ 2147483647) := q4413
                refine x_const (np := 132) (x := 9223372034707292159) (a := 2147483647) (by decide +kernel) (by decide) (by decide) ?_
                refine x_goto (np := 135) (x := 140) (by decide +kernel) ?_
                refine x_istore (np := 142) (x := 5) (lo' := [x_r 75, iv_c 2147483652, iv_c 2147483651, iv_c v4221, iv_c 2147483649, iv_c 2147483647]) (by decide +kernel) (by decide) (Nat.le_of_ble_eq_true rfl) rfl ?_
                refine x_iload (np := 144) (x := 5) (by decide +kernel) rfl (by decide) ?_
                refine x_ifz (k := 2) (tg := 151) (np := 147) (by decide +kernel) (by decide) (by decide) (fun q4414 => ?_) (fun q4415 => ?_)
                · have q4414 : 2147483647 < 2147483648 := q4414
                  refine x_const (np := 152) (x := 9223372039002259456) (a := 2147483648) (by decide +kernel) (by decide) (by decide) ?_
                  refine x_istore (np := 154) (x := 4) (lo' := [x_r 75, iv_c 2147483652, iv_c 2147483651, iv_c v4221, iv_c 2147483648, iv_c 2147483647]) (by decide +kernel) (by decide) (Nat.le_of_ble_eq_true rfl) rfl ?_
                  refine x_iload (np := 156) (x := 4) (by decide +kernel) rfl (by decide) ?_
                  refine x_ifz (k := 0) (tg := 180) (np := 159) (by decide +kernel) (by decide) (by decide) (fun q4416 => ?_) (fun q4417 => ?_)
                  · have q4416 : 2147483648 = 2147483648 := q4416
                    refine x_iinc (np := 183) (i := 2) (j := 2147483647) (v := 2147483650) (lo' := [x_r 75, iv_c 2147483652, iv_c 2147483650, iv_c v4221, iv_c 2147483648, iv_c 2147483647]) (by decide +kernel) (by decide) (by decide) rfl (by decide) (by first | decide | omega) (by first | decide | omega) rfl ?_
                    refine x_goto (np := 186) (x := 12) (by decide +kernel) ?_
                    have q4418 : h4401 75 30 = h4369 75 30 := jK 0 f4403 rg_75_30_0_1 (by first | decide | omega) (by first | decide | omega) (by decide)
                    have q4419 : h4369 75 30 = h4352 75 30 := by rw [← e4371]; exact x_up_k (by decide)
                    have q4420 : h4352 75 30 = h4224 75 30 := by rw [← e4354]; exact x_up_i (by first | decide | omega)
                    have q4421 : h4224 75 30 = h4212 75 30 := jK 0 f4226 rg_75_30_0_1 (by first | decide | omega) (by first | decide | omega) (by decide)
                    have q4422 : h4212 75 30 = (1 + (h3207 75 30)) := by rw [← e4214]; exact x_up_at
                    exact i3255 (iv_c v4221) (iv_c 2147483647) h4401 (by first | decide | omega) j4402 f4407 (by first | decide | omega)
                  have q4417 : ¬ (2147483648 = 2147483648) := q4417
                  exfalso; omega
                have q4415 : ¬ (2147483647 < 2147483648) := q4415
                exfalso; omega
              have q4367 : ¬ (v4221 = 2147483649) := q4367
              exfalso; omega
            have q4365 : ¬ ((h 75 33) = 2147483648) := q4365
            refine x_const (np := 84) (x := 9223372043297226753) (a := 2147483649) (by decide +kernel) (by decide) (by decide) ?_
            have q4423 : h4352 75 30 = h4224 75 30 := by rw [← e4354]; exact x_up_i (by first | decide | omega)
            have q4424 : h4224 75 30 = h4212 75 30 := jK 0 f4226 rg_75_30_0_1 (by first | decide | omega) (by first | decide | omega) (by decide)
            have q4425 : h4212 75 30 = (1 + (h3207 75 30)) := by rw [← e4214]; exact x_up_at
            refine x_retI (np := 85) (x := 0) (by decide +kernel) (by decide) (Or.inr ⟨by decide +kernel, by first | decide | omega, by first | decide | omega⟩) ⟨_, rfl, (by decide), ?_⟩
            exact ⟨j4353, f4355, (by first | decide | omega), (fun z => by first | decide | omega)⟩
          have q4346 : ¬ ((h3207 75 34) ≠ 2147483648) := q4346
          refine x_aload (np := 62) (x := 0) (by decide +kernel) rfl (x_nc_le (by decide)) ?_
          refine x_iload (np := 63) (x := 2) (by decide +kernel) rfl (by decide) ?_
          refine x_cV (t := 6) (mj := 258) (n := 2) (rc := 12) (ml := 4) (nr := 0) (np := 66) (as := [x_r 75, iv_c 2147483651]) (rest := []) (lo1 := [x_r 75, iv_c 2147483651, 147573952589676412928, 147573952589676412928]) (by decide +kernel) (by decide) (by decide +kernel) (x_rb_of (by decide +kernel)) rfl rfl (x_wr (by decide) (x_wi (by decide) x_wn)) x_wn (by decide) rfl (c258_75 j4225  (by first | decide | omega)) (fun h4429 q4428 => ?_)
          obtain ⟨j4430, f4431⟩ := q4428
          have f4434 := Fr.trans f4228 f4431 (by decide)
          have f4435 := Fr.trans f4229 f4431 (by decide)
          refine x_aload (np := 67) (x := 0) (by decide +kernel) rfl (x_nc_le (by decide)) ?_
          refine x_dup (np := 68) (x := 0) (by decide +kernel) (by have z := x_nc_le (k := 75) (by decide); unfold x_r; omega) ?_
          have q4436 : h4429 75 34 = h4224 75 34 := jK 0 f4431 rg_75_34_0_1 (by first | decide | omega) (by first | decide | omega) (by decide)
          have q4437 : h4224 75 34 = h4212 75 34 := jK 0 f4226 rg_75_34_0_1 (by first | decide | omega) (by first | decide | omega) (by decide)
          have q4438 : h4212 75 34 = h3207 75 34 := by rw [← e4214]; exact x_up_i (by first | decide | omega)
          refine x_getC (np := 71) (x := 738) (f := 34) (q := (h3207 75 34)) (by decide +kernel) (by decide) (by decide +kernel) ((q4436.trans q4437).trans q4438) (fun l4439 => ?_)
          refine x_const (np := 72) (x := 9223372043297226753) (a := 2147483649) (by decide +kernel) (by decide) (by decide) ?_
          refine x_iadd (np := 73) (x := 0) (v := (1 + (h3207 75 34))) (by decide +kernel) l4344 (by decide) (by first | decide | omega) (by first | decide | omega) ?_
          refine x_putI (np := 76) (x := 738) (f := 34) (by decide +kernel) (by decide +kernel) (by first | decide | omega) (Or.inl (by decide)) ?_
          have j4441 := jU (e := 34) (v := (1 + (h3207 75 34))) 0 j4430 rg_75_34_0_1 (by first | decide | omega) (by first | decide | omega) (by first | decide | omega)
          have f4443 := jF (e := 34) (v := (1 + (h3207 75 34))) 0 f4434 rg_75_34_0_1 (by first | decide | omega) (by first | decide | omega) (by decide)
          have f4444 := jF (e := 34) (v := (1 + (h3207 75 34))) 0 f4435 rg_75_34_0_1 (by first | decide | omega) (by first | decide | omega) (by decide)
          generalize e4442 : x_up h4429 75 34 (1 + (h3207 75 34)) = h4440 at j4441 f4443 f4444 ⊢
          refine x_aload (np := 77) (x := 0) (by decide +kernel) rfl (x_nc_le (by decide)) ?_
          have q4445 : h4440 75 33 = h4429 75 33 := by rw [← e4442]; exact x_up_i (by first | decide | omega)
          have q4446 : h4429 75 33 = h4224 75 33 := jK 0 f4431 rg_75_33_0_1 (by first | decide | omega) (by first | decide | omega) (by decide)
          have q4447 : h4224 75 33 = h4212 75 33 := jK 0 f4226 rg_75_33_0_1 (by first | decide | omega) (by first | decide | omega) (by decide)
          have q4448 : h4212 75 33 = h3207 75 33 := by rw [← e4214]; exact x_up_i (by first | decide | omega)
          have q4449 : h3207 75 33 = h2 75 33 := jK 0 f3209 rg_75_33_0_1 (by first | decide | omega) (by first | decide | omega) (by decide)
          have q4450 : h2 75 33 = h 75 33 := by rw [← e4]; exact x_up_i (by first | decide | omega)
          have b4451 := jB (e := 33) 0 hJ rg_75_33_0_1 (by first | decide | omega) (by first | decide | omega)
          refine x_getC (np := 80) (x := 737) (f := 33) (q := (h 75 33)) (by decide +kernel) (by decide) (by decide +kernel) (((((q4445.trans q4446).trans q4447).trans q4448).trans q4449).trans q4450) (fun l4452 => ?_)
          refine x_ifz (k := 0) (tg := 85) (np := 83) (by decide +kernel) (by decide) l4452 (fun q4453 => ?_) (fun q4454 => ?_)
          · have q4453 : (h 75 33) = 2147483648 := q4453
            refine x_iload (np := 86) (x := 3) (by decide +kernel) rfl l4222 ?_
            refine x_const (np := 87) (x := 9223372043297226753) (a := 2147483649) (by decide +kernel) (by decide) (by decide) ?_
            refine x_icmp (k := 0) (tg := 95) (np := 90) (by decide +kernel) (by decide) l4222 (by decide) (fun q4455 => ?_) (fun q4456 => ?_)
            · have q4455 : v4221 = 2147483649 := q4455
              refine x_aload (np := 96) (x := 0) (by decide +kernel) rfl (x_nc_le (by decide)) ?_
              have q4457 : h4440 75 28 = 94 := by have z := jB (e := 28) 0 j4441 rg_75_28_0_1 (by decide) (by decide); omega
              refine x_getR (np := 99) (x := 732) (f := 28) (q := 94) (by decide +kernel) (by decide) (by decide +kernel) q4457 ?_
              refine x_iload (np := 100) (x := 2) (by decide +kernel) rfl (by decide) ?_
              refine x_const (np := 101) (x := 9223372034707292159) (a := 2147483647) (by decide +kernel) (by decide) (by decide) ?_
              refine x_ast (np := 102) (x := 0) (kd := 1) (n := 6) (i := 3) (by decide +kernel) (Or.inl rfl) (by decide +kernel) (by first | decide | omega) (by first | decide | omega) (by decide) (by decide) (fun z => absurd z (by decide)) ?_
              have j4459 := jU (e := 3) (v := 2147483647) 3 j4441 rg_94_0_1_6 (by first | decide | omega) (by first | decide | omega) (by first | decide | omega)
              have f4461 := jF (e := 3) (v := 2147483647) 3 f4443 rg_94_0_1_6 (by first | decide | omega) (by first | decide | omega) (by decide)
              have f4462 := jF (e := 3) (v := 2147483647) 3 f4444 rg_94_0_1_6 (by first | decide | omega) (by first | decide | omega) (by decide)
              generalize e4460 : x_up h4440 94 3 2147483647 = h4458 at j4459 f4461 f4462 ⊢
              refine x_aload (np := 103) (x := 0) (by decide +kernel) rfl (x_nc_le (by decide)) ?_
              have q4463 : h4458 75 27 = 93 := by have z := jB (e := 27) 0 j4459 rg_75_27_0_1 (by decide) (by decide); omega
              refine x_getR (np := 106) (x := 731) (f := 27) (q := 93) (by decide +kernel) (by decide) (by decide +kernel) q4463 ?_
              refine x_iload (np := 107) (x := 2) (by decide +kernel) rfl (by decide) ?_
              have q4464 : h4458 93 3 = h4440 93 3 := by rw [← e4460]; exact x_up_k (by decide)
              have q4465 : h4440 93 3 = h4429 93 3 := by rw [← e4442]; exact x_up_k (by decide)
              have q4466 : h4429 93 3 = h4224 93 3 := jK 3 f4431 rg_93_0_1_6 (by first | decide | omega) (by first | decide | omega) (by decide)
              have b4467 := jB (e := 3) 3 j4225 rg_93_0_1_6 (by first | decide | omega) (by first | decide | omega)
              refine x_aldC (np := 108) (x := 0) (n := 6) (i := 3) (q := (h4224 93 3)) (by decide +kernel) (by decide +kernel) (by first | decide | omega) (by first | decide | omega) (by decide) ((q4464.trans q4465).trans q4466) (fun l4468 => ?_)
              refine x_ifz (k := 2) (tg := 122) (np := 111) (by decide +kernel) (by decide) l4468 (fun q4469 => ?_) (fun q4470 => ?_)
              · have q4469 : (h4224 93 3) < 2147483648 := q4469
                refine x_aload (np := 123) (x := 0) (by decide +kernel) rfl (x_nc_le (by decide)) ?_
                have q4471 : h4458 75 28 = 94 := by have z := jB (e := 28) 0 j4459 rg_75_28_0_1 (by decide) (by decide); omega
                refine x_getR (np := 126) (x := 732) (f := 28) (q := 94) (by decide +kernel) (by decide) (by decide +kernel) q4471 ?_
                refine x_iload (np := 127) (x := 2) (by decide +kernel) rfl (by decide) ?_
                have q4472 : h4458 94 3 = 2147483647 := by rw [← e4460]; exact x_up_at
                refine x_aldC (np := 128) (x := 0) (n := 6) (i := 3) (q := 2147483647) (by decide +kernel) (by decide +kernel) (by first | decide | omega) (by first | decide | omega) (by decide) q4472 (fun l4473 => ?_)
                refine x_ifz (k := 3) (tg := 135) (np := 131) (by decide +kernel) (by decide) (by decide) (fun q4474 => ?_) (fun q4475 => ?_)
                · have q4474 : 2147483648 ≤ 2147483647 := q4474
                  exfalso; omega
                have q4475 : ¬ (2147483648 ≤ 2147483647) := q4475
                refine x_const (np := 132) (x := 9223372034707292159) (a := 2147483647) (by decide +kernel) (by decide) (by decide) ?_
                refine x_goto (np := 135) (x := 140) (by decide +kernel) ?_
                refine x_istore (np := 142) (x := 5) (lo' := [x_r 75, iv_c 2147483652, iv_c 2147483651, iv_c v4221, iv_c 2147483649, iv_c 2147483647]) (by decide +kernel) (by decide) (Nat.le_of_ble_eq_true rfl) rfl ?_
                refine x_iload (np := 144) (x := 5) (by decide +kernel) rfl (by decide) ?_
                refine x_ifz (k := 2) (tg := 151) (np := 147) (by decide +kernel) (by decide) (by decide) (fun q4476 => ?_) (fun q4477 => ?_)
                · have q4476 : 2147483647 < 2147483648 := q4476
                  refine x_const (np := 152) (x := 9223372039002259456) (a := 2147483648) (by decide +kernel) (by decide) (by decide) ?_
                  refine x_istore (np := 154) (x := 4) (lo' := [x_r 75, iv_c 2147483652, iv_c 2147483651, iv_c v4221, iv_c 2147483648, iv_c 2147483647]) (by decide +kernel) (by decide) (Nat.le_of_ble_eq_true rfl) rfl ?_
                  refine x_iload (np := 156) (x := 4) (by decide +kernel) rfl (by decide) ?_
                  refine x_ifz (k := 0) (tg := 180) (np := 159) (by decide +kernel) (by decide) (by decide) (fun q4478 => ?_) (fun q4479 => ?_)
                  · have q4478 : 2147483648 = 2147483648 := q4478
                    refine x_iinc (np := 183) (i := 2) (j := 2147483647) (v := 2147483650) (lo' := [x_r 75, iv_c 2147483652, iv_c 2147483650, iv_c v4221, iv_c 2147483648, iv_c 2147483647]) (by decide +kernel) (by decide) (by decide) rfl (by decide) (by first | decide | omega) (by first | decide | omega) rfl ?_
                    refine x_goto (np := 186) (x := 12) (by decide +kernel) ?_
                    have q4480 : h4458 75 30 = h4440 75 30 := by rw [← e4460]; exact x_up_k (by decide)
                    have q4481 : h4440 75 30 = h4429 75 30 := by rw [← e4442]; exact x_up_i (by first | decide | omega)
                    have q4482 : h4429 75 30 = h4224 75 30 := jK 0 f4431 rg_75_30_0_1 (by first | decide | omega) (by first | decide | omega) (by decide)
                    have q4483 : h4224 75 30 = h4212 75 30 := jK 0 f4226 rg_75_30_0_1 (by first | decide | omega) (by first | decide | omega) (by decide)
                    have q4484 : h4212 75 30 = (1 + (h3207 75 30)) := by rw [← e4214]; exact x_up_at
                    exact i3255 (iv_c v4221) (iv_c 2147483647) h4458 (by first | decide | omega) j4459 f4462 (by first | decide | omega)
                  have q4479 : ¬ (2147483648 = 2147483648) := q4479
                  exfalso; omega
                have q4477 : ¬ (2147483647 < 2147483648) := q4477
                exfalso; omega
              have q4470 : ¬ ((h4224 93 3) < 2147483648) := q4470
              refine x_aload (np := 112) (x := 0) (by decide +kernel) rfl (x_nc_le (by decide)) ?_
              refine x_aload (np := 113) (x := 0) (by decide +kernel) rfl (x_nc_le (by decide)) ?_
              have q4485 : h4458 75 27 = 93 := by have z := jB (e := 27) 0 j4459 rg_75_27_0_1 (by decide) (by decide); omega
              refine x_getR (np := 116) (x := 731) (f := 27) (q := 93) (by decide +kernel) (by decide) (by decide +kernel) q4485 ?_
              refine x_iload (np := 117) (x := 2) (by decide +kernel) rfl (by decide) ?_
              have q4486 : h4458 93 3 = h4440 93 3 := by rw [← e4460]; exact x_up_k (by decide)
              have q4487 : h4440 93 3 = h4429 93 3 := by rw [← e4442]; exact x_up_k (by decide)
              have q4488 : h4429 93 3 = h4224 93 3 := jK 3 f4431 rg_93_0_1_6 (by first | decide | omega) (by first | decide | omega) (by decide)
              refine x_aldC (np := 118) (x := 0) (n := 6) (i := 3) (q := (h4224 93 3)) (by decide +kernel) (by decide +kernel) (by first | decide | omega) (by first | decide | omega) (by decide) ((q4486.trans q4487).trans q4488) (fun l4489 => ?_)
              refine x_const (np := 119) (x := 9223372039002259456) (a := 2147483648) (by decide +kernel) (by decide) (by decide) ?_
              refine x_cV (t := 6) (mj := 248) (n := 3) (rc := 12) (ml := 4) (nr := 0) (np := 122) (as := [x_r 75, iv_c (h4224 93 3), iv_c 2147483648]) (rest := []) (lo1 := [x_r 75, iv_c (h4224 93 3), iv_c 2147483648, 147573952589676412928]) (by decide +kernel) (by decide) (by decide +kernel) (x_rb_of (by decide +kernel)) rfl rfl (x_wr (by decide) (x_wi l4468 (x_wi (by decide) x_wn))) x_wn (by decide) rfl (c248_75 j4459  (by first | decide | omega) (by first | decide | omega)) (fun h4493 q4492 => ?_)
              obtain ⟨j4494, f4495⟩ := q4492
              have f4498 := Fr.trans f4461 f4495 (by decide)
              have f4499 := Fr.trans f4462 f4495 (by decide)
              refine x_aload (np := 123) (x := 0) (by decide +kernel) rfl (x_nc_le (by decide)) ?_
              have q4500 : h4493 75 28 = 94 := by have z := jB (e := 28) 0 j4494 rg_75_28_0_1 (by decide) (by decide); omega
              refine x_getR (np := 126) (x := 732) (f := 28) (q := 94) (by decide +kernel) (by decide) (by decide +kernel) q4500 ?_
              refine x_iload (np := 127) (x := 2) (by decide +kernel) rfl (by decide) ?_
              have q4501 : h4493 94 3 = h4458 94 3 := jK 3 f4495 rg_94_0_1_6 (by first | decide | omega) (by first | decide | omega) (by decide)
              have q4502 : h4458 94 3 = 2147483647 := by rw [← e4460]; exact x_up_at
              refine x_aldC (np := 128) (x := 0) (n := 6) (i := 3) (q := 2147483647) (by decide +kernel) (by decide +kernel) (by first | decide | omega) (by first | decide | omega) (by decide) (q4501.trans q4502) (fun l4503 => ?_)
              refine x_ifz (k := 3) (tg := 135) (np := 131) (by decide +kernel) (by decide) (by decide) (fun q4504 => ?_) (fun q4505 => ?_)
              · have q4504 : 2147483648 ≤ 2147483647 := q4504
                exfalso; omega
              have q4505 : ¬ (2147483648 ≤ 2147483647) := q4505
              refine x_const (np := 132) (x := 9223372034707292159) (a := 2147483647) (by decide +kernel) (by decide) (by decide) ?_
              refine x_goto (np := 135) (x := 140) (by decide +kernel) ?_
              refine x_istore (np := 142) (x := 5) (lo' := [x_r 75, iv_c 2147483652, iv_c 2147483651, iv_c v4221, iv_c 2147483649, iv_c 2147483647]) (by decide +kernel) (by decide) (Nat.le_of_ble_eq_true rfl) rfl ?_
              refine x_iload (np := 144) (x := 5) (by decide +kernel) rfl (by decide) ?_
              refine x_ifz (k := 2) (tg := 151) (np := 147) (by decide +kernel) (by decide) (by decide) (fun q4506 => ?_) (fun q4507 => ?_)
              · have q4506 : 2147483647 < 2147483648 := q4506
                refine x_const (np := 152) (x := 9223372039002259456) (a := 2147483648) (by decide +kernel) (by decide) (by decide) ?_
                refine x_istore (np := 154) (x := 4) (lo' := [x_r 75, iv_c 2147483652, iv_c 2147483651, iv_c v4221, iv_c 2147483648, iv_c 2147483647]) (by decide +kernel) (by decide) (Nat.le_of_ble_eq_true rfl) rfl ?_
                refine x_iload (np := 156) (x := 4) (by decide +kernel) rfl (by decide) ?_
                refine x_ifz (k := 0) (tg := 180) (np := 159) (by decide +kernel) (by decide) (by decide) (fun q4508 => ?_) (fun q4509 => ?_)
                · have q4508 : 2147483648 = 2147483648 := q4508
                  refine x_iinc (np := 183) (i := 2) (j := 2147483647) (v := 2147483650) (lo' := [x_r 75, iv_c 2147483652, iv_c 2147483650, iv_c v4221, iv_c 2147483648, iv_c 2147483647]) (by decide +kernel) (by decide) (by decide) rfl (by decide) (by first | decide | omega) (by first | decide | omega) rfl ?_
                  refine x_goto (np := 186) (x := 12) (by decide +kernel) ?_
                  have q4510 : h4493 75 30 = h4458 75 30 := jK 0 f4495 rg_75_30_0_1 (by first | decide | omega) (by first | decide | omega) (by decide)
                  have q4511 : h4458 75 30 = h4440 75 30 := by rw [← e4460]; exact x_up_k (by decide)
                  have q4512 : h4440 75 30 = h4429 75 30 := by rw [← e4442]; exact x_up_i (by first | decide | omega)
                  have q4513 : h4429 75 30 = h4224 75 30 := jK 0 f4431 rg_75_30_0_1 (by first | decide | omega) (by first | decide | omega) (by decide)
                  have q4514 : h4224 75 30 = h4212 75 30 := jK 0 f4226 rg_75_30_0_1 (by first | decide | omega) (by first | decide | omega) (by decide)
                  have q4515 : h4212 75 30 = (1 + (h3207 75 30)) := by rw [← e4214]; exact x_up_at
                  exact i3255 (iv_c v4221) (iv_c 2147483647) h4493 (by first | decide | omega) j4494 f4499 (by first | decide | omega)
                have q4509 : ¬ (2147483648 = 2147483648) := q4509
                exfalso; omega
              have q4507 : ¬ (2147483647 < 2147483648) := q4507
              exfalso; omega
            have q4456 : ¬ (v4221 = 2147483649) := q4456
            exfalso; omega
          have q4454 : ¬ ((h 75 33) = 2147483648) := q4454
          refine x_const (np := 84) (x := 9223372043297226753) (a := 2147483649) (by decide +kernel) (by decide) (by decide) ?_
          have q4516 : h4440 75 30 = h4429 75 30 := by rw [← e4442]; exact x_up_i (by first | decide | omega)
          have q4517 : h4429 75 30 = h4224 75 30 := jK 0 f4431 rg_75_30_0_1 (by first | decide | omega) (by first | decide | omega) (by decide)
          have q4518 : h4224 75 30 = h4212 75 30 := jK 0 f4226 rg_75_30_0_1 (by first | decide | omega) (by first | decide | omega) (by decide)
          have q4519 : h4212 75 30 = (1 + (h3207 75 30)) := by rw [← e4214]; exact x_up_at
          refine x_retI (np := 85) (x := 0) (by decide +kernel) (by decide) (Or.inr ⟨by decide +kernel, by first | decide | omega, by first | decide | omega⟩) ⟨_, rfl, (by decide), ?_⟩
          exact ⟨j4441, f4443, (by first | decide | omega), (fun z => by first | decide | omega)⟩
        have q4220 : ¬ ((1 + (h3207 75 30)) ≤ 2147503648) := q4220
        refine x_const (np := 42) (x := 9223372039002259456) (a := 2147483648) (by decide +kernel) (by decide) (by decide) ?_
        have q4520 : h4212 75 30 = (1 + (h3207 75 30)) := by rw [← e4214]; exact x_up_at
        refine x_retI (np := 43) (x := 0) (by decide +kernel) (by decide) (Or.inr ⟨by decide +kernel, by first | decide | omega, by first | decide | omega⟩) ⟨_, rfl, (by decide), ?_⟩
        exact ⟨j4213, f4215, (by first | decide | omega), (fun z => by first | decide | omega)⟩
      · intro w3211 w3212 h3213 q4521 j3216 f3215 b3214
        have f4522 := Fr.trans f5 f3215 (by decide)
        refine x_iload (np := 13) (x := 2) (by decide +kernel) rfl (by decide) ?_
        refine x_ifz (k := 2) (tg := 186) (np := 16) (by decide +kernel) (by decide) (by decide) (fun q4523 => ?_) (fun q4524 => ?_)
        · have q4523 : 2147483652 < 2147483648 := q4523
          exfalso; omega
        have q4524 : ¬ (2147483652 < 2147483648) := q4524
        refine x_iload (np := 18) (x := 4) (by decide +kernel) rfl (by decide) ?_
        refine x_ifz (k := 0) (tg := 102) (np := 21) (by decide +kernel) (by decide) (by decide) (fun q4525 => ?_) (fun q4526 => ?_)
        · have q4525 : 2147483649 = 2147483648 := q4525
          exfalso; omega
        have q4526 : ¬ (2147483649 = 2147483648) := q4526
        refine x_aload (np := 22) (x := 0) (by decide +kernel) rfl (x_nc_le (by decide)) ?_
        refine x_dup (np := 23) (x := 0) (by decide +kernel) (by have z := x_nc_le (k := 75) (by decide); unfold x_r; omega) ?_
        refine x_getC (np := 26) (x := 734) (f := 30) (q := (h3213 75 30)) (by decide +kernel) (by decide) (by decide +kernel) rfl (fun l4527 => ?_)
        refine x_const (np := 27) (x := 9223372043297226753) (a := 2147483649) (by decide +kernel) (by decide) (by decide) ?_
        refine x_iadd (np := 28) (x := 0) (v := (1 + (h3213 75 30))) (by decide +kernel) l4527 (by decide) (by first | decide | omega) (by first | decide | omega) ?_
        refine x_putI (np := 31) (x := 734) (f := 30) (by decide +kernel) (by decide +kernel) (by first | decide | omega) (Or.inl (by decide)) ?_
        have j4529 := jU (e := 30) (v := (1 + (h3213 75 30))) 0 j3216 rg_75_30_0_1 (by first | decide | omega) (by first | decide | omega) (by first | decide | omega)
        have f4531 := jF (e := 30) (v := (1 + (h3213 75 30))) 0 f4522 rg_75_30_0_1 (by first | decide | omega) (by first | decide | omega) (by decide)
        have f4532 := jF (e := 30) (v := (1 + (h3213 75 30))) 0 f3215 rg_75_30_0_1 (by first | decide | omega) (by first | decide | omega) (by decide)
        generalize e4530 : x_up h3213 75 30 (1 + (h3213 75 30)) = h4528 at j4529 f4531 f4532 ⊢
        refine x_aload (np := 32) (x := 0) (by decide +kernel) rfl (x_nc_le (by decide)) ?_
        have q4533 : h4528 75 30 = (1 + (h3213 75 30)) := by rw [← e4530]; exact x_up_at
        refine x_getC (np := 35) (x := 734) (f := 30) (q := (1 + (h3213 75 30))) (by decide +kernel) (by decide) (by decide +kernel) q4533 (fun l4534 => ?_)
        refine x_const (np := 38) (x := 9223457938348199456) (a := 2147503648) (by decide +kernel) (by decide) (by decide) ?_
        refine x_icmp (k := 5) (tg := 43) (np := 41) (by decide +kernel) (by decide) (by first | decide | omega) (by decide) (fun q4535 => ?_) (fun q4536 => ?_)
        · have q4535 : (1 + (h3213 75 30)) ≤ 2147503648 := q4535
          refine x_aload (np := 44) (x := 0) (by decide +kernel) rfl (x_nc_le (by decide)) ?_
          refine x_iload (np := 45) (x := 2) (by decide +kernel) rfl (by decide) ?_
          refine x_cI (t := 6) (mj := 254) (n := 2) (rc := 12) (ml := 4) (nr := 0) (np := 48) (as := [x_r 75, iv_c 2147483652]) (rest := []) (lo1 := [x_r 75, iv_c 2147483652, 147573952589676412928, 147573952589676412928]) (by decide +kernel) (by decide) (by decide +kernel) (x_rb_of (by decide +kernel)) rfl rfl (x_wr (by decide) (x_wi (by decide) x_wn)) x_wn (by decide) rfl (c254_75 j4529  (by first | decide | omega)) (fun v4537 h4540 l4538 q4539 => ?_)
          obtain ⟨j4541, f4542, b4543⟩ := q4539
          have f4544 := Fr.trans f4531 f4542 (by decide)
          have f4545 := Fr.trans f4532 f4542 (by decide)
          refine x_istore (np := 49) (x := 3) (lo' := [x_r 75, iv_c 2147483652, iv_c 2147483652, iv_c v4537, iv_c 2147483649, w3212]) (by decide +kernel) l4538 (Nat.le_of_ble_eq_true rfl) rfl ?_
          refine x_iload (np := 50) (x := 3) (by decide +kernel) rfl l4538 ?_
          refine x_const (np := 51) (x := 9223372043297226753) (a := 2147483649) (by decide +kernel) (by decide) (by decide) ?_
          refine x_icmp (k := 1) (tg := 85) (np := 54) (by decide +kernel) (by decide) l4538 (by decide) (fun q4546 => ?_) (fun q4547 => ?_)
          · have q4546 : v4537 ≠ 2147483649 := q4546
            refine x_iload (np := 86) (x := 3) (by decide +kernel) rfl l4538 ?_
            refine x_const (np := 87) (x := 9223372043297226753) (a := 2147483649) (by decide +kernel) (by decide) (by decide) ?_
            refine x_icmp (k := 0) (tg := 95) (np := 90) (by decide +kernel) (by decide) l4538 (by decide) (fun q4548 => ?_) (fun q4549 => ?_)
            · have q4548 : v4537 = 2147483649 := q4548
              exfalso; omega
            have q4549 : ¬ (v4537 = 2147483649) := q4549
            refine x_iload (np := 91) (x := 2) (by decide +kernel) rfl (by decide) ?_
            refine x_iload (np := 92) (x := 1) (by decide +kernel) rfl (by decide) ?_
            refine x_icmp (k := 1) (tg := 102) (np := 95) (by decide +kernel) (by decide) (by decide) (by decide) (fun q4550 => ?_) (fun q4551 => ?_)
            · have q4550 : 2147483652 ≠ 2147483652 := q4550
              exfalso; omega
            have q4551 : ¬ (2147483652 ≠ 2147483652) := q4551
            refine x_aload (np := 96) (x := 0) (by decide +kernel) rfl (x_nc_le (by decide)) ?_
            have q4552 : h4540 75 28 = 94 := by have z := jB (e := 28) 0 j4541 rg_75_28_0_1 (by decide) (by decide); omega
            refine x_getR (np := 99) (x := 732) (f := 28) (q := 94) (by decide +kernel) (by decide) (by decide +kernel) q4552 ?_
            refine x_iload (np := 100) (x := 2) (by decide +kernel) rfl (by decide) ?_
            refine x_const (np := 101) (x := 9223372034707292159) (a := 2147483647) (by decide +kernel) (by decide) (by decide) ?_
            refine x_ast (np := 102) (x := 0) (kd := 1) (n := 6) (i := 4) (by decide +kernel) (Or.inl rfl) (by decide +kernel) (by first | decide | omega) (by first | decide | omega) (by decide) (by decide) (fun z => absurd z (by decide)) ?_
            have j4554 := jU (e := 4) (v := 2147483647) 4 j4541 rg_94_0_1_6 (by first | decide | omega) (by first | decide | omega) (by first | decide | omega)
            have f4556 := jF (e := 4) (v := 2147483647) 4 f4544 rg_94_0_1_6 (by first | decide | omega) (by first | decide | omega) (by decide)
            have f4557 := jF (e := 4) (v := 2147483647) 4 f4545 rg_94_0_1_6 (by first | decide | omega) (by first | decide | omega) (by decide)
            generalize e4555 : x_up h4540 94 4 2147483647 = h4553 at j4554 f4556 f4557 ⊢
            refine x_aload (np := 103) (x := 0) (by decide +kernel) rfl (x_nc_le (by decide)) ?_
            have q4558 : h4553 75 27 = 93 := by have z := jB (e := 27) 0 j4554 rg_75_27_0_1 (by decide) (by decide); omega
            refine x_getR (np := 106) (x := 731) (f := 27) (q := 93) (by decide +kernel) (by decide) (by decide +kernel) q4558 ?_
            refine x_iload (np := 107) (x := 2) (by decide +kernel) rfl (by decide) ?_
            have q4559 : h4553 93 4 = h4540 93 4 := by rw [← e4555]; exact x_up_k (by decide)
            have b4560 := jB (e := 4) 4 j4541 rg_93_0_1_6 (by first | decide | omega) (by first | decide | omega)
            refine x_aldC (np := 108) (x := 0) (n := 6) (i := 4) (q := (h4540 93 4)) (by decide +kernel) (by decide +kernel) (by first | decide | omega) (by first | decide | omega) (by decide) q4559 (fun l4561 => ?_)
            refine x_ifz (k := 2) (tg := 122) (np := 111) (by decide +kernel) (by decide) l4561 (fun q4562 => ?_) (fun q4563 => ?_)
            · have q4562 : (h4540 93 4) < 2147483648 := q4562
              refine x_aload (np := 123) (x := 0) (by decide +kernel) rfl (x_nc_le (by decide)) ?_
              have q4564 : h4553 75 28 = 94 := by have z := jB (e := 28) 0 j4554 rg_75_28_0_1 (by decide) (by decide); omega
              refine x_getR (np := 126) (x := 732) (f := 28) (q := 94) (by decide +kernel) (by decide) (by decide +kernel) q4564 ?_
              refine x_iload (np := 127) (x := 2) (by decide +kernel) rfl (by decide) ?_
              have q4565 : h4553 94 4 = 2147483647 := by rw [← e4555]; exact x_up_at
              refine x_aldC (np := 128) (x := 0) (n := 6) (i := 4) (q := 2147483647) (by decide +kernel) (by decide +kernel) (by first | decide | omega) (by first | decide | omega) (by decide) q4565 (fun l4566 => ?_)
              refine x_ifz (k := 3) (tg := 135) (np := 131) (by decide +kernel) (by decide) (by decide) (fun q4567 => ?_) (fun q4568 => ?_)
              · have q4567 : 2147483648 ≤ 2147483647 := q4567
                exfalso; omega
              have q4568 : ¬ (2147483648 ≤ 2147483647) := q4568
              refine x_const (np := 132) (x := 9223372034707292159) (a := 2147483647) (by decide +kernel) (by decide) (by decide) ?_
              refine x_goto (np := 135) (x := 140) (by decide +kernel) ?_
              refine x_istore (np := 142) (x := 5) (lo' := [x_r 75, iv_c 2147483652, iv_c 2147483652, iv_c v4537, iv_c 2147483649, iv_c 2147483647]) (by decide +kernel) (by decide) (Nat.le_of_ble_eq_true rfl) rfl ?_
              refine x_iload (np := 144) (x := 5) (by decide +kernel) rfl (by decide) ?_
              refine x_ifz (k := 2) (tg := 151) (np := 147) (by decide +kernel) (by decide) (by decide) (fun q4569 => ?_) (fun q4570 => ?_)
              · have q4569 : 2147483647 < 2147483648 := q4569
                refine x_const (np := 152) (x := 9223372039002259456) (a := 2147483648) (by decide +kernel) (by decide) (by decide) ?_
                refine x_istore (np := 154) (x := 4) (lo' := [x_r 75, iv_c 2147483652, iv_c 2147483652, iv_c v4537, iv_c 2147483648, iv_c 2147483647]) (by decide +kernel) (by decide) (Nat.le_of_ble_eq_true rfl) rfl ?_
                refine x_iload (np := 156) (x := 4) (by decide +kernel) rfl (by decide) ?_
                refine x_ifz (k := 0) (tg := 180) (np := 159) (by decide +kernel) (by decide) (by decide) (fun q4571 => ?_) (fun q4572 => ?_)
                · have q4571 : 2147483648 = 2147483648 := q4571
                  refine x_iinc (np := 183) (i := 2) (j := 2147483647) (v := 2147483651) (lo' := [x_r 75, iv_c 2147483652, iv_c 2147483651, iv_c v4537, iv_c 2147483648, iv_c 2147483647]) (by decide +kernel) (by decide) (by decide) rfl (by decide) (by first | decide | omega) (by first | decide | omega) rfl ?_
                  refine x_goto (np := 186) (x := 12) (by decide +kernel) ?_
                  have q4573 : h4553 75 30 = h4540 75 30 := by rw [← e4555]; exact x_up_k (by decide)
                  have q4574 : h4540 75 30 = h4528 75 30 := jK 0 f4542 rg_75_30_0_1 (by first | decide | omega) (by first | decide | omega) (by decide)
                  have q4575 : h4528 75 30 = (1 + (h3213 75 30)) := by rw [← e4530]; exact x_up_at
                  exact i3256 (iv_c v4537) (iv_c 2147483647) h4553 (by first | decide | omega) j4554 f4557 (by first | decide | omega)
                have q4572 : ¬ (2147483648 = 2147483648) := q4572
                exfalso; omega
              have q4570 : ¬ (2147483647 < 2147483648) := q4570
              exfalso; omega
            have q4563 : ¬ ((h4540 93 4) < 2147483648) := q4563
            refine x_aload (np := 112) (x := 0) (by decide +kernel) rfl (x_nc_le (by decide)) ?_
            refine x_aload (np := 113) (x := 0) (by decide +kernel) rfl (x_nc_le (by decide)) ?_
            have q4576 : h4553 75 27 = 93 := by have z := jB (e := 27) 0 j4554 rg_75_27_0_1 (by decide) (by decide); omega
            refine x_getR (np := 116) (x := 731) (f := 27) (q := 93) (by decide +kernel) (by decide) (by decide +kernel) q4576 ?_
            refine x_iload (np := 117) (x := 2) (by decide +kernel) rfl (by decide) ?_
            have q4577 : h4553 93 4 = h4540 93 4 := by rw [← e4555]; exact x_up_k (by decide)
            refine x_aldC (np := 118) (x := 0) (n := 6) (i := 4) (q := (h4540 93 4)) (by decide +kernel) (by decide +kernel) (by first | decide | omega) (by first | decide | omega) (by decide) q4577 (fun l4578 => ?_)
            refine x_const (np := 119) (x := 9223372039002259456) (a := 2147483648) (by decide +kernel) (by decide) (by decide) ?_
            refine x_cV (t := 6) (mj := 248) (n := 3) (rc := 12) (ml := 4) (nr := 0) (np := 122) (as := [x_r 75, iv_c (h4540 93 4), iv_c 2147483648]) (rest := []) (lo1 := [x_r 75, iv_c (h4540 93 4), iv_c 2147483648, 147573952589676412928]) (by decide +kernel) (by decide) (by decide +kernel) (x_rb_of (by decide +kernel)) rfl rfl (x_wr (by decide) (x_wi l4561 (x_wi (by decide) x_wn))) x_wn (by decide) rfl (c248_75 j4554  (by first | decide | omega) (by first | decide | omega)) (fun h4582 q4581 => ?_)
            obtain ⟨j4583, f4584⟩ := q4581
            have f4587 := Fr.trans f4556 f4584 (by decide)
            have f4588 := Fr.trans f4557 f4584 (by decide)
            refine x_aload (np := 123) (x := 0) (by decide +kernel) rfl (x_nc_le (by decide)) ?_
            have q4589 : h4582 75 28 = 94 := by have z := jB (e := 28) 0 j4583 rg_75_28_0_1 (by decide) (by decide); omega
            refine x_getR (np := 126) (x := 732) (f := 28) (q := 94) (by decide +kernel) (by decide) (by decide +kernel) q4589 ?_
            refine x_iload (np := 127) (x := 2) (by decide +kernel) rfl (by decide) ?_
            have q4590 : h4582 94 4 = h4553 94 4 := jK 4 f4584 rg_94_0_1_6 (by first | decide | omega) (by first | decide | omega) (by decide)
            have q4591 : h4553 94 4 = 2147483647 := by rw [← e4555]; exact x_up_at
            refine x_aldC (np := 128) (x := 0) (n := 6) (i := 4) (q := 2147483647) (by decide +kernel) (by decide +kernel) (by first | decide | omega) (by first | decide | omega) (by decide) (q4590.trans q4591) (fun l4592 => ?_)
            refine x_ifz (k := 3) (tg := 135) (np := 131) (by decide +kernel) (by decide) (by decide) (fun q4593 => ?_) (fun q4594 => ?_)
            · have q4593 : 2147483648 ≤ 2147483647 := q4593
              exfalso; omega
            have q4594 : ¬ (2147483648 ≤ 2147483647) := q4594
            refine x_const (np := 132) (x := 9223372034707292159) (a := 2147483647) (by decide +kernel) (by decide) (by decide) ?_
            refine x_goto (np := 135) (x := 140) (by decide +kernel) ?_
            refine x_istore (np := 142) (x := 5) (lo' := [x_r 75, iv_c 2147483652, iv_c 2147483652, iv_c v4537, iv_c 2147483649, iv_c 2147483647]) (by decide +kernel) (by decide) (Nat.le_of_ble_eq_true rfl) rfl ?_
            refine x_iload (np := 144) (x := 5) (by decide +kernel) rfl (by decide) ?_
            refine x_ifz (k := 2) (tg := 151) (np := 147) (by decide +kernel) (by decide) (by decide) (fun q4595 => ?_) (fun q4596 => ?_)
            · have q4595 : 2147483647 < 2147483648 := q4595
              refine x_const (np := 152) (x := 9223372039002259456) (a := 2147483648) (by decide +kernel) (by decide) (by decide) ?_
              refine x_istore (np := 154) (x := 4) (lo' := [x_r 75, iv_c 2147483652, iv_c 2147483652, iv_c v4537, iv_c 2147483648, iv_c 2147483647]) (by decide +kernel) (by decide) (Nat.le_of_ble_eq_true rfl) rfl ?_
              refine x_iload (np := 156) (x := 4) (by decide +kernel) rfl (by decide) ?_
              refine x_ifz (k := 0) (tg := 180) (np := 159) (by decide +kernel) (by decide) (by decide) (fun q4597 => ?_) (fun q4598 => ?_)
              · have q4597 : 2147483648 = 2147483648 := q4597
                refine x_iinc (np := 183) (i := 2) (j := 2147483647) (v := 2147483651) (lo' := [x_r 75, iv_c 2147483652, iv_c 2147483651, iv_c v4537, iv_c 2147483648, iv_c 2147483647]) (by decide +kernel) (by decide) (by decide) rfl (by decide) (by first | decide | omega) (by first | decide | omega) rfl ?_
                refine x_goto (np := 186) (x := 12) (by decide +kernel) ?_
                have q4599 : h4582 75 30 = h4553 75 30 := jK 0 f4584 rg_75_30_0_1 (by first | decide | omega) (by first | decide | omega) (by decide)
                have q4600 : h4553 75 30 = h4540 75 30 := by rw [← e4555]; exact x_up_k (by decide)
                have q4601 : h4540 75 30 = h4528 75 30 := jK 0 f4542 rg_75_30_0_1 (by first | decide | omega) (by first | decide | omega) (by decide)
                have q4602 : h4528 75 30 = (1 + (h3213 75 30)) := by rw [← e4530]; exact x_up_at
                exact i3256 (iv_c v4537) (iv_c 2147483647) h4582 (by first | decide | omega) j4583 f4588 (by first | decide | omega)
              have q4598 : ¬ (2147483648 = 2147483648) := q4598
              exfalso; omega
            have q4596 : ¬ (2147483647 < 2147483648) := q4596
            exfalso; omega
          have q4547 : ¬ (v4537 ≠ 2147483649) := q4547
          refine x_aload (np := 55) (x := 0) (by decide +kernel) rfl (x_nc_le (by decide)) ?_
          have q4603 : h4540 75 34 = h4528 75 34 := jK 0 f4542 rg_75_34_0_1 (by first | decide | omega) (by first | decide | omega) (by decide)
          have q4604 : h4528 75 34 = h3213 75 34 := by rw [← e4530]; exact x_up_i (by first | decide | omega)
          refine x_getC (np := 58) (x := 738) (f := 34) (q := (h3213 75 34)) (by decide +kernel) (by decide) (by decide +kernel) (q4603.trans q4604) (fun l4605 => ?_)
          refine x_ifz (k := 1) (tg := 66) (np := 61) (by decide +kernel) (by decide) l4605 (fun q4606 => ?_) (fun q4607 => ?_)
          · have q4606 : (h3213 75 34) ≠ 2147483648 := q4606
            refine x_aload (np := 67) (x := 0) (by decide +kernel) rfl (x_nc_le (by decide)) ?_
            refine x_dup (np := 68) (x := 0) (by decide +kernel) (by have z := x_nc_le (k := 75) (by decide); unfold x_r; omega) ?_
            have q4608 : h4540 75 34 = h4528 75 34 := jK 0 f4542 rg_75_34_0_1 (by first | decide | omega) (by first | decide | omega) (by decide)
            have q4609 : h4528 75 34 = h3213 75 34 := by rw [← e4530]; exact x_up_i (by first | decide | omega)
            refine x_getC (np := 71) (x := 738) (f := 34) (q := (h3213 75 34)) (by decide +kernel) (by decide) (by decide +kernel) (q4608.trans q4609) (fun l4610 => ?_)
            refine x_const (np := 72) (x := 9223372043297226753) (a := 2147483649) (by decide +kernel) (by decide) (by decide) ?_
            refine x_addA (by rw [tb_b259]; decide +kernel) l4605 (by decide) (fun v4611 l4612 => ?_)
            refine x_putI (np := 76) (x := 738) (f := 34) (by decide +kernel) (by decide +kernel) l4612 (Or.inl (by decide)) ?_
            have j4614 := jU (e := 34) (v := v4611) 0 j4541 rg_75_34_0_1 (by first | decide | omega) (by first | decide | omega) (by first | decide | omega)
            have f4616 := jF (e := 34) (v := v4611) 0 f4544 rg_75_34_0_1 (by first | decide | omega) (by first | decide | omega) (by decide)
            have f4617 := jF (e := 34) (v := v4611) 0 f4545 rg_75_34_0_1 (by first | decide | omega) (by first | decide | omega) (by decide)
            generalize e4615 : x_up h4540 75 34 v4611 = h4613 at j4614 f4616 f4617 ⊢
            refine x_aload (np := 77) (x := 0) (by decide +kernel) rfl (x_nc_le (by decide)) ?_
            have q4618 : h4613 75 33 = h4540 75 33 := by rw [← e4615]; exact x_up_i (by first | decide | omega)
            have q4619 : h4540 75 33 = h4528 75 33 := jK 0 f4542 rg_75_33_0_1 (by first | decide | omega) (by first | decide | omega) (by decide)
            have q4620 : h4528 75 33 = h3213 75 33 := by rw [← e4530]; exact x_up_i (by first | decide | omega)
            have q4621 : h3213 75 33 = h2 75 33 := jK 0 f3215 rg_75_33_0_1 (by first | decide | omega) (by first | decide | omega) (by decide)
            have q4622 : h2 75 33 = h 75 33 := by rw [← e4]; exact x_up_i (by first | decide | omega)
            have b4623 := jB (e := 33) 0 hJ rg_75_33_0_1 (by first | decide | omega) (by first | decide | omega)
            refine x_getC (np := 80) (x := 737) (f := 33) (q := (h 75 33)) (by decide +kernel) (by decide) (by decide +kernel) ((((q4618.trans q4619).trans q4620).trans q4621).trans q4622) (fun l4624 => ?_)
            refine x_ifz (k := 0) (tg := 85) (np := 83) (by decide +kernel) (by decide) l4624 (fun q4625 => ?_) (fun q4626 => ?_)
            · have q4625 : (h 75 33) = 2147483648 := q4625
              refine x_iload (np := 86) (x := 3) (by decide +kernel) rfl l4538 ?_
              refine x_const (np := 87) (x := 9223372043297226753) (a := 2147483649) (by decide +kernel) (by decide) (by decide) ?_
              refine x_icmp (k := 0) (tg := 95) (np := 90) (by decide +kernel) (by decide) l4538 (by decide) (fun q4627 => ?_) (fun q4628 => ?_)
              · have q4627 : v4537 = 2147483649 := q4627
                refine x_aload (np := 96) (x := 0) (by decide +kernel) rfl (x_nc_le (by decide)) ?_
                have q4629 : h4613 75 28 = 94 := by have z := jB (e := 28) 0 j4614 rg_75_28_0_1 (by decide) (by decide); omega
                refine x_getR (np := 99) (x := 732) (f := 28) (q := 94) (by decide +kernel) (by decide) (by decide +kernel) q4629 ?_
                refine x_iload (np := 100) (x := 2) (by decide +kernel) rfl (by decide) ?_
                refine x_const (np := 101) (x := 9223372034707292159) (a := 2147483647) (by decide +kernel) (by decide) (by decide) ?_
                refine x_ast (np := 102) (x := 0) (kd := 1) (n := 6) (i := 4) (by decide +kernel) (Or.inl rfl) (by decide +kernel) (by first | decide | omega) (by first | decide | omega) (by decide) (by decide) (fun z => absurd z (by decide)) ?_
                have j4631 := jU (e := 4) (v := 2147483647) 4 j4614 rg_94_0_1_6 (by first | decide | omega) (by first | decide | omega) (by first | decide | omega)
                have f4633 := jF (e := 4) (v := 2147483647) 4 f4616 rg_94_0_1_6 (by first | decide | omega) (by first | decide | omega) (by decide)
                have f4634 := jF (e := 4) (v := 2147483647) 4 f4617 rg_94_0_1_6 (by first | decide | omega) (by first | decide | omega) (by decide)
                generalize e4632 : x_up h4613 94 4 2147483647 = h4630 at j4631 f4633 f4634 ⊢
                refine x_aload (np := 103) (x := 0) (by decide +kernel) rfl (x_nc_le (by decide)) ?_
                have q4635 : h4630 75 27 = 93 := by have z := jB (e := 27) 0 j4631 rg_75_27_0_1 (by decide) (by decide); omega
                refine x_getR (np := 106) (x := 731) (f := 27) (q := 93) (by decide +kernel) (by decide) (by decide +kernel) q4635 ?_
                refine x_iload (np := 107) (x := 2) (by decide +kernel) rfl (by decide) ?_
                have q4636 : h4630 93 4 = h4613 93 4 := by rw [← e4632]; exact x_up_k (by decide)
                have q4637 : h4613 93 4 = h4540 93 4 := by rw [← e4615]; exact x_up_k (by decide)
                have b4638 := jB (e := 4) 4 j4541 rg_93_0_1_6 (by first | decide | omega) (by first | decide | omega)
                refine x_aldC (np := 108) (x := 0) (n := 6) (i := 4) (q := (h4540 93 4)) (by decide +kernel) (by decide +kernel) (by first | decide | omega) (by first | decide | omega) (by decide) (q4636.trans q4637) (fun l4639 => ?_)
                refine x_ifz (k := 2) (tg := 122) (np := 111) (by decide +kernel) (by decide) l4639 (fun q4640 => ?_) (fun q4641 => ?_)
                · have q4640 : (h4540 93 4) < 2147483648 := q4640
                  refine x_aload (np := 123) (x := 0) (by decide +kernel) rfl (x_nc_le (by decide)) ?_
                  have q4642 : h4630 75 28 = 94 := by have z := jB (e := 28) 0 j4631 rg_75_28_0_1 (by decide) (by decide); omega
                  refine x_getR (np := 126) (x := 732) (f := 28) (q := 94) (by decide +kernel) (by decide) (by decide +kernel) q4642 ?_
                  refine x_iload (np := 127) (x := 2) (by decide +kernel) rfl (by decide) ?_
                  have q4643 : h4630 94 4 = 2147483647 := by rw [← e4632]; exact x_up_at
                  refine x_aldC (np := 128) (x := 0) (n := 6) (i := 4) (q := 2147483647) (by decide +kernel) (by decide +kernel) (by first | decide | omega) (by first | decide | omega) (by decide) q4643 (fun l4644 => ?_)
                  refine x_ifz (k := 3) (tg := 135) (np := 131) (by decide +kernel) (by decide) (by decide) (fun q4645 => ?_) (fun q4646 => ?_)
                  · have q4645 : 2147483648 ≤ 2147483647 := q4645
                    exfalso; omega
                  have q4646 : ¬ (2147483648 ≤ 2147483647) := q4646
                  refine x_const (np := 132) (x := 9223372034707292159) (a := 2147483647) (by decide +kernel) (by decide) (by decide) ?_
                  refine x_goto (np := 135) (x := 140) (by decide +kernel) ?_
                  refine x_istore (np := 142) (x := 5) (lo' := [x_r 75, iv_c 2147483652, iv_c 2147483652, iv_c v4537, iv_c 2147483649, iv_c 2147483647]) (by decide +kernel) (by decide) (Nat.le_of_ble_eq_true rfl) rfl ?_
                  refine x_iload (np := 144) (x := 5) (by decide +kernel) rfl (by decide) ?_
                  refine x_ifz (k := 2) (tg := 151) (np := 147) (by decide +kernel) (by decide) (by decide) (fun q4647 => ?_) (fun q4648 => ?_)
                  · have q4647 : 2147483647 < 2147483648 := q4647
                    refine x_const (np := 152) (x := 9223372039002259456) (a := 2147483648) (by decide +kernel) (by decide) (by decide) ?_
                    refine x_istore (np := 154) (x := 4) (lo' := [x_r 75, iv_c 2147483652, iv_c 2147483652, iv_c v4537, iv_c 2147483648, iv_c 2147483647]) (by decide +kernel) (by decide) (Nat.le_of_ble_eq_true rfl) rfl ?_
                    refine x_iload (np := 156) (x := 4) (by decide +kernel) rfl (by decide) ?_
                    refine x_ifz (k := 0) (tg := 180) (np := 159) (by decide +kernel) (by decide) (by decide) (fun q4649 => ?_) (fun q4650 => ?_)
                    · have q4649 : 2147483648 = 2147483648 := q4649
                      refine x_iinc (np := 183) (i := 2) (j := 2147483647) (v := 2147483651) (lo' := [x_r 75, iv_c 2147483652, iv_c 2147483651, iv_c v4537, iv_c 2147483648, iv_c 2147483647]) (by decide +kernel) (by decide) (by decide) rfl (by decide) (by first | decide | omega) (by first | decide | omega) rfl ?_
                      refine x_goto (np := 186) (x := 12) (by decide +kernel) ?_
                      have q4651 : h4630 75 30 = h4613 75 30 := by rw [← e4632]; exact x_up_k (by decide)
                      have q4652 : h4613 75 30 = h4540 75 30 := by rw [← e4615]; exact x_up_i (by first | decide | omega)
                      have q4653 : h4540 75 30 = h4528 75 30 := jK 0 f4542 rg_75_30_0_1 (by first | decide | omega) (by first | decide | omega) (by decide)
                      have q4654 : h4528 75 30 = (1 + (h3213 75 30)) := by rw [← e4530]; exact x_up_at
                      exact i3256 (iv_c v4537) (iv_c 2147483647) h4630 (by first | decide | omega) j4631 f4634 (by first | decide | omega)
                    have q4650 : ¬ (2147483648 = 2147483648) := q4650
                    exfalso; omega
                  have q4648 : ¬ (2147483647 < 2147483648) := q4648
                  exfalso; omega
                have q4641 : ¬ ((h4540 93 4) < 2147483648) := q4641
                refine x_aload (np := 112) (x := 0) (by decide +kernel) rfl (x_nc_le (by decide)) ?_
                refine x_aload (np := 113) (x := 0) (by decide +kernel) rfl (x_nc_le (by decide)) ?_
                have q4655 : h4630 75 27 = 93 := by have z := jB (e := 27) 0 j4631 rg_75_27_0_1 (by decide) (by decide); omega
                refine x_getR (np := 116) (x := 731) (f := 27) (q := 93) (by decide +kernel) (by decide) (by decide +kernel) q4655 ?_
                refine x_iload (np := 117) (x := 2) (by decide +kernel) rfl (by decide) ?_
                have q4656 : h4630 93 4 = h4613 93 4 := by rw [← e4632]; exact x_up_k (by decide)
                have q4657 : h4613 93 4 = h4540 93 4 := by rw [← e4615]; exact x_up_k (by decide)
                refine x_aldC (np := 118) (x := 0) (n := 6) (i := 4) (q := (h4540 93 4)) (by decide +kernel) (by decide +kernel) (by first | decide | omega) (by first | decide | omega) (by decide) (q4656.trans q4657) (fun l4658 => ?_)
                refine x_const (np := 119) (x := 9223372039002259456) (a := 2147483648) (by decide +kernel) (by decide) (by decide) ?_
                refine x_cV (t := 6) (mj := 248) (n := 3) (rc := 12) (ml := 4) (nr := 0) (np := 122) (as := [x_r 75, iv_c (h4540 93 4), iv_c 2147483648]) (rest := []) (lo1 := [x_r 75, iv_c (h4540 93 4), iv_c 2147483648, 147573952589676412928]) (by decide +kernel) (by decide) (by decide +kernel) (x_rb_of (by decide +kernel)) rfl rfl (x_wr (by decide) (x_wi l4639 (x_wi (by decide) x_wn))) x_wn (by decide) rfl (c248_75 j4631  (by first | decide | omega) (by first | decide | omega)) (fun h4662 q4661 => ?_)
                obtain ⟨j4663, f4664⟩ := q4661
                have f4667 := Fr.trans f4633 f4664 (by decide)
                have f4668 := Fr.trans f4634 f4664 (by decide)
                refine x_aload (np := 123) (x := 0) (by decide +kernel) rfl (x_nc_le (by decide)) ?_
                have q4669 : h4662 75 28 = 94 := by have z := jB (e := 28) 0 j4663 rg_75_28_0_1 (by decide) (by decide); omega
                refine x_getR (np := 126) (x := 732) (f := 28) (q := 94) (by decide +kernel) (by decide) (by decide +kernel) q4669 ?_
                refine x_iload (np := 127) (x := 2) (by decide +kernel) rfl (by decide) ?_
                have q4670 : h4662 94 4 = h4630 94 4 := jK 4 f4664 rg_94_0_1_6 (by first | decide | omega) (by first | decide | omega) (by decide)
                have q4671 : h4630 94 4 = 2147483647 := by rw [← e4632]; exact x_up_at
                refine x_aldC (np := 128) (x := 0) (n := 6) (i := 4) (q := 2147483647) (by decide +kernel) (by decide +kernel) (by first | decide | omega) (by first | decide | omega) (by decide) (q4670.trans q4671) (fun l4672 => ?_)
                refine x_ifz (k := 3) (tg := 135) (np := 131) (by decide +kernel) (by decide) (by decide) (fun q4673 => ?_) (fun q4674 => ?_)
                · have q4673 : 2147483648 ≤ 2147483647 := q4673
                  exfalso; omega
                have q4674 : ¬ (2147483648 ≤ 2147483647) := q4674
                refine x_const (np := 132) (x := 9223372034707292159) (a := 2147483647) (by decide +kernel) (by decide) (by decide) ?_
                refine x_goto (np := 135) (x := 140) (by decide +kernel) ?_
                refine x_istore (np := 142) (x := 5) (lo' := [x_r 75, iv_c 2147483652, iv_c 2147483652, iv_c v4537, iv_c 2147483649, iv_c 2147483647]) (by decide +kernel) (by decide) (Nat.le_of_ble_eq_true rfl) rfl ?_
                refine x_iload (np := 144) (x := 5) (by decide +kernel) rfl (by decide) ?_
                refine x_ifz (k := 2) (tg := 151) (np := 147) (by decide +kernel) (by decide) (by decide) (fun q4675 => ?_) (fun q4676 => ?_)
                · have q4675 : 2147483647 < 2147483648 := q4675
                  refine x_const (np := 152) (x := 9223372039002259456) (a := 2147483648) (by decide +kernel) (by decide) (by decide) ?_
                  refine x_istore (np := 154) (x := 4) (lo' := [x_r 75, iv_c 2147483652, iv_c 2147483652, iv_c v4537, iv_c 2147483648, iv_c 2147483647]) (by decide +kernel) (by decide) (Nat.le_of_ble_eq_true rfl) rfl ?_
                  refine x_iload (np := 156) (x := 4) (by decide +kernel) rfl (by decide) ?_
                  refine x_ifz (k := 0) (tg := 180) (np := 159) (by decide +kernel) (by decide) (by decide) (fun q4677 => ?_) (fun q4678 => ?_)
                  · have q4677 : 2147483648 = 2147483648 := q4677
                    refine x_iinc (np := 183) (i := 2) (j := 2147483647) (v := 2147483651) (lo' := [x_r 75, iv_c 2147483652, iv_c 2147483651, iv_c v4537, iv_c 2147483648, iv_c 2147483647]) (by decide +kernel) (by decide) (by decide) rfl (by decide) (by first | decide | omega) (by first | decide | omega) rfl ?_
                    refine x_goto (np := 186) (x := 12) (by decide +kernel) ?_
                    have q4679 : h4662 75 30 = h4630 75 30 := jK 0 f4664 rg_75_30_0_1 (by first | decide | omega) (by first | decide | omega) (by decide)
                    have q4680 : h4630 75 30 = h4613 75 30 := by rw [← e4632]; exact x_up_k (by decide)
                    have q4681 : h4613 75 30 = h4540 75 30 := by rw [← e4615]; exact x_up_i (by first | decide | omega)
                    have q4682 : h4540 75 30 = h4528 75 30 := jK 0 f4542 rg_75_30_0_1 (by first | decide | omega) (by first | decide | omega) (by decide)
                    have q4683 : h4528 75 30 = (1 + (h3213 75 30)) := by rw [← e4530]; exact x_up_at
                    exact i3256 (iv_c v4537) (iv_c 2147483647) h4662 (by first | decide | omega) j4663 f4668 (by first | decide | omega)
                  have q4678 : ¬ (2147483648 = 2147483648) := q4678
                  exfalso; omega
                have q4676 : ¬ (2147483647 < 2147483648) := q4676
                exfalso; omega
              have q4628 : ¬ (v4537 = 2147483649) := q4628
              exfalso; omega
            have q4626 : ¬ ((h 75 33) = 2147483648) := q4626
            refine x_const (np := 84) (x := 9223372043297226753) (a := 2147483649) (by decide +kernel) (by decide) (by decide) ?_
            have q4684 : h4613 75 30 = h4540 75 30 := by rw [← e4615]; exact x_up_i (by first | decide | omega)
            have q4685 : h4540 75 30 = h4528 75 30 := jK 0 f4542 rg_75_30_0_1 (by first | decide | omega) (by first | decide | omega) (by decide)
            have q4686 : h4528 75 30 = (1 + (h3213 75 30)) := by rw [← e4530]; exact x_up_at
            refine x_retI (np := 85) (x := 0) (by decide +kernel) (by decide) (Or.inr ⟨by decide +kernel, by first | decide | omega, by first | decide | omega⟩) ⟨_, rfl, (by decide), ?_⟩
            exact ⟨j4614, f4616, (by first | decide | omega), (fun z => by first | decide | omega)⟩
          have q4607 : ¬ ((h3213 75 34) ≠ 2147483648) := q4607
          refine x_aload (np := 62) (x := 0) (by decide +kernel) rfl (x_nc_le (by decide)) ?_
          refine x_iload (np := 63) (x := 2) (by decide +kernel) rfl (by decide) ?_
          refine x_cV (t := 6) (mj := 258) (n := 2) (rc := 12) (ml := 4) (nr := 0) (np := 66) (as := [x_r 75, iv_c 2147483652]) (rest := []) (lo1 := [x_r 75, iv_c 2147483652, 147573952589676412928, 147573952589676412928]) (by decide +kernel) (by decide) (by decide +kernel) (x_rb_of (by decide +kernel)) rfl rfl (x_wr (by decide) (x_wi (by decide) x_wn)) x_wn (by decide) rfl (c258_75 j4541  (by first | decide | omega)) (fun h4690 q4689 => ?_)
          obtain ⟨j4691, f4692⟩ := q4689
          have f4695 := Fr.trans f4544 f4692 (by decide)
          have f4696 := Fr.trans f4545 f4692 (by decide)
          refine x_aload (np := 67) (x := 0) (by decide +kernel) rfl (x_nc_le (by decide)) ?_
          refine x_dup (np := 68) (x := 0) (by decide +kernel) (by have z := x_nc_le (k := 75) (by decide); unfold x_r; omega) ?_
          have q4697 : h4690 75 34 = h4540 75 34 := jK 0 f4692 rg_75_34_0_1 (by first | decide | omega) (by first | decide | omega) (by decide)
          have q4698 : h4540 75 34 = h4528 75 34 := jK 0 f4542 rg_75_34_0_1 (by first | decide | omega) (by first | decide | omega) (by decide)
          have q4699 : h4528 75 34 = h3213 75 34 := by rw [← e4530]; exact x_up_i (by first | decide | omega)
          refine x_getC (np := 71) (x := 738) (f := 34) (q := (h3213 75 34)) (by decide +kernel) (by decide) (by decide +kernel) ((q4697.trans q4698).trans q4699) (fun l4700 => ?_)
          refine x_const (np := 72) (x := 9223372043297226753) (a := 2147483649) (by decide +kernel) (by decide) (by decide) ?_
          refine x_iadd (np := 73) (x := 0) (v := (1 + (h3213 75 34))) (by decide +kernel) l4605 (by decide) (by first | decide | omega) (by first | decide | omega) ?_
          refine x_putI (np := 76) (x := 738) (f := 34) (by decide +kernel) (by decide +kernel) (by first | decide | omega) (Or.inl (by decide)) ?_
          have j4702 := jU (e := 34) (v := (1 + (h3213 75 34))) 0 j4691 rg_75_34_0_1 (by first | decide | omega) (by first | decide | omega) (by first | decide | omega)
          have f4704 := jF (e := 34) (v := (1 + (h3213 75 34))) 0 f4695 rg_75_34_0_1 (by first | decide | omega) (by first | decide | omega) (by decide)
          have f4705 := jF (e := 34) (v := (1 + (h3213 75 34))) 0 f4696 rg_75_34_0_1 (by first | decide | omega) (by first | decide | omega) (by decide)
          generalize e4703 : x_up h4690 75 34 (1 + (h3213 75 34)) = h4701 at j4702 f4704 f4705 ⊢
          refine x_aload (np := 77) (x := 0) (by decide +kernel) rfl (x_nc_le (by decide)) ?_
          have q4706 : h4701 75 33 = h4690 75 33 := by rw [← e4703]; exact x_up_i (by first | decide | omega)
          have q4707 : h4690 75 33 = h4540 75 33 := jK 0 f4692 rg_75_33_0_1 (by first | decide | omega) (by first | decide | omega) (by decide)
          have q4708 : h4540 75 33 = h4528 75 33 := jK 0 f4542 rg_75_33_0_1 (by first | decide | omega) (by first | decide | omega) (by decide)
          have q4709 : h4528 75 33 = h3213 75 33 := by rw [← e4530]; exact x_up_i (by first | decide | omega)
          have q4710 : h3213 75 33 = h2 75 33 := jK 0 f3215 rg_75_33_0_1 (by first | decide | omega) (by first | decide | omega) (by decide)
          have q4711 : h2 75 33 = h 75 33 := by rw [← e4]; exact x_up_i (by first | decide | omega)
          have b4712 := jB (e := 33) 0 hJ rg_75_33_0_1 (by first | decide | omega) (by first | decide | omega)
          refine x_getC (np := 80) (x := 737) (f := 33) (q := (h 75 33)) (by decide +kernel) (by decide) (by decide +kernel) (((((q4706.trans q4707).trans q4708).trans q4709).trans q4710).trans q4711) (fun l4713 => ?_)
          refine x_ifz (k := 0) (tg := 85) (np := 83) (by decide +kernel) (by decide) l4713 (fun q4714 => ?_) (fun q4715 => ?_)
          · have q4714 : (h 75 33) = 2147483648 := q4714
            refine x_iload (np := 86) (x := 3) (by decide +kernel) rfl l4538 ?_
            refine x_const (np := 87) (x := 9223372043297226753) (a := 2147483649) (by decide +kernel) (by decide) (by decide) ?_
            refine x_icmp (k := 0) (tg := 95) (np := 90) (by decide +kernel) (by decide) l4538 (by decide) (fun q4716 => ?_) (fun q4717 => ?_)
            · have q4716 : v4537 = 2147483649 := q4716
              refine x_aload (np := 96) (x := 0) (by decide +kernel) rfl (x_nc_le (by decide)) ?_
              have q4718 : h4701 75 28 = 94 := by have z := jB (e := 28) 0 j4702 rg_75_28_0_1 (by decide) (by decide); omega
              refine x_getR (np := 99) (x := 732) (f := 28) (q := 94) (by decide +kernel) (by decide) (by decide +kernel) q4718 ?_
              refine x_iload (np := 100) (x := 2) (by decide +kernel) rfl (by decide) ?_
              refine x_const (np := 101) (x := 9223372034707292159) (a := 2147483647) (by decide +kernel) (by decide) (by decide) ?_
              refine x_ast (np := 102) (x := 0) (kd := 1) (n := 6) (i := 4) (by decide +kernel) (Or.inl rfl) (by decide +kernel) (by first | decide | omega) (by first | decide | omega) (by decide) (by decide) (fun z => absurd z (by decide)) ?_
              have j4720 := jU (e := 4) (v := 2147483647) 4 j4702 rg_94_0_1_6 (by first | decide | omega) (by first | decide | omega) (by first | decide | omega)
              have f4722 := jF (e := 4) (v := 2147483647) 4 f4704 rg_94_0_1_6 (by first | decide | omega) (by first | decide | omega) (by decide)
              have f4723 := jF (e := 4) (v := 2147483647) 4 f4705 rg_94_0_1_6 (by first | decide | omega) (by first | decide | omega) (by decide)
              generalize e4721 : x_up h4701 94 4 2147483647 = h4719 at j4720 f4722 f4723 ⊢
              refine x_aload (np := 103) (x := 0) (by decide +kernel) rfl (x_nc_le (by decide)) ?_
              have q4724 : h4719 75 27 = 93 := by have z := jB (e := 27) 0 j4720 rg_75_27_0_1 (by decide) (by decide); omega
              refine x_getR (np := 106) (x := 731) (f := 27) (q := 93) (by decide +kernel) (by decide) (by decide +kernel) q4724 ?_
              refine x_iload (np := 107) (x := 2) (by decide +kernel) rfl (by decide) ?_
              have q4725 : h4719 93 4 = h4701 93 4 := by rw [← e4721]; exact x_up_k (by decide)
              have q4726 : h4701 93 4 = h4690 93 4 := by rw [← e4703]; exact x_up_k (by decide)
              have q4727 : h4690 93 4 = h4540 93 4 := jK 4 f4692 rg_93_0_1_6 (by first | decide | omega) (by first | decide | omega) (by decide)
              have b4728 := jB (e := 4) 4 j4541 rg_93_0_1_6 (by first | decide | omega) (by first | decide | omega)
              refine x_aldC (np := 108) (x := 0) (n := 6) (i := 4) (q := (h4540 93 4)) (by decide +kernel) (by decide +kernel) (by first | decide | omega) (by first | decide | omega) (by decide) ((q4725.trans q4726).trans q4727) (fun l4729 => ?_)
              refine x_ifz (k := 2) (tg := 122) (np := 111) (by decide +kernel) (by decide) l4729 (fun q4730 => ?_) (fun q4731 => ?_)
              · have q4730 : (h4540 93 4) < 2147483648 := q4730
                refine x_aload (np := 123) (x := 0) (by decide +kernel) rfl (x_nc_le (by decide)) ?_
                have q4732 : h4719 75 28 = 94 := by have z := jB (e := 28) 0 j4720 rg_75_28_0_1 (by decide) (by decide); omega
                refine x_getR (np := 126) (x := 732) (f := 28) (q := 94) (by decide +kernel) (by decide) (by decide +kernel) q4732 ?_
                refine x_iload (np := 127) (x := 2) (by decide +kernel) rfl (by decide) ?_
                have q4733 : h4719 94 4 = 2147483647 := by rw [← e4721]; exact x_up_at
                refine x_aldC (np := 128) (x := 0) (n := 6) (i := 4) (q := 2147483647) (by decide +kernel) (by decide +kernel) (by first | decide | omega) (by first | decide | omega) (by decide) q4733 (fun l4734 => ?_)
                refine x_ifz (k := 3) (tg := 135) (np := 131) (by decide +kernel) (by decide) (by decide) (fun q4735 => ?_) (fun q4736 => ?_)
                · have q4735 : 2147483648 ≤ 2147483647 := q4735
                  exfalso; omega
                have q4736 : ¬ (2147483648 ≤ 2147483647) := q4736
                refine x_const (np := 132) (x := 9223372034707292159) (a := 2147483647) (by decide +kernel) (by decide) (by decide) ?_
                refine x_goto (np := 135) (x := 140) (by decide +kernel) ?_
                refine x_istore (np := 142) (x := 5) (lo' := [x_r 75, iv_c 2147483652, iv_c 2147483652, iv_c v4537, iv_c 2147483649, iv_c 2147483647]) (by decide +kernel) (by decide) (Nat.le_of_ble_eq_true rfl) rfl ?_
                refine x_iload (np := 144) (x := 5) (by decide +kernel) rfl (by decide) ?_
                refine x_ifz (k := 2) (tg := 151) (np := 147) (by decide +kernel) (by decide) (by decide) (fun q4737 => ?_) (fun q4738 => ?_)
                · have q4737 : 2147483647 < 2147483648 := q4737
                  refine x_const (np := 152) (x := 9223372039002259456) (a := 2147483648) (by decide +kernel) (by decide) (by decide) ?_
                  refine x_istore (np := 154) (x := 4) (lo' := [x_r 75, iv_c 2147483652, iv_c 2147483652, iv_c v4537, iv_c 2147483648, iv_c 2147483647]) (by decide +kernel) (by decide) (Nat.le_of_ble_eq_true rfl) rfl ?_
                  refine x_iload (np := 156) (x := 4) (by decide +kernel) rfl (by decide) ?_
                  refine x_ifz (k := 0) (tg := 180) (np := 159) (by decide +kernel) (by decide) (by decide) (fun q4739 => ?_) (fun q4740 => ?_)
                  · have q4739 : 2147483648 = 2147483648 := q4739
                    refine x_iinc (np := 183) (i := 2) (j := 2147483647) (v := 2147483651) (lo' := [x_r 75, iv_c 2147483652, iv_c 2147483651, iv_c v4537, iv_c 2147483648, iv_c 2147483647]) (by decide +kernel) (by decide) (by decide) rfl (by decide) (by first | decide | omega) (by first | decide | omega) rfl ?_
                    refine x_goto (np := 186) (x := 12) (by decide +kernel) ?_
                    have q4741 : h4719 75 30 = h4701 75 30 := by rw [← e4721]; exact x_up_k (by decide)
                    have q4742 : h4701 75 30 = h4690 75 30 := by rw [← e4703]; exact x_up_i (by first | decide | omega)
                    have q4743 : h4690 75 30 = h4540 75 30 := jK 0 f4692 rg_75_30_0_1 (by first | decide | omega) (by first | decide | omega) (by decide)
                    have q4744 : h4540 75 30 = h4528 75 30 := jK 0 f4542 rg_75_30_0_1 (by first | decide | omega) (by first | decide | omega) (by decide)
                    have q4745 : h4528 75 30 = (1 + (h3213 75 30)) := by rw [← e4530]; exact x_up_at
                    exact i3256 (iv_c v4537) (iv_c 2147483647) h4719 (by first | decide | omega) j4720 f4723 (by first | decide | omega)
                  have q4740 : ¬ (2147483648 = 2147483648) := q4740
                  exfalso; omega
                have q4738 : ¬ (2147483647 < 2147483648) := q4738
                exfalso; omega
              have q4731 : ¬ ((h4540 93 4) < 2147483648) := q4731
              refine x_aload (np := 112) (x := 0) (by decide +kernel) rfl (x_nc_le (by decide)) ?_
              refine x_aload (np := 113) (x := 0) (by decide +kernel) rfl (x_nc_le (by decide)) ?_
              have q4746 : h4719 75 27 = 93 := by have z := jB (e := 27) 0 j4720 rg_75_27_0_1 (by decide) (by decide); omega
              refine x_getR (np := 116) (x := 731) (f := 27) (q := 93) (by decide +kernel) (by decide) (by decide +kernel) q4746 ?_
              refine x_iload (np := 117) (x := 2) (by decide +kernel) rfl (by decide) ?_
              have q4747 : h4719 93 4 = h4701 93 4 := by rw [← e4721]; exact x_up_k (by decide)
              have q4748 : h4701 93 4 = h4690 93 4 := by rw [← e4703]; exact x_up_k (by decide)
              have q4749 : h4690 93 4 = h4540 93 4 := jK 4 f4692 rg_93_0_1_6 (by first | decide | omega) (by first | decide | omega) (by decide)
              refine x_aldC (np := 118) (x := 0) (n := 6) (i := 4) (q := (h4540 93 4)) (by decide +kernel) (by decide +kernel) (by first | decide | omega) (by first | decide | omega) (by decide) ((q4747.trans q4748).trans q4749) (fun l4750 => ?_)
              refine x_const (np := 119) (x := 9223372039002259456) (a := 2147483648) (by decide +kernel) (by decide) (by decide) ?_
              refine x_cV (t := 6) (mj := 248) (n := 3) (rc := 12) (ml := 4) (nr := 0) (np := 122) (as := [x_r 75, iv_c (h4540 93 4), iv_c 2147483648]) (rest := []) (lo1 := [x_r 75, iv_c (h4540 93 4), iv_c 2147483648, 147573952589676412928]) (by decide +kernel) (by decide) (by decide +kernel) (x_rb_of (by decide +kernel)) rfl rfl (x_wr (by decide) (x_wi l4729 (x_wi (by decide) x_wn))) x_wn (by decide) rfl (c248_75 j4720  (by first | decide | omega) (by first | decide | omega)) (fun h4754 q4753 => ?_)
              obtain ⟨j4755, f4756⟩ := q4753
              have f4759 := Fr.trans f4722 f4756 (by decide)
              have f4760 := Fr.trans f4723 f4756 (by decide)
              refine x_aload (np := 123) (x := 0) (by decide +kernel) rfl (x_nc_le (by decide)) ?_
              have q4761 : h4754 75 28 = 94 := by have z := jB (e := 28) 0 j4755 rg_75_28_0_1 (by decide) (by decide); omega
              refine x_getR (np := 126) (x := 732) (f := 28) (q := 94) (by decide +kernel) (by decide) (by decide +kernel) q4761 ?_
              refine x_iload (np := 127) (x := 2) (by decide +kernel) rfl (by decide) ?_
              have q4762 : h4754 94 4 = h4719 94 4 := jK 4 f4756 rg_94_0_1_6 (by first | decide | omega) (by first | decide | omega) (by decide)
              have q4763 : h4719 94 4 = 2147483647 := by rw [← e4721]; exact x_up_at
              refine x_aldC (np := 128) (x := 0) (n := 6) (i := 4) (q := 2147483647) (by decide +kernel) (by decide +kernel) (by first | decide | omega) (by first | decide | omega) (by decide) (q4762.trans q4763) (fun l4764 => ?_)
              refine x_ifz (k := 3) (tg := 135) (np := 131) (by decide +kernel) (by decide) (by decide) (fun q4765 => ?_) (fun q4766 => ?_)
              · have q4765 : 2147483648 ≤ 2147483647 := q4765
                exfalso; omega
              have q4766 : ¬ (2147483648 ≤ 2147483647) := q4766
              refine x_const (np := 132) (x := 9223372034707292159) (a := 2147483647) (by decide +kernel) (by decide) (by decide) ?_
              refine x_goto (np := 135) (x := 140) (by decide +kernel) ?_
              refine x_istore (np := 142) (x := 5) (lo' := [x_r 75, iv_c 2147483652, iv_c 2147483652, iv_c v4537, iv_c 2147483649, iv_c 2147483647]) (by decide +kernel) (by decide) (Nat.le_of_ble_eq_true rfl) rfl ?_
              refine x_iload (np := 144) (x := 5) (by decide +kernel) rfl (by decide) ?_
              refine x_ifz (k := 2) (tg := 151) (np := 147) (by decide +kernel) (by decide) (by decide) (fun q4767 => ?_) (fun q4768 => ?_)
              · have q4767 : 2147483647 < 2147483648 := q4767
                refine x_const (np := 152) (x := 9223372039002259456) (a := 2147483648) (by decide +kernel) (by decide) (by decide) ?_
                refine x_istore (np := 154) (x := 4) (lo' := [x_r 75, iv_c 2147483652, iv_c 2147483652, iv_c v4537, iv_c 2147483648, iv_c 2147483647]) (by decide +kernel) (by decide) (Nat.le_of_ble_eq_true rfl) rfl ?_
                refine x_iload (np := 156) (x := 4) (by decide +kernel) rfl (by decide) ?_
                refine x_ifz (k := 0) (tg := 180) (np := 159) (by decide +kernel) (by decide) (by decide) (fun q4769 => ?_) (fun q4770 => ?_)
                · have q4769 : 2147483648 = 2147483648 := q4769
                  refine x_iinc (np := 183) (i := 2) (j := 2147483647) (v := 2147483651) (lo' := [x_r 75, iv_c 2147483652, iv_c 2147483651, iv_c v4537, iv_c 2147483648, iv_c 2147483647]) (by decide +kernel) (by decide) (by decide) rfl (by decide) (by first | decide | omega) (by first | decide | omega) rfl ?_
                  refine x_goto (np := 186) (x := 12) (by decide +kernel) ?_
                  have q4771 : h4754 75 30 = h4719 75 30 := jK 0 f4756 rg_75_30_0_1 (by first | decide | omega) (by first | decide | omega) (by decide)
                  have q4772 : h4719 75 30 = h4701 75 30 := by rw [← e4721]; exact x_up_k (by decide)
                  have q4773 : h4701 75 30 = h4690 75 30 := by rw [← e4703]; exact x_up_i (by first | decide | omega)
                  have q4774 : h4690 75 30 = h4540 75 30 := jK 0 f4692 rg_75_30_0_1 (by first | decide | omega) (by first | decide | omega) (by decide)
                  have q4775 : h4540 75 30 = h4528 75 30 := jK 0 f4542 rg_75_30_0_1 (by first | decide | omega) (by first | decide | omega) (by decide)
                  have q4776 : h4528 75 30 = (1 + (h3213 75 30)) := by rw [← e4530]; exact x_up_at
                  exact i3256 (iv_c v4537) (iv_c 2147483647) h4754 (by first | decide | omega) j4755 f4760 (by first | decide | omega)
                have q4770 : ¬ (2147483648 = 2147483648) := q4770
                exfalso; omega
              have q4768 : ¬ (2147483647 < 2147483648) := q4768
              exfalso; omega
            have q4717 : ¬ (v4537 = 2147483649) := q4717
            exfalso; omega
          have q4715 : ¬ ((h 75 33) = 2147483648) := q4715
          refine x_const (np := 84) (x := 9223372043297226753) (a := 2147483649) (by decide +kernel) (by decide) (by decide) ?_
          have q4777 : h4701 75 30 = h4690 75 30 := by rw [← e4703]; exact x_up_i (by first | decide | omega)
          have q4778 : h4690 75 30 = h4540 75 30 := jK 0 f4692 rg_75_30_0_1 (by first | decide | omega) (by first | decide | omega) (by decide)
          have q4779 : h4540 75 30 = h4528 75 30 := jK 0 f4542 rg_75_30_0_1 (by first | decide | omega) (by first | decide | omega) (by decide)
          have q4780 : h4528 75 30 = (1 + (h3213 75 30)) := by rw [← e4530]; exact x_up_at
          refine x_retI (np := 85) (x := 0) (by decide +kernel) (by decide) (Or.inr ⟨by decide +kernel, by first | decide | omega, by first | decide | omega⟩) ⟨_, rfl, (by decide), ?_⟩
          exact ⟨j4702, f4704, (by first | decide | omega), (fun z => by first | decide | omega)⟩
        have q4536 : ¬ ((1 + (h3213 75 30)) ≤ 2147503648) := q4536
        refine x_const (np := 42) (x := 9223372039002259456) (a := 2147483648) (by decide +kernel) (by decide) (by decide) ?_
        have q4781 : h4528 75 30 = (1 + (h3213 75 30)) := by rw [← e4530]; exact x_up_at
        refine x_retI (np := 43) (x := 0) (by decide +kernel) (by decide) (Or.inr ⟨by decide +kernel, by first | decide | omega, by first | decide | omega⟩) ⟨_, rfl, (by decide), ?_⟩
        exact ⟨j4529, f4531, (by first | decide | omega), (fun z => by first | decide | omega)⟩
      · intro w3217 w3218 h3219 q4782 j3222 f3221 b3220
        have f4783 := Fr.trans f5 f3221 (by decide)
        refine x_iload (np := 13) (x := 2) (by decide +kernel) rfl (by decide) ?_
        refine x_ifz (k := 2) (tg := 186) (np := 16) (by decide +kernel) (by decide) (by decide) (fun q4784 => ?_) (fun q4785 => ?_)
        · have q4784 : 2147483647 < 2147483648 := q4784
          refine x_const (np := 187) (x := 9223372043297226753) (a := 2147483649) (by decide +kernel) (by decide) (by decide) ?_
          refine x_retI (np := 188) (x := 0) (by decide +kernel) (by decide) (Or.inr ⟨by decide +kernel, by first | decide | omega, by first | decide | omega⟩) ⟨_, rfl, (by decide), ?_⟩
          exact ⟨j3222, f4783, (by first | decide | omega), (fun z => by first | decide | omega)⟩
        have q4785 : ¬ (2147483647 < 2147483648) := q4785
        exfalso; omega
      · intro w3223 w3224 h3225 q4786 j3228 f3227 b3226
        have f4787 := Fr.trans f5 f3227 (by decide)
        refine x_iload (np := 13) (x := 2) (by decide +kernel) rfl (by decide) ?_
        refine x_ifz (k := 2) (tg := 186) (np := 16) (by decide +kernel) (by decide) (by decide) (fun q4788 => ?_) (fun q4789 => ?_)
        · have q4788 : 2147483648 < 2147483648 := q4788
          exfalso; omega
        have q4789 : ¬ (2147483648 < 2147483648) := q4789
        refine x_iload (np := 18) (x := 4) (by decide +kernel) rfl (by decide) ?_
        refine x_ifz (k := 0) (tg := 102) (np := 21) (by decide +kernel) (by decide) (by decide) (fun q4790 => ?_) (fun q4791 => ?_)
        · have q4790 : 2147483648 = 2147483648 := q4790
          refine x_aload (np := 103) (x := 0) (by decide +kernel) rfl (x_nc_le (by decide)) ?_
          have q4792 : h3225 75 27 = 93 := by have z := jB (e := 27) 0 j3228 rg_75_27_0_1 (by decide) (by decide); omega
          refine x_getR (np := 106) (x := 731) (f := 27) (q := 93) (by decide +kernel) (by decide) (by decide +kernel) q4792 ?_
          refine x_iload (np := 107) (x := 2) (by decide +kernel) rfl (by decide) ?_
          have b4793 := jB (e := 0) 0 j3228 rg_93_0_1_6 (by first | decide | omega) (by first | decide | omega)
          refine x_aldC (np := 108) (x := 0) (n := 6) (i := 0) (q := (h3225 93 0)) (by decide +kernel) (by decide +kernel) (by first | decide | omega) (by first | decide | omega) (by decide) rfl (fun l4794 => ?_)
          refine x_ifz (k := 2) (tg := 122) (np := 111) (by decide +kernel) (by decide) l4794 (fun q4795 => ?_) (fun q4796 => ?_)
          · have q4795 : (h3225 93 0) < 2147483648 := q4795
            refine x_aload (np := 123) (x := 0) (by decide +kernel) rfl (x_nc_le (by decide)) ?_
            have q4797 : h3225 75 28 = 94 := by have z := jB (e := 28) 0 j3228 rg_75_28_0_1 (by decide) (by decide); omega
            refine x_getR (np := 126) (x := 732) (f := 28) (q := 94) (by decide +kernel) (by decide) (by decide +kernel) q4797 ?_
            refine x_iload (np := 127) (x := 2) (by decide +kernel) rfl (by decide) ?_
            have b4798 := jB (e := 0) 0 j3228 rg_94_0_1_6 (by first | decide | omega) (by first | decide | omega)
            refine x_aldC (np := 128) (x := 0) (n := 6) (i := 0) (q := (h3225 94 0)) (by decide +kernel) (by decide +kernel) (by first | decide | omega) (by first | decide | omega) (by decide) rfl (fun l4799 => ?_)
            refine x_ifz (k := 3) (tg := 135) (np := 131) (by decide +kernel) (by decide) l4799 (fun q4800 => ?_) (fun q4801 => ?_)
            · have q4800 : 2147483648 ≤ (h3225 94 0) := q4800
              refine x_aload (np := 136) (x := 0) (by decide +kernel) rfl (x_nc_le (by decide)) ?_
              refine x_iload (np := 137) (x := 2) (by decide +kernel) rfl (by decide) ?_
              refine x_cP (t := 6) (mj := 257) (n := 2) (rc := 12) (ml := 3) (nr := 0) (np := 140) (as := [x_r 75, iv_c 2147483648]) (rest := []) (lo1 := [x_r 75, iv_c 2147483648, 147573952589676412928]) (by decide +kernel) (by decide) (by decide +kernel) (x_rb_of (by decide +kernel)) rfl rfl (x_wr (by decide) (x_wi (by decide) x_wn)) x_wn (by decide) rfl (c257_75_c0 j3228   (by first | decide | omega)) (fun v4802 l4803 q4804 => ?_)
              refine x_istore (np := 142) (x := 5) (lo' := [x_r 75, iv_c 2147483652, iv_c 2147483648, w3223, iv_c 2147483648, iv_c v4802]) (by decide +kernel) l4803 (Nat.le_of_ble_eq_true rfl) rfl ?_
              refine x_iload (np := 144) (x := 5) (by decide +kernel) rfl l4803 ?_
              refine x_ifz (k := 2) (tg := 151) (np := 147) (by decide +kernel) (by decide) l4803 (fun q4805 => ?_) (fun q4806 => ?_)
              · have q4805 : v4802 < 2147483648 := q4805
                refine x_const (np := 152) (x := 9223372039002259456) (a := 2147483648) (by decide +kernel) (by decide) (by decide) ?_
                refine x_istore (np := 154) (x := 4) (lo' := [x_r 75, iv_c 2147483652, iv_c 2147483648, w3223, iv_c 2147483648, iv_c v4802]) (by decide +kernel) (by decide) (Nat.le_of_ble_eq_true rfl) rfl ?_
                refine x_iload (np := 156) (x := 4) (by decide +kernel) rfl (by decide) ?_
                refine x_ifz (k := 0) (tg := 180) (np := 159) (by decide +kernel) (by decide) (by decide) (fun q4807 => ?_) (fun q4808 => ?_)
                · have q4807 : 2147483648 = 2147483648 := q4807
                  refine x_iinc (np := 183) (i := 2) (j := 2147483647) (v := 2147483647) (lo' := [x_r 75, iv_c 2147483652, iv_c 2147483647, w3223, iv_c 2147483648, iv_c v4802]) (by decide +kernel) (by decide) (by decide) rfl (by decide) (by first | decide | omega) (by first | decide | omega) rfl ?_
                  refine x_goto (np := 186) (x := 12) (by decide +kernel) ?_
                  exact i3252 w3223 (iv_c v4802) h3225 (by first | decide | omega) j3228 f3227 (by first | decide | omega)
                have q4808 : ¬ (2147483648 = 2147483648) := q4808
                exfalso; omega
              have q4806 : ¬ (v4802 < 2147483648) := q4806
              refine x_const (np := 148) (x := 9223372043297226753) (a := 2147483649) (by decide +kernel) (by decide) (by decide) ?_
              refine x_goto (np := 151) (x := 152) (by decide +kernel) ?_
              refine x_istore (np := 154) (x := 4) (lo' := [x_r 75, iv_c 2147483652, iv_c 2147483648, w3223, iv_c 2147483649, iv_c v4802]) (by decide +kernel) (by decide) (Nat.le_of_ble_eq_true rfl) rfl ?_
              refine x_iload (np := 156) (x := 4) (by decide +kernel) rfl (by decide) ?_
              refine x_ifz (k := 0) (tg := 180) (np := 159) (by decide +kernel) (by decide) (by decide) (fun q4809 => ?_) (fun q4810 => ?_)
              · have q4809 : 2147483649 = 2147483648 := q4809
                exfalso; omega
              have q4810 : ¬ (2147483649 = 2147483648) := q4810
              refine x_aload (np := 160) (x := 0) (by decide +kernel) rfl (x_nc_le (by decide)) ?_
              have q4811 : h3225 75 27 = 93 := by have z := jB (e := 27) 0 j3228 rg_75_27_0_1 (by decide) (by decide); omega
              refine x_getR (np := 163) (x := 731) (f := 27) (q := 93) (by decide +kernel) (by decide) (by decide +kernel) q4811 ?_
              refine x_iload (np := 164) (x := 2) (by decide +kernel) rfl (by decide) ?_
              refine x_iload (np := 166) (x := 5) (by decide +kernel) rfl l4803 ?_
              refine x_ast (np := 167) (x := 0) (kd := 1) (n := 6) (i := 0) (by decide +kernel) (Or.inl rfl) (by decide +kernel) (by first | decide | omega) (by first | decide | omega) (by decide) l4803 (fun z => absurd z (by decide)) ?_
              have j4813 := jU (e := 0) (v := v4802) 0 j3228 rg_93_0_1_6 (by first | decide | omega) (by first | decide | omega) (by first | decide | omega)
              have f4815 := jF (e := 0) (v := v4802) 0 f4787 rg_93_0_1_6 (by first | decide | omega) (by first | decide | omega) (by decide)
              have f4816 := jF (e := 0) (v := v4802) 0 f3227 rg_93_0_1_6 (by first | decide | omega) (by first | decide | omega) (by decide)
              generalize e4814 : x_up h3225 93 0 v4802 = h4812 at j4813 f4815 f4816 ⊢
              refine x_aload (np := 168) (x := 0) (by decide +kernel) rfl (x_nc_le (by decide)) ?_
              refine x_iload (np := 170) (x := 5) (by decide +kernel) rfl l4803 ?_
              refine x_const (np := 171) (x := 9223372043297226753) (a := 2147483649) (by decide +kernel) (by decide) (by decide) ?_
              refine x_cV (t := 6) (mj := 248) (n := 3) (rc := 12) (ml := 4) (nr := 0) (np := 174) (as := [x_r 75, iv_c v4802, iv_c 2147483649]) (rest := []) (lo1 := [x_r 75, iv_c v4802, iv_c 2147483649, 147573952589676412928]) (by decide +kernel) (by decide) (by decide +kernel) (x_rb_of (by decide +kernel)) rfl rfl (x_wr (by decide) (x_wi l4803 (x_wi (by decide) x_wn))) x_wn (by decide) rfl (c248_75 j4813  (by first | decide | omega) (by first | decide | omega)) (fun h4820 q4819 => ?_)
              obtain ⟨j4821, f4822⟩ := q4819
              have f4825 := Fr.trans f4815 f4822 (by decide)
              have f4826 := Fr.trans f4816 f4822 (by decide)
              refine x_iinc (np := 177) (i := 2) (j := 2147483649) (v := 2147483649) (lo' := [x_r 75, iv_c 2147483652, iv_c 2147483649, w3223, iv_c 2147483649, iv_c v4802]) (by decide +kernel) (by decide) (by decide) rfl (by decide) (by first | decide | omega) (by first | decide | omega) rfl ?_
              refine x_goto (np := 180) (x := 183) (by decide +kernel) ?_
              refine x_goto (np := 186) (x := 12) (by decide +kernel) ?_
              have q4827 : h4820 75 30 = h4812 75 30 := jK 0 f4822 rg_75_30_0_1 (by first | decide | omega) (by first | decide | omega) (by decide)
              have q4828 : h4812 75 30 = h3225 75 30 := by rw [← e4814]; exact x_up_k (by decide)
              exact i3248 w3223 (iv_c v4802) h4820 (by first | decide | omega) j4821 f4826 (by first | decide | omega)
            have q4801 : ¬ (2147483648 ≤ (h3225 94 0)) := q4801
            refine x_const (np := 132) (x := 9223372034707292159) (a := 2147483647) (by decide +kernel) (by decide) (by decide) ?_
            refine x_goto (np := 135) (x := 140) (by decide +kernel) ?_
            refine x_istore (np := 142) (x := 5) (lo' := [x_r 75, iv_c 2147483652, iv_c 2147483648, w3223, iv_c 2147483648, iv_c 2147483647]) (by decide +kernel) (by decide) (Nat.le_of_ble_eq_true rfl) rfl ?_
            refine x_iload (np := 144) (x := 5) (by decide +kernel) rfl (by decide) ?_
            refine x_ifz (k := 2) (tg := 151) (np := 147) (by decide +kernel) (by decide) (by decide) (fun q4829 => ?_) (fun q4830 => ?_)
            · have q4829 : 2147483647 < 2147483648 := q4829
              refine x_const (np := 152) (x := 9223372039002259456) (a := 2147483648) (by decide +kernel) (by decide) (by decide) ?_
              refine x_istore (np := 154) (x := 4) (lo' := [x_r 75, iv_c 2147483652, iv_c 2147483648, w3223, iv_c 2147483648, iv_c 2147483647]) (by decide +kernel) (by decide) (Nat.le_of_ble_eq_true rfl) rfl ?_
              refine x_iload (np := 156) (x := 4) (by decide +kernel) rfl (by decide) ?_
              refine x_ifz (k := 0) (tg := 180) (np := 159) (by decide +kernel) (by decide) (by decide) (fun q4831 => ?_) (fun q4832 => ?_)
              · have q4831 : 2147483648 = 2147483648 := q4831
                refine x_iinc (np := 183) (i := 2) (j := 2147483647) (v := 2147483647) (lo' := [x_r 75, iv_c 2147483652, iv_c 2147483647, w3223, iv_c 2147483648, iv_c 2147483647]) (by decide +kernel) (by decide) (by decide) rfl (by decide) (by first | decide | omega) (by first | decide | omega) rfl ?_
                refine x_goto (np := 186) (x := 12) (by decide +kernel) ?_
                exact i3252 w3223 (iv_c 2147483647) h3225 (by first | decide | omega) j3228 f3227 (by first | decide | omega)
              have q4832 : ¬ (2147483648 = 2147483648) := q4832
              exfalso; omega
            have q4830 : ¬ (2147483647 < 2147483648) := q4830
            exfalso; omega
          have q4796 : ¬ ((h3225 93 0) < 2147483648) := q4796
          refine x_aload (np := 112) (x := 0) (by decide +kernel) rfl (x_nc_le (by decide)) ?_
          refine x_aload (np := 113) (x := 0) (by decide +kernel) rfl (x_nc_le (by decide)) ?_
          have q4833 : h3225 75 27 = 93 := by have z := jB (e := 27) 0 j3228 rg_75_27_0_1 (by decide) (by decide); omega
          refine x_getR (np := 116) (x := 731) (f := 27) (q := 93) (by decide +kernel) (by decide) (by decide +kernel) q4833 ?_
          refine x_iload (np := 117) (x := 2) (by decide +kernel) rfl (by decide) ?_
          refine x_aldC (np := 118) (x := 0) (n := 6) (i := 0) (q := (h3225 93 0)) (by decide +kernel) (by decide +kernel) (by first | decide | omega) (by first | decide | omega) (by decide) rfl (fun l4834 => ?_)
          refine x_const (np := 119) (x := 9223372039002259456) (a := 2147483648) (by decide +kernel) (by decide) (by decide) ?_
          refine x_cV (t := 6) (mj := 248) (n := 3) (rc := 12) (ml := 4) (nr := 0) (np := 122) (as := [x_r 75, iv_c (h3225 93 0), iv_c 2147483648]) (rest := []) (lo1 := [x_r 75, iv_c (h3225 93 0), iv_c 2147483648, 147573952589676412928]) (by decide +kernel) (by decide) (by decide +kernel) (x_rb_of (by decide +kernel)) rfl rfl (x_wr (by decide) (x_wi l4794 (x_wi (by decide) x_wn))) x_wn (by decide) rfl (c248_75 j3228  (by first | decide | omega) (by first | decide | omega)) (fun h4838 q4837 => ?_)
          obtain ⟨j4839, f4840⟩ := q4837
          have f4843 := Fr.trans f4787 f4840 (by decide)
          have f4844 := Fr.trans f3227 f4840 (by decide)
          refine x_aload (np := 123) (x := 0) (by decide +kernel) rfl (x_nc_le (by decide)) ?_
          have q4845 : h4838 75 28 = 94 := by have z := jB (e := 28) 0 j4839 rg_75_28_0_1 (by decide) (by decide); omega
          refine x_getR (np := 126) (x := 732) (f := 28) (q := 94) (by decide +kernel) (by decide) (by decide +kernel) q4845 ?_
          refine x_iload (np := 127) (x := 2) (by decide +kernel) rfl (by decide) ?_
          have q4846 : h4838 94 0 = h3225 94 0 := jK 0 f4840 rg_94_0_1_6 (by first | decide | omega) (by first | decide | omega) (by decide)
          have b4847 := jB (e := 0) 0 j3228 rg_94_0_1_6 (by first | decide | omega) (by first | decide | omega)
          refine x_aldC (np := 128) (x := 0) (n := 6) (i := 0) (q := (h3225 94 0)) (by decide +kernel) (by decide +kernel) (by first | decide | omega) (by first | decide | omega) (by decide) q4846 (fun l4848 => ?_)
          refine x_ifz (k := 3) (tg := 135) (np := 131) (by decide +kernel) (by decide) l4848 (fun q4849 => ?_) (fun q4850 => ?_)
          · have q4849 : 2147483648 ≤ (h3225 94 0) := q4849
            refine x_aload (np := 136) (x := 0) (by decide +kernel) rfl (x_nc_le (by decide)) ?_
            refine x_iload (np := 137) (x := 2) (by decide +kernel) rfl (by decide) ?_
            have q4851 : h4838 94 0 = h3225 94 0 := jK 0 f4840 rg_94_0_1_6 (by first | decide | omega) (by first | decide | omega) (by decide)
            refine x_cP (t := 6) (mj := 257) (n := 2) (rc := 12) (ml := 3) (nr := 0) (np := 140) (as := [x_r 75, iv_c 2147483648]) (rest := []) (lo1 := [x_r 75, iv_c 2147483648, 147573952589676412928]) (by decide +kernel) (by decide) (by decide +kernel) (x_rb_of (by decide +kernel)) rfl rfl (x_wr (by decide) (x_wi (by decide) x_wn)) x_wn (by decide) rfl (c257_75_c0 j4839   (by first | decide | omega)) (fun v4852 l4853 q4854 => ?_)
            refine x_istore (np := 142) (x := 5) (lo' := [x_r 75, iv_c 2147483652, iv_c 2147483648, w3223, iv_c 2147483648, iv_c v4852]) (by decide +kernel) l4853 (Nat.le_of_ble_eq_true rfl) rfl ?_
            refine x_iload (np := 144) (x := 5) (by decide +kernel) rfl l4853 ?_
            refine x_ifz (k := 2) (tg := 151) (np := 147) (by decide +kernel) (by decide) l4853 (fun q4855 => ?_) (fun q4856 => ?_)
            · have q4855 : v4852 < 2147483648 := q4855
              refine x_const (np := 152) (x := 9223372039002259456) (a := 2147483648) (by decide +kernel) (by decide) (by decide) ?_
              refine x_istore (np := 154) (x := 4) (lo' := [x_r 75, iv_c 2147483652, iv_c 2147483648, w3223, iv_c 2147483648, iv_c v4852]) (by decide +kernel) (by decide) (Nat.le_of_ble_eq_true rfl) rfl ?_
              refine x_iload (np := 156) (x := 4) (by decide +kernel) rfl (by decide) ?_
              refine x_ifz (k := 0) (tg := 180) (np := 159) (by decide +kernel) (by decide) (by decide) (fun q4857 => ?_) (fun q4858 => ?_)
              · have q4857 : 2147483648 = 2147483648 := q4857
                refine x_iinc (np := 183) (i := 2) (j := 2147483647) (v := 2147483647) (lo' := [x_r 75, iv_c 2147483652, iv_c 2147483647, w3223, iv_c 2147483648, iv_c v4852]) (by decide +kernel) (by decide) (by decide) rfl (by decide) (by first | decide | omega) (by first | decide | omega) rfl ?_
                refine x_goto (np := 186) (x := 12) (by decide +kernel) ?_
                have q4859 : h4838 75 30 = h3225 75 30 := jK 0 f4840 rg_75_30_0_1 (by first | decide | omega) (by first | decide | omega) (by decide)
                exact i3252 w3223 (iv_c v4852) h4838 (by first | decide | omega) j4839 f4844 (by first | decide | omega)
              have q4858 : ¬ (2147483648 = 2147483648) := q4858
              exfalso; omega
            have q4856 : ¬ (v4852 < 2147483648) := q4856
            refine x_const (np := 148) (x := 9223372043297226753) (a := 2147483649) (by decide +kernel) (by decide) (by decide) ?_
            refine x_goto (np := 151) (x := 152) (by decide +kernel) ?_
            refine x_istore (np := 154) (x := 4) (lo' := [x_r 75, iv_c 2147483652, iv_c 2147483648, w3223, iv_c 2147483649, iv_c v4852]) (by decide +kernel) (by decide) (Nat.le_of_ble_eq_true rfl) rfl ?_
            refine x_iload (np := 156) (x := 4) (by decide +kernel) rfl (by decide) ?_
            refine x_ifz (k := 0) (tg := 180) (np := 159) (by decide +kernel) (by decide) (by decide) (fun q4860 => ?_) (fun q4861 => ?_)
            · have q4860 : 2147483649 = 2147483648 := q4860
              exfalso; omega
            have q4861 : ¬ (2147483649 = 2147483648) := q4861
            refine x_aload (np := 160) (x := 0) (by decide +kernel) rfl (x_nc_le (by decide)) ?_
            have q4862 : h4838 75 27 = 93 := by have z := jB (e := 27) 0 j4839 rg_75_27_0_1 (by decide) (by decide); omega
            refine x_getR (np := 163) (x := 731) (f := 27) (q := 93) (by decide +kernel) (by decide) (by decide +kernel) q4862 ?_
            refine x_iload (np := 164) (x := 2) (by decide +kernel) rfl (by decide) ?_
            refine x_iload (np := 166) (x := 5) (by decide +kernel) rfl l4853 ?_
            refine x_ast (np := 167) (x := 0) (kd := 1) (n := 6) (i := 0) (by decide +kernel) (Or.inl rfl) (by decide +kernel) (by first | decide | omega) (by first | decide | omega) (by decide) l4853 (fun z => absurd z (by decide)) ?_
            have j4864 := jU (e := 0) (v := v4852) 0 j4839 rg_93_0_1_6 (by first | decide | omega) (by first | decide | omega) (by first | decide | omega)
            have f4866 := jF (e := 0) (v := v4852) 0 f4843 rg_93_0_1_6 (by first | decide | omega) (by first | decide | omega) (by decide)
            have f4867 := jF (e := 0) (v := v4852) 0 f4844 rg_93_0_1_6 (by first | decide | omega) (by first | decide | omega) (by decide)
            generalize e4865 : x_up h4838 93 0 v4852 = h4863 at j4864 f4866 f4867 ⊢
            refine x_aload (np := 168) (x := 0) (by decide +kernel) rfl (x_nc_le (by decide)) ?_
            refine x_iload (np := 170) (x := 5) (by decide +kernel) rfl l4853 ?_
            refine x_const (np := 171) (x := 9223372043297226753) (a := 2147483649) (by decide +kernel) (by decide) (by decide) ?_
            refine x_cV (t := 6) (mj := 248) (n := 3) (rc := 12) (ml := 4) (nr := 0) (np := 174) (as := [x_r 75, iv_c v4852, iv_c 2147483649]) (rest := []) (lo1 := [x_r 75, iv_c v4852, iv_c 2147483649, 147573952589676412928]) (by decide +kernel) (by decide) (by decide +kernel) (x_rb_of (by decide +kernel)) rfl rfl (x_wr (by decide) (x_wi l4853 (x_wi (by decide) x_wn))) x_wn (by decide) rfl (c248_75 j4864  (by first | decide | omega) (by first | decide | omega)) (fun h4871 q4870 => ?_)
            obtain ⟨j4872, f4873⟩ := q4870
            have f4876 := Fr.trans f4866 f4873 (by decide)
            have f4877 := Fr.trans f4867 f4873 (by decide)
            refine x_iinc (np := 177) (i := 2) (j := 2147483649) (v := 2147483649) (lo' := [x_r 75, iv_c 2147483652, iv_c 2147483649, w3223, iv_c 2147483649, iv_c v4852]) (by decide +kernel) (by decide) (by decide) rfl (by decide) (by first | decide | omega) (by first | decide | omega) rfl ?_
            refine x_goto (np := 180) (x := 183) (by decide +kernel) ?_
            refine x_goto (np := 186) (x := 12) (by decide +kernel) ?_
            have q4878 : h4871 75 30 = h4863 75 30 := jK 0 f4873 rg_75_30_0_1 (by first | decide | omega) (by first | decide | omega) (by decide)
            have q4879 : h4863 75 30 = h4838 75 30 := by rw [← e4865]; exact x_up_k (by decide)
            have q4880 : h4838 75 30 = h3225 75 30 := jK 0 f4840 rg_75_30_0_1 (by first | decide | omega) (by first | decide | omega) (by decide)
            exact i3248 w3223 (iv_c v4852) h4871 (by first | decide | omega) j4872 f4877 (by first | decide | omega)
          have q4850 : ¬ (2147483648 ≤ (h3225 94 0)) := q4850
          refine x_const (np := 132) (x := 9223372034707292159) (a := 2147483647) (by decide +kernel) (by decide) (by decide) ?_
          refine x_goto (np := 135) (x := 140) (by decide +kernel) ?_
          refine x_istore (np := 142) (x := 5) (lo' := [x_r 75, iv_c 2147483652, iv_c 2147483648, w3223, iv_c 2147483648, iv_c 2147483647]) (by decide +kernel) (by decide) (Nat.le_of_ble_eq_true rfl) rfl ?_
          refine x_iload (np := 144) (x := 5) (by decide +kernel) rfl (by decide) ?_
          refine x_ifz (k := 2) (tg := 151) (np := 147) (by decide +kernel) (by decide) (by decide) (fun q4881 => ?_) (fun q4882 => ?_)
          · have q4881 : 2147483647 < 2147483648 := q4881
            refine x_const (np := 152) (x := 9223372039002259456) (a := 2147483648) (by decide +kernel) (by decide) (by decide) ?_
            refine x_istore (np := 154) (x := 4) (lo' := [x_r 75, iv_c 2147483652, iv_c 2147483648, w3223, iv_c 2147483648, iv_c 2147483647]) (by decide +kernel) (by decide) (Nat.le_of_ble_eq_true rfl) rfl ?_
            refine x_iload (np := 156) (x := 4) (by decide +kernel) rfl (by decide) ?_
            refine x_ifz (k := 0) (tg := 180) (np := 159) (by decide +kernel) (by decide) (by decide) (fun q4883 => ?_) (fun q4884 => ?_)
            · have q4883 : 2147483648 = 2147483648 := q4883
              refine x_iinc (np := 183) (i := 2) (j := 2147483647) (v := 2147483647) (lo' := [x_r 75, iv_c 2147483652, iv_c 2147483647, w3223, iv_c 2147483648, iv_c 2147483647]) (by decide +kernel) (by decide) (by decide) rfl (by decide) (by first | decide | omega) (by first | decide | omega) rfl ?_
              refine x_goto (np := 186) (x := 12) (by decide +kernel) ?_
              have q4885 : h4838 75 30 = h3225 75 30 := jK 0 f4840 rg_75_30_0_1 (by first | decide | omega) (by first | decide | omega) (by decide)
              exact i3252 w3223 (iv_c 2147483647) h4838 (by first | decide | omega) j4839 f4844 (by first | decide | omega)
            have q4884 : ¬ (2147483648 = 2147483648) := q4884
            exfalso; omega
          have q4882 : ¬ (2147483647 < 2147483648) := q4882
          exfalso; omega
        have q4791 : ¬ (2147483648 = 2147483648) := q4791
        exfalso; omega
      · intro w3229 w3230 h3231 q4886 j3234 f3233 b3232
        have f4887 := Fr.trans f5 f3233 (by decide)
        refine x_iload (np := 13) (x := 2) (by decide +kernel) rfl (by decide) ?_
        refine x_ifz (k := 2) (tg := 186) (np := 16) (by decide +kernel) (by decide) (by decide) (fun q4888 => ?_) (fun q4889 => ?_)
        · have q4888 : 2147483649 < 2147483648 := q4888
          exfalso; omega
        have q4889 : ¬ (2147483649 < 2147483648) := q4889
        refine x_iload (np := 18) (x := 4) (by decide +kernel) rfl (by decide) ?_
        refine x_ifz (k := 0) (tg := 102) (np := 21) (by decide +kernel) (by decide) (by decide) (fun q4890 => ?_) (fun q4891 => ?_)
        · have q4890 : 2147483648 = 2147483648 := q4890
          refine x_aload (np := 103) (x := 0) (by decide +kernel) rfl (x_nc_le (by decide)) ?_
          have q4892 : h3231 75 27 = 93 := by have z := jB (e := 27) 0 j3234 rg_75_27_0_1 (by decide) (by decide); omega
          refine x_getR (np := 106) (x := 731) (f := 27) (q := 93) (by decide +kernel) (by decide) (by decide +kernel) q4892 ?_
          refine x_iload (np := 107) (x := 2) (by decide +kernel) rfl (by decide) ?_
          have b4893 := jB (e := 1) 1 j3234 rg_93_0_1_6 (by first | decide | omega) (by first | decide | omega)
          refine x_aldC (np := 108) (x := 0) (n := 6) (i := 1) (q := (h3231 93 1)) (by decide +kernel) (by decide +kernel) (by first | decide | omega) (by first | decide | omega) (by decide) rfl (fun l4894 => ?_)
          refine x_ifz (k := 2) (tg := 122) (np := 111) (by decide +kernel) (by decide) l4894 (fun q4895 => ?_) (fun q4896 => ?_)
          · have q4895 : (h3231 93 1) < 2147483648 := q4895
            refine x_aload (np := 123) (x := 0) (by decide +kernel) rfl (x_nc_le (by decide)) ?_
            have q4897 : h3231 75 28 = 94 := by have z := jB (e := 28) 0 j3234 rg_75_28_0_1 (by decide) (by decide); omega
            refine x_getR (np := 126) (x := 732) (f := 28) (q := 94) (by decide +kernel) (by decide) (by decide +kernel) q4897 ?_
            refine x_iload (np := 127) (x := 2) (by decide +kernel) rfl (by decide) ?_
            have b4898 := jB (e := 1) 1 j3234 rg_94_0_1_6 (by first | decide | omega) (by first | decide | omega)
            refine x_aldC (np := 128) (x := 0) (n := 6) (i := 1) (q := (h3231 94 1)) (by decide +kernel) (by decide +kernel) (by first | decide | omega) (by first | decide | omega) (by decide) rfl (fun l4899 => ?_)
            refine x_ifz (k := 3) (tg := 135) (np := 131) (by decide +kernel) (by decide) l4899 (fun q4900 => ?_) (fun q4901 => ?_)
            · have q4900 : 2147483648 ≤ (h3231 94 1) := q4900
              refine x_aload (np := 136) (x := 0) (by decide +kernel) rfl (x_nc_le (by decide)) ?_
              refine x_iload (np := 137) (x := 2) (by decide +kernel) rfl (by decide) ?_
              refine x_cP (t := 6) (mj := 257) (n := 2) (rc := 12) (ml := 3) (nr := 0) (np := 140) (as := [x_r 75, iv_c 2147483649]) (rest := []) (lo1 := [x_r 75, iv_c 2147483649, 147573952589676412928]) (by decide +kernel) (by decide) (by decide +kernel) (x_rb_of (by decide +kernel)) rfl rfl (x_wr (by decide) (x_wi (by decide) x_wn)) x_wn (by decide) rfl (c257_75_c1 j3234   (by first | decide | omega)) (fun v4902 l4903 q4904 => ?_)
              refine x_istore (np := 142) (x := 5) (lo' := [x_r 75, iv_c 2147483652, iv_c 2147483649, w3229, iv_c 2147483648, iv_c v4902]) (by decide +kernel) l4903 (Nat.le_of_ble_eq_true rfl) rfl ?_
              refine x_iload (np := 144) (x := 5) (by decide +kernel) rfl l4903 ?_
              refine x_ifz (k := 2) (tg := 151) (np := 147) (by decide +kernel) (by decide) l4903 (fun q4905 => ?_) (fun q4906 => ?_)
              · have q4905 : v4902 < 2147483648 := q4905
                refine x_const (np := 152) (x := 9223372039002259456) (a := 2147483648) (by decide +kernel) (by decide) (by decide) ?_
                refine x_istore (np := 154) (x := 4) (lo' := [x_r 75, iv_c 2147483652, iv_c 2147483649, w3229, iv_c 2147483648, iv_c v4902]) (by decide +kernel) (by decide) (Nat.le_of_ble_eq_true rfl) rfl ?_
                refine x_iload (np := 156) (x := 4) (by decide +kernel) rfl (by decide) ?_
                refine x_ifz (k := 0) (tg := 180) (np := 159) (by decide +kernel) (by decide) (by decide) (fun q4907 => ?_) (fun q4908 => ?_)
                · have q4907 : 2147483648 = 2147483648 := q4907
                  refine x_iinc (np := 183) (i := 2) (j := 2147483647) (v := 2147483648) (lo' := [x_r 75, iv_c 2147483652, iv_c 2147483648, w3229, iv_c 2147483648, iv_c v4902]) (by decide +kernel) (by decide) (by decide) rfl (by decide) (by first | decide | omega) (by first | decide | omega) rfl ?_
                  refine x_goto (np := 186) (x := 12) (by decide +kernel) ?_
                  exact i3253 w3229 (iv_c v4902) h3231 (by first | decide | omega) j3234 f3233 (by first | decide | omega)
                have q4908 : ¬ (2147483648 = 2147483648) := q4908
                exfalso; omega
              have q4906 : ¬ (v4902 < 2147483648) := q4906
              refine x_const (np := 148) (x := 9223372043297226753) (a := 2147483649) (by decide +kernel) (by decide) (by decide) ?_
              refine x_goto (np := 151) (x := 152) (by decide +kernel) ?_
              refine x_istore (np := 154) (x := 4) (lo' := [x_r 75, iv_c 2147483652, iv_c 2147483649, w3229, iv_c 2147483649, iv_c v4902]) (by decide +kernel) (by decide) (Nat.le_of_ble_eq_true rfl) rfl ?_
              refine x_iload (np := 156) (x := 4) (by decide +kernel) rfl (by decide) ?_
              refine x_ifz (k := 0) (tg := 180) (np := 159) (by decide +kernel) (by decide) (by decide) (fun q4909 => ?_) (fun q4910 => ?_)
              · have q4909 : 2147483649 = 2147483648 := q4909
                exfalso; omega
              have q4910 : ¬ (2147483649 = 2147483648) := q4910
              refine x_aload (np := 160) (x := 0) (by decide +kernel) rfl (x_nc_le (by decide)) ?_
              have q4911 : h3231 75 27 = 93 := by have z := jB (e := 27) 0 j3234 rg_75_27_0_1 (by decide) (by decide); omega
              refine x_getR (np := 163) (x := 731) (f := 27) (q := 93) (by decide +kernel) (by decide) (by decide +kernel) q4911 ?_
              refine x_iload (np := 164) (x := 2) (by decide +kernel) rfl (by decide) ?_
              refine x_iload (np := 166) (x := 5) (by decide +kernel) rfl l4903 ?_
              refine x_ast (np := 167) (x := 0) (kd := 1) (n := 6) (i := 1) (by decide +kernel) (Or.inl rfl) (by decide +kernel) (by first | decide | omega) (by first | decide | omega) (by decide) l4903 (fun z => absurd z (by decide)) ?_
              have j4913 := jU (e := 1) (v := v4902) 1 j3234 rg_93_0_1_6 (by first | decide | omega) (by first | decide | omega) (by first | decide | omega)
              have f4915 := jF (e := 1) (v := v4902) 1 f4887 rg_93_0_1_6 (by first | decide | omega) (by first | decide | omega) (by decide)
              have f4916 := jF (e := 1) (v := v4902) 1 f3233 rg_93_0_1_6 (by first | decide | omega) (by first | decide | omega) (by decide)
              generalize e4914 : x_up h3231 93 1 v4902 = h4912 at j4913 f4915 f4916 ⊢
              refine x_aload (np := 168) (x := 0) (by decide +kernel) rfl (x_nc_le (by decide)) ?_
              refine x_iload (np := 170) (x := 5) (by decide +kernel) rfl l4903 ?_
              refine x_const (np := 171) (x := 9223372043297226753) (a := 2147483649) (by decide +kernel) (by decide) (by decide) ?_
              refine x_cV (t := 6) (mj := 248) (n := 3) (rc := 12) (ml := 4) (nr := 0) (np := 174) (as := [x_r 75, iv_c v4902, iv_c 2147483649]) (rest := []) (lo1 := [x_r 75, iv_c v4902, iv_c 2147483649, 147573952589676412928]) (by decide +kernel) (by decide) (by decide +kernel) (x_rb_of (by decide +kernel)) rfl rfl (x_wr (by decide) (x_wi l4903 (x_wi (by decide) x_wn))) x_wn (by decide) rfl (c248_75 j4913  (by first | decide | omega) (by first | decide | omega)) (fun h4920 q4919 => ?_)
              obtain ⟨j4921, f4922⟩ := q4919
              have f4925 := Fr.trans f4915 f4922 (by decide)
              have f4926 := Fr.trans f4916 f4922 (by decide)
              refine x_iinc (np := 177) (i := 2) (j := 2147483649) (v := 2147483650) (lo' := [x_r 75, iv_c 2147483652, iv_c 2147483650, w3229, iv_c 2147483649, iv_c v4902]) (by decide +kernel) (by decide) (by decide) rfl (by decide) (by first | decide | omega) (by first | decide | omega) rfl ?_
              refine x_goto (np := 180) (x := 183) (by decide +kernel) ?_
              refine x_goto (np := 186) (x := 12) (by decide +kernel) ?_
              have q4927 : h4920 75 30 = h4912 75 30 := jK 0 f4922 rg_75_30_0_1 (by first | decide | omega) (by first | decide | omega) (by decide)
              have q4928 : h4912 75 30 = h3231 75 30 := by rw [← e4914]; exact x_up_k (by decide)
              exact i3249 w3229 (iv_c v4902) h4920 (by first | decide | omega) j4921 f4926 (by first | decide | omega)
            have q4901 : ¬ (2147483648 ≤ (h3231 94 1)) := q4901
            refine x_const (np := 132) (x := 9223372034707292159) (a := 2147483647) (by decide +kernel) (by decide) (by decide) ?_
            refine x_goto (np := 135) (x := 140) (by decide +kernel) ?_
            refine x_istore (np := 142) (x := 5) (lo' := [x_r 75, iv_c 2147483652, iv_c 2147483649, w3229, iv_c 2147483648, iv_c 2147483647]) (by decide +kernel) (by decide) (Nat.le_of_ble_eq_true rfl) rfl ?_
            refine x_iload (np := 144) (x := 5) (by decide +kernel) rfl (by decide) ?_
            refine x_ifz (k := 2) (tg := 151) (np := 147) (by decide +kernel) (by decide) (by decide) (fun q4929 => ?_) (fun q4930 => ?_)
            · have q4929 : 2147483647 < 2147483648 := q4929
              refine x_const (np := 152) (x := 9223372039002259456) (a := 2147483648) (by decide +kernel) (by decide) (by decide) ?_
              refine x_istore (np := 154) (x := 4) (lo' := [x_r 75, iv_c 2147483652, iv_c 2147483649, w3229, iv_c 2147483648, iv_c 2147483647]) (by decide +kernel) (by decide) (Nat.le_of_ble_eq_true rfl) rfl ?_
              refine x_iload (np := 156) (x := 4) (by decide +kernel) rfl (by decide) ?_
              refine x_ifz (k := 0) (tg := 180) (np := 159) (by decide +kernel) (by decide) (by decide) (fun q4931 => ?_) (fun q4932 => ?_)
              · have q4931 : 2147483648 = 2147483648 := q4931
                refine x_iinc (np := 183) (i := 2) (j := 2147483647) (v := 2147483648) (lo' := [x_r 75, iv_c 2147483652, iv_c 2147483648, w3229, iv_c 2147483648, iv_c 2147483647]) (by decide +kernel) (by decide) (by decide) rfl (by decide) (by first | decide | omega) (by first | decide | omega) rfl ?_
                refine x_goto (np := 186) (x := 12) (by decide +kernel) ?_
                exact i3253 w3229 (iv_c 2147483647) h3231 (by first | decide | omega) j3234 f3233 (by first | decide | omega)
              have q4932 : ¬ (2147483648 = 2147483648) := q4932
              exfalso; omega
            have q4930 : ¬ (2147483647 < 2147483648) := q4930
            exfalso; omega
          have q4896 : ¬ ((h3231 93 1) < 2147483648) := q4896
          refine x_aload (np := 112) (x := 0) (by decide +kernel) rfl (x_nc_le (by decide)) ?_
          refine x_aload (np := 113) (x := 0) (by decide +kernel) rfl (x_nc_le (by decide)) ?_
          have q4933 : h3231 75 27 = 93 := by have z := jB (e := 27) 0 j3234 rg_75_27_0_1 (by decide) (by decide); omega
          refine x_getR (np := 116) (x := 731) (f := 27) (q := 93) (by decide +kernel) (by decide) (by decide +kernel) q4933 ?_
          refine x_iload (np := 117) (x := 2) (by decide +kernel) rfl (by decide) ?_
          refine x_aldC (np := 118) (x := 0) (n := 6) (i := 1) (q := (h3231 93 1)) (by decide +kernel) (by decide +kernel) (by first | decide | omega) (by first | decide | omega) (by decide) rfl (fun l4934 => ?_)
          refine x_const (np := 119) (x := 9223372039002259456) (a := 2147483648) (by decide +kernel) (by decide) (by decide) ?_
          refine x_cV (t := 6) (mj := 248) (n := 3) (rc := 12) (ml := 4) (nr := 0) (np := 122) (as := [x_r 75, iv_c (h3231 93 1), iv_c 2147483648]) (rest := []) (lo1 := [x_r 75, iv_c (h3231 93 1), iv_c 2147483648, 147573952589676412928]) (by decide +kernel) (by decide) (by decide +kernel) (x_rb_of (by decide +kernel)) rfl rfl (x_wr (by decide) (x_wi l4894 (x_wi (by decide) x_wn))) x_wn (by decide) rfl (c248_75 j3234  (by first | decide | omega) (by first | decide | omega)) (fun h4938 q4937 => ?_)
          obtain ⟨j4939, f4940⟩ := q4937
          have f4943 := Fr.trans f4887 f4940 (by decide)
          have f4944 := Fr.trans f3233 f4940 (by decide)
          refine x_aload (np := 123) (x := 0) (by decide +kernel) rfl (x_nc_le (by decide)) ?_
          have q4945 : h4938 75 28 = 94 := by have z := jB (e := 28) 0 j4939 rg_75_28_0_1 (by decide) (by decide); omega
          refine x_getR (np := 126) (x := 732) (f := 28) (q := 94) (by decide +kernel) (by decide) (by decide +kernel) q4945 ?_
          refine x_iload (np := 127) (x := 2) (by decide +kernel) rfl (by decide) ?_
          have q4946 : h4938 94 1 = h3231 94 1 := jK 1 f4940 rg_94_0_1_6 (by first | decide | omega) (by first | decide | omega) (by decide)
          have b4947 := jB (e := 1) 1 j3234 rg_94_0_1_6 (by first | decide | omega) (by first | decide | omega)
          refine x_aldC (np := 128) (x := 0) (n := 6) (i := 1) (q := (h3231 94 1)) (by decide +kernel) (by decide +kernel) (by first | decide | omega) (by first | decide | omega) (by decide) q4946 (fun l4948 => ?_)
          refine x_ifz (k := 3) (tg := 135) (np := 131) (by decide +kernel) (by decide) l4948 (fun q4949 => ?_) (fun q4950 => ?_)
          · have q4949 : 2147483648 ≤ (h3231 94 1) := q4949
            refine x_aload (np := 136) (x := 0) (by decide +kernel) rfl (x_nc_le (by decide)) ?_
            refine x_iload (np := 137) (x := 2) (by decide +kernel) rfl (by decide) ?_
            have q4951 : h4938 94 1 = h3231 94 1 := jK 1 f4940 rg_94_0_1_6 (by first | decide | omega) (by first | decide | omega) (by decide)
            refine x_cP (t := 6) (mj := 257) (n := 2) (rc := 12) (ml := 3) (nr := 0) (np := 140) (as := [x_r 75, iv_c 2147483649]) (rest := []) (lo1 := [x_r 75, iv_c 2147483649, 147573952589676412928]) (by decide +kernel) (by decide) (by decide +kernel) (x_rb_of (by decide +kernel)) rfl rfl (x_wr (by decide) (x_wi (by decide) x_wn)) x_wn (by decide) rfl (c257_75_c1 j4939   (by first | decide | omega)) (fun v4952 l4953 q4954 => ?_)
            refine x_istore (np := 142) (x := 5) (lo' := [x_r 75, iv_c 2147483652, iv_c 2147483649, w3229, iv_c 2147483648, iv_c v4952]) (by decide +kernel) l4953 (Nat.le_of_ble_eq_true rfl) rfl ?_
            refine x_iload (np := 144) (x := 5) (by decide +kernel) rfl l4953 ?_
            refine x_ifz (k := 2) (tg := 151) (np := 147) (by decide +kernel) (by decide) l4953 (fun q4955 => ?_) (fun q4956 => ?_)
            · have q4955 : v4952 < 2147483648 := q4955
              refine x_const (np := 152) (x := 9223372039002259456) (a := 2147483648) (by decide +kernel) (by decide) (by decide) ?_
              refine x_istore (np := 154) (x := 4) (lo' := [x_r 75, iv_c 2147483652, iv_c 2147483649, w3229, iv_c 2147483648, iv_c v4952]) (by decide +kernel) (by decide) (Nat.le_of_ble_eq_true rfl) rfl ?_
              refine x_iload (np := 156) (x := 4) (by decide +kernel) rfl (by decide) ?_
              refine x_ifz (k := 0) (tg := 180) (np := 159) (by decide +kernel) (by decide) (by decide) (fun q4957 => ?_) (fun q4958 => ?_)
              · have q4957 : 2147483648 = 2147483648 := q4957
                refine x_iinc (np := 183) (i := 2) (j := 2147483647) (v := 2147483648) (lo' := [x_r 75, iv_c 2147483652, iv_c 2147483648, w3229, iv_c 2147483648, iv_c v4952]) (by decide +kernel) (by decide) (by decide) rfl (by decide) (by first | decide | omega) (by first | decide | omega) rfl ?_
                refine x_goto (np := 186) (x := 12) (by decide +kernel) ?_
                have q4959 : h4938 75 30 = h3231 75 30 := jK 0 f4940 rg_75_30_0_1 (by first | decide | omega) (by first | decide | omega) (by decide)
                exact i3253 w3229 (iv_c v4952) h4938 (by first | decide | omega) j4939 f4944 (by first | decide | omega)
              have q4958 : ¬ (2147483648 = 2147483648) := q4958
              exfalso; omega
            have q4956 : ¬ (v4952 < 2147483648) := q4956
            refine x_const (np := 148) (x := 9223372043297226753) (a := 2147483649) (by decide +kernel) (by decide) (by decide) ?_
            refine x_goto (np := 151) (x := 152) (by decide +kernel) ?_
            refine x_istore (np := 154) (x := 4) (lo' := [x_r 75, iv_c 2147483652, iv_c 2147483649, w3229, iv_c 2147483649, iv_c v4952]) (by decide +kernel) (by decide) (Nat.le_of_ble_eq_true rfl) rfl ?_
            refine x_iload (np := 156) (x := 4) (by decide +kernel) rfl (by decide) ?_
            refine x_ifz (k := 0) (tg := 180) (np := 159) (by decide +kernel) (by decide) (by decide) (fun q4960 => ?_) (fun q4961 => ?_)
            · have q4960 : 2147483649 = 2147483648 := q4960
              exfalso; omega
            have q4961 : ¬ (2147483649 = 2147483648) := q4961
            refine x_aload (np := 160) (x := 0) (by decide +kernel) rfl (x_nc_le (by decide)) ?_
            have q4962 : h4938 75 27 = 93 := by have z := jB (e := 27) 0 j4939 rg_75_27_0_1 (by decide) (by decide); omega
            refine x_getR (np := 163) (x := 731) (f := 27) (q := 93) (by decide +kernel) (by decide) (by decide +kernel) q4962 ?_
            refine x_iload (np := 164) (x := 2) (by decide +kernel) rfl (by decide) ?_
            refine x_iload (np := 166) (x := 5) (by decide +kernel) rfl l4953 ?_
            refine x_ast (np := 167) (x := 0) (kd := 1) (n := 6) (i := 1) (by decide +kernel) (Or.inl rfl) (by decide +kernel) (by first | decide | omega) (by first | decide | omega) (by decide) l4953 (fun z => absurd z (by decide)) ?_
            have j4964 := jU (e := 1) (v := v4952) 1 j4939 rg_93_0_1_6 (by first | decide | omega) (by first | decide | omega) (by first | decide | omega)
            have f4966 := jF (e := 1) (v := v4952) 1 f4943 rg_93_0_1_6 (by first | decide | omega) (by first | decide | omega) (by decide)
            have f4967 := jF (e := 1) (v := v4952) 1 f4944 rg_93_0_1_6 (by first | decide | omega) (by first | decide | omega) (by decide)
            generalize e4965 : x_up h4938 93 1 v4952 = h4963 at j4964 f4966 f4967 ⊢
            refine x_aload (np := 168) (x := 0) (by decide +kernel) rfl (x_nc_le (by decide)) ?_
            refine x_iload (np := 170) (x := 5) (by decide +kernel) rfl l4953 ?_
            refine x_const (np := 171) (x := 9223372043297226753) (a := 2147483649) (by decide +kernel) (by decide) (by decide) ?_
            refine x_cV (t := 6) (mj := 248) (n := 3) (rc := 12) (ml := 4) (nr := 0) (np := 174) (as := [x_r 75, iv_c v4952, iv_c 2147483649]) (rest := []) (lo1 := [x_r 75, iv_c v4952, iv_c 2147483649, 147573952589676412928]) (by decide +kernel) (by decide) (by decide +kernel) (x_rb_of (by decide +kernel)) rfl rfl (x_wr (by decide) (x_wi l4953 (x_wi (by decide) x_wn))) x_wn (by decide) rfl (c248_75 j4964  (by first | decide | omega) (by first | decide | omega)) (fun h4971 q4970 => ?_)
            obtain ⟨j4972, f4973⟩ := q4970
            have f4976 := Fr.trans f4966 f4973 (by decide)
            have f4977 := Fr.trans f4967 f4973 (by decide)
            refine x_iinc (np := 177) (i := 2) (j := 2147483649) (v := 2147483650) (lo' := [x_r 75, iv_c 2147483652, iv_c 2147483650, w3229, iv_c 2147483649, iv_c v4952]) (by decide +kernel) (by decide) (by decide) rfl (by decide) (by first | decide | omega) (by first | decide | omega) rfl ?_
            refine x_goto (np := 180) (x := 183) (by decide +kernel) ?_
            refine x_goto (np := 186) (x := 12) (by decide +kernel) ?_
            have q4978 : h4971 75 30 = h4963 75 30 := jK 0 f4973 rg_75_30_0_1 (by first | decide | omega) (by first | decide | omega) (by decide)
            have q4979 : h4963 75 30 = h4938 75 30 := by rw [← e4965]; exact x_up_k (by decide)
            have q4980 : h4938 75 30 = h3231 75 30 := jK 0 f4940 rg_75_30_0_1 (by first | decide | omega) (by first | decide | omega) (by decide)
            exact i3249 w3229 (iv_c v4952) h4971 (by first | decide | omega) j4972 f4977 (by first | decide | omega)
          have q4950 : ¬ (2147483648 ≤ (h3231 94 1)) := q4950
          refine x_const (np := 132) (x := 9223372034707292159) (a := 2147483647) (by decide +kernel) (by decide) (by decide) ?_
          refine x_goto (np := 135) (x := 140) (by decide +kernel) ?_
          refine x_istore (np := 142) (x := 5) (lo' := [x_r 75, iv_c 2147483652, iv_c 2147483649, w3229, iv_c 2147483648, iv_c 2147483647]) (by decide +kernel) (by decide) (Nat.le_of_ble_eq_true rfl) rfl ?_
          refine x_iload (np := 144) (x := 5) (by decide +kernel) rfl (by decide) ?_
          refine x_ifz (k := 2) (tg := 151) (np := 147) (by decide +kernel) (by decide) (by decide) (fun q4981 => ?_) (fun q4982 => ?_)
          · have q4981 : 2147483647 < 2147483648 := q4981
            refine x_const (np := 152) (x := 9223372039002259456) (a := 2147483648) (by decide +kernel) (by decide) (by decide) ?_
            refine x_istore (np := 154) (x := 4) (lo' := [x_r 75, iv_c 2147483652, iv_c 2147483649, w3229, iv_c 2147483648, iv_c 2147483647]) (by decide +kernel) (by decide) (Nat.le_of_ble_eq_true rfl) rfl ?_
            refine x_iload (np := 156) (x := 4) (by decide +kernel) rfl (by decide) ?_
            refine x_ifz (k := 0) (tg := 180) (np := 159) (by decide +kernel) (by decide) (by decide) (fun q4983 => ?_) (fun q4984 => ?_)
            · have q4983 : 2147483648 = 2147483648 := q4983
              refine x_iinc (np := 183) (i := 2) (j := 2147483647) (v := 2147483648) (lo' := [x_r 75, iv_c 2147483652, iv_c 2147483648, w3229, iv_c 2147483648, iv_c 2147483647]) (by decide +kernel) (by decide) (by decide) rfl (by decide) (by first | decide | omega) (by first | decide | omega) rfl ?_
              refine x_goto (np := 186) (x := 12) (by decide +kernel) ?_
              have q4985 : h4938 75 30 = h3231 75 30 := jK 0 f4940 rg_75_30_0_1 (by first | decide | omega) (by first | decide | omega) (by decide)
              exact i3253 w3229 (iv_c 2147483647) h4938 (by first | decide | omega) j4939 f4944 (by first | decide | omega)
            have q4984 : ¬ (2147483648 = 2147483648) := q4984
            exfalso; omega
          have q4982 : ¬ (2147483647 < 2147483648) := q4982
          exfalso; omega
        have q4891 : ¬ (2147483648 = 2147483648) := q4891
        exfalso; omega
      · intro w3235 w3236 h3237 q4986 j3240 f3239 b3238
        have f4987 := Fr.trans f5 f3239 (by decide)
        refine x_iload (np := 13) (x := 2) (by decide +kernel) rfl (by decide) ?_
        refine x_ifz (k := 2) (tg := 186) (np := 16) (by decide +kernel) (by decide) (by decide) (fun q4988 => ?_) (fun q4989 => ?_)
        · have q4988 : 2147483650 < 2147483648 := q4988
          exfalso; omega
        have q4989 : ¬ (2147483650 < 2147483648) := q4989
        refine x_iload (np := 18) (x := 4) (by decide +kernel) rfl (by decide) ?_
        refine x_ifz (k := 0) (tg := 102) (np := 21) (by decide +kernel) (by decide) (by decide) (fun q4990 => ?_) (fun q4991 => ?_)
        · have q4990 : 2147483648 = 2147483648 := q4990
          refine x_aload (np := 103) (x := 0) (by decide +kernel) rfl (x_nc_le (by decide)) ?_
          have q4992 : h3237 75 27 = 93 := by have z := jB (e := 27) 0 j3240 rg_75_27_0_1 (by decide) (by decide); omega
          refine x_getR (np := 106) (x := 731) (f := 27) (q := 93) (by decide +kernel) (by decide) (by decide +kernel) q4992 ?_
          refine x_iload (np := 107) (x := 2) (by decide +kernel) rfl (by decide) ?_
          have b4993 := jB (e := 2) 2 j3240 rg_93_0_1_6 (by first | decide | omega) (by first | decide | omega)
          refine x_aldC (np := 108) (x := 0) (n := 6) (i := 2) (q := (h3237 93 2)) (by decide +kernel) (by decide +kernel) (by first | decide | omega) (by first | decide | omega) (by decide) rfl (fun l4994 => ?_)
          refine x_ifz (k := 2) (tg := 122) (np := 111) (by decide +kernel) (by decide) l4994 (fun q4995 => ?_) (fun q4996 => ?_)
          · have q4995 : (h3237 93 2) < 2147483648 := q4995
            refine x_aload (np := 123) (x := 0) (by decide +kernel) rfl (x_nc_le (by decide)) ?_
            have q4997 : h3237 75 28 = 94 := by have z := jB (e := 28) 0 j3240 rg_75_28_0_1 (by decide) (by decide); omega
            refine x_getR (np := 126) (x := 732) (f := 28) (q := 94) (by decide +kernel) (by decide) (by decide +kernel) q4997 ?_
            refine x_iload (np := 127) (x := 2) (by decide +kernel) rfl (by decide) ?_
            have b4998 := jB (e := 2) 2 j3240 rg_94_0_1_6 (by first | decide | omega) (by first | decide | omega)
            refine x_aldC (np := 128) (x := 0) (n := 6) (i := 2) (q := (h3237 94 2)) (by decide +kernel) (by decide +kernel) (by first | decide | omega) (by first | decide | omega) (by decide) rfl (fun l4999 => ?_)
            refine x_ifz (k := 3) (tg := 135) (np := 131) (by decide +kernel) (by decide) l4999 (fun q5000 => ?_) (fun q5001 => ?_)
            · have q5000 : 2147483648 ≤ (h3237 94 2) := q5000
              refine x_aload (np := 136) (x := 0) (by decide +kernel) rfl (x_nc_le (by decide)) ?_
              refine x_iload (np := 137) (x := 2) (by decide +kernel) rfl (by decide) ?_
              refine x_cP (t := 6) (mj := 257) (n := 2) (rc := 12) (ml := 3) (nr := 0) (np := 140) (as := [x_r 75, iv_c 2147483650]) (rest := []) (lo1 := [x_r 75, iv_c 2147483650, 147573952589676412928]) (by decide +kernel) (by decide) (by decide +kernel) (x_rb_of (by decide +kernel)) rfl rfl (x_wr (by decide) (x_wi (by decide) x_wn)) x_wn (by decide) rfl (c257_75_c2 j3240   (by first | decide | omega)) (fun v5002 l5003 q5004 => ?_)
              refine x_istore (np := 142) (x := 5) (lo' := [x_r 75, iv_c 2147483652, iv_c 2147483650, w3235, iv_c 2147483648, iv_c v5002]) (by decide +kernel) l5003 (Nat.le_of_ble_eq_true rfl) rfl ?_
              refine x_iload (np := 144) (x := 5) (by decide +kernel) rfl l5003 ?_
              refine x_ifz (k := 2) (tg := 151) (np := 147) (by decide +kernel) (by decide) l5003 (fun q5005 => ?_) (fun q5006 => ?_)
              · have q5005 : v5002 < 2147483648 := q5005
                refine x_const (np := 152) (x := 9223372039002259456) (a := 2147483648) (by decide +kernel) (by decide) (by decide) ?_
                refine x_istore (np := 154) (x := 4) (lo' := [x_r 75, iv_c 2147483652, iv_c 2147483650, w3235, iv_c 2147483648, iv_c v5002]) (by decide +kernel) (by decide) (Nat.le_of_ble_eq_true rfl) rfl ?_
                refine x_iload (np := 156) (x := 4) (by decide +kernel) rfl (by decide) ?_
                refine x_ifz (k := 0) (tg := 180) (np := 159) (by decide +kernel) (by decide) (by decide) (fun q5007 => ?_) (fun q5008 => ?_)
                · have q5007 : 2147483648 = 2147483648 := q5007
                  refine x_iinc (np := 183) (i := 2) (j := 2147483647) (v := 2147483649) (lo' := [x_r 75, iv_c 2147483652, iv_c 2147483649, w3235, iv_c 2147483648, iv_c v5002]) (by decide +kernel) (by decide) (by decide) rfl (by decide) (by first | decide | omega) (by first | decide | omega) rfl ?_
                  refine x_goto (np := 186) (x := 12) (by decide +kernel) ?_
                  exact i3254 w3235 (iv_c v5002) h3237 (by first | decide | omega) j3240 f3239 (by first | decide | omega)
                have q5008 : ¬ (2147483648 = 2147483648) := q5008
                exfalso; omega
              have q5006 : ¬ (v5002 < 2147483648) := q5006
              refine x_const (np := 148) (x := 9223372043297226753) (a := 2147483649) (by decide +kernel) (by decide) (by decide) ?_
              refine x_goto (np := 151) (x := 152) (by decide +kernel) ?_
              refine x_istore (np := 154) (x := 4) (lo' := [x_r 75, iv_c 2147483652, iv_c 2147483650, w3235, iv_c 2147483649, iv_c v5002]) (by decide +kernel) (by decide) (Nat.le_of_ble_eq_true rfl) rfl ?_
              refine x_iload (np := 156) (x := 4) (by decide +kernel) rfl (by decide) ?_
              refine x_ifz (k := 0) (tg := 180) (np := 159) (by decide +kernel) (by decide) (by decide) (fun q5009 => ?_) (fun q5010 => ?_)
              · have q5009 : 2147483649 = 2147483648 := q5009
                exfalso; omega
              have q5010 : ¬ (2147483649 = 2147483648) := q5010
              refine x_aload (np := 160) (x := 0) (by decide +kernel) rfl (x_nc_le (by decide)) ?_
              have q5011 : h3237 75 27 = 93 := by have z := jB (e := 27) 0 j3240 rg_75_27_0_1 (by decide) (by decide); omega
              refine x_getR (np := 163) (x := 731) (f := 27) (q := 93) (by decide +kernel) (by decide) (by decide +kernel) q5011 ?_
              refine x_iload (np := 164) (x := 2) (by decide +kernel) rfl (by decide) ?_
              refine x_iload (np := 166) (x := 5) (by decide +kernel) rfl l5003 ?_
              refine x_ast (np := 167) (x := 0) (kd := 1) (n := 6) (i := 2) (by decide +kernel) (Or.inl rfl) (by decide +kernel) (by first | decide | omega) (by first | decide | omega) (by decide) l5003 (fun z => absurd z (by decide)) ?_
              have j5013 := jU (e := 2) (v := v5002) 2 j3240 rg_93_0_1_6 (by first | decide | omega) (by first | decide | omega) (by first | decide | omega)
              have f5015 := jF (e := 2) (v := v5002) 2 f4987 rg_93_0_1_6 (by first | decide | omega) (by first | decide | omega) (by decide)
              have f5016 := jF (e := 2) (v := v5002) 2 f3239 rg_93_0_1_6 (by first | decide | omega) (by first | decide | omega) (by decide)
              generalize e5014 : x_up h3237 93 2 v5002 = h5012 at j5013 f5015 f5016 ⊢
              refine x_aload (np := 168) (x := 0) (by decide +kernel) rfl (x_nc_le (by decide)) ?_
              refine x_iload (np := 170) (x := 5) (by decide +kernel) rfl l5003 ?_
              refine x_const (np := 171) (x := 9223372043297226753) (a := 2147483649) (by decide +kernel) (by decide) (by decide) ?_
              refine x_cV (t := 6) (mj := 248) (n := 3) (rc := 12) (ml := 4) (nr := 0) (np := 174) (as := [x_r 75, iv_c v5002, iv_c 2147483649]) (rest := []) (lo1 := [x_r 75, iv_c v5002, iv_c 2147483649, 147573952589676412928]) (by decide +kernel) (by decide) (by decide +kernel) (x_rb_of (by decide +kernel)) rfl rfl (x_wr (by decide) (x_wi l5003 (x_wi (by decide) x_wn))) x_wn (by decide) rfl (c248_75 j5013  (by first | decide | omega) (by first | decide | omega)) (fun h5020 q5019 => ?_)
              obtain ⟨j5021, f5022⟩ := q5019
              have f5025 := Fr.trans f5015 f5022 (by decide)
              have f5026 := Fr.trans f5016 f5022 (by decide)
              refine x_iinc (np := 177) (i := 2) (j := 2147483649) (v := 2147483651) (lo' := [x_r 75, iv_c 2147483652, iv_c 2147483651, w3235, iv_c 2147483649, iv_c v5002]) (by decide +kernel) (by decide) (by decide) rfl (by decide) (by first | decide | omega) (by first | decide | omega) rfl ?_
              refine x_goto (np := 180) (x := 183) (by decide +kernel) ?_
              refine x_goto (np := 186) (x := 12) (by decide +kernel) ?_
              have q5027 : h5020 75 30 = h5012 75 30 := jK 0 f5022 rg_75_30_0_1 (by first | decide | omega) (by first | decide | omega) (by decide)
              have q5028 : h5012 75 30 = h3237 75 30 := by rw [← e5014]; exact x_up_k (by decide)
              exact i3250 w3235 (iv_c v5002) h5020 (by first | decide | omega) j5021 f5026 (by first | decide | omega)
            have q5001 : ¬ (2147483648 ≤ (h3237 94 2)) := q5001
            refine x_const (np := 132) (x := 9223372034707292159) (a := 2147483647) (by decide +kernel) (by decide) (by decide) ?_
            refine x_goto (np := 135) (x := 140) (by decide +kernel) ?_
            refine x_istore (np := 142) (x := 5) (lo' := [x_r 75, iv_c 2147483652, iv_c 2147483650, w3235, iv_c 2147483648, iv_c 2147483647]) (by decide +kernel) (by decide) (Nat.le_of_ble_eq_true rfl) rfl ?_
            refine x_iload (np := 144) (x := 5) (by decide +kernel) rfl (by decide) ?_
            refine x_ifz (k := 2) (tg := 151) (np := 147) (by decide +kernel) (by decide) (by decide) (fun q5029 => ?_) (fun q5030 => ?_)
            · have q5029 : 2147483647 < 2147483648 := q5029
              refine x_const (np := 152) (x := 9223372039002259456) (a := 2147483648) (by decide +kernel) (by decide) (by decide) ?_
              refine x_istore (np := 154) (x := 4) (lo' := [x_r 75, iv_c 2147483652, iv_c 2147483650, w3235, iv_c 2147483648, iv_c 2147483647]) (by decide +kernel) (by decide) (Nat.le_of_ble_eq_true rfl) rfl ?_
              refine x_iload (np := 156) (x := 4) (by decide +kernel) rfl (by decide) ?_
              refine x_ifz (k := 0) (tg := 180) (np := 159) (by decide +kernel) (by decide) (by decide) (fun q5031 => ?_) (fun q5032 => ?_)
              · have q5031 : 2147483648 = 2147483648 := q5031
                refine x_iinc (np := 183) (i := 2) (j := 2147483647) (v := 2147483649) (lo' := [x_r 75, iv_c 2147483652, iv_c 2147483649, w3235, iv_c 2147483648, iv_c 2147483647]) (by decide +kernel) (by decide) (by decide) rfl (by decide) (by first | decide | omega) (by first | decide | omega) rfl ?_
                refine x_goto (np := 186) (x := 12) (by decide +kernel) ?_
                exact i3254 w3235 (iv_c 2147483647) h3237 (by first | decide | omega) j3240 f3239 (by first | decide | omega)
              have q5032 : ¬ (2147483648 = 2147483648) := q5032
              exfalso; omega
            have q5030 : ¬ (2147483647 < 2147483648) := q5030
            exfalso; omega
          have q4996 : ¬ ((h3237 93 2) < 2147483648) := q4996
          refine x_aload (np := 112) (x := 0) (by decide +kernel) rfl (x_nc_le (by decide)) ?_
          refine x_aload (np := 113) (x := 0) (by decide +kernel) rfl (x_nc_le (by decide)) ?_
          have q5033 : h3237 75 27 = 93 := by have z := jB (e := 27) 0 j3240 rg_75_27_0_1 (by decide) (by decide); omega
          refine x_getR (np := 116) (x := 731) (f := 27) (q := 93) (by decide +kernel) (by decide) (by decide +kernel) q5033 ?_
          refine x_iload (np := 117) (x := 2) (by decide +kernel) rfl (by decide) ?_
          refine x_aldC (np := 118) (x := 0) (n := 6) (i := 2) (q := (h3237 93 2)) (by decide +kernel) (by decide +kernel) (by first | decide | omega) (by first | decide | omega) (by decide) rfl (fun l5034 => ?_)
          refine x_const (np := 119) (x := 9223372039002259456) (a := 2147483648) (by decide +kernel) (by decide) (by decide) ?_
          refine x_cV (t := 6) (mj := 248) (n := 3) (rc := 12) (ml := 4) (nr := 0) (np := 122) (as := [x_r 75, iv_c (h3237 93 2), iv_c 2147483648]) (rest := []) (lo1 := [x_r 75, iv_c (h3237 93 2), iv_c 2147483648, 147573952589676412928]) (by decide +kernel) (by decide) (by decide +kernel) (x_rb_of (by decide +kernel)) rfl rfl (x_wr (by decide) (x_wi l4994 (x_wi (by decide) x_wn))) x_wn (by decide) rfl (c248_75 j3240  (by first | decide | omega) (by first | decide | omega)) (fun h5038 q5037 => ?_)
          obtain ⟨j5039, f5040⟩ := q5037
          have f5043 := Fr.trans f4987 f5040 (by decide)
          have f5044 := Fr.trans f3239 f5040 (by decide)
          refine x_aload (np := 123) (x := 0) (by decide +kernel) rfl (x_nc_le (by decide)) ?_
          have q5045 : h5038 75 28 = 94 := by have z := jB (e := 28) 0 j5039 rg_75_28_0_1 (by decide) (by decide); omega
          refine x_getR (np := 126) (x := 732) (f := 28) (q := 94) (by decide +kernel) (by decide) (by decide +kernel) q5045 ?_
          refine x_iload (np := 127) (x := 2) (by decide +kernel) rfl (by decide) ?_
          have q5046 : h5038 94 2 = h3237 94 2 := jK 2 f5040 rg_94_0_1_6 (by first | decide | omega) (by first | decide | omega) (by decide)
          have b5047 := jB (e := 2) 2 j3240 rg_94_0_1_6 (by first | decide | omega) (by first | decide | omega)
          refine x_aldC (np := 128) (x := 0) (n := 6) (i := 2) (q := (h3237 94 2)) (by decide +kernel) (by decide +kernel) (by first | decide | omega) (by first | decide | omega) (by decide) q5046 (fun l5048 => ?_)
          refine x_ifz (k := 3) (tg := 135) (np := 131) (by decide +kernel) (by decide) l5048 (fun q5049 => ?_) (fun q5050 => ?_)
          · have q5049 : 2147483648 ≤ (h3237 94 2) := q5049
            refine x_aload (np := 136) (x := 0) (by decide +kernel) rfl (x_nc_le (by decide)) ?_
            refine x_iload (np := 137) (x := 2) (by decide +kernel) rfl (by decide) ?_
            have q5051 : h5038 94 2 = h3237 94 2 := jK 2 f5040 rg_94_0_1_6 (by first | decide | omega) (by first | decide | omega) (by decide)
            refine x_cP (t := 6) (mj := 257) (n := 2) (rc := 12) (ml := 3) (nr := 0) (np := 140) (as := [x_r 75, iv_c 2147483650]) (rest := []) (lo1 := [x_r 75, iv_c 2147483650, 147573952589676412928]) (by decide +kernel) (by decide) (by decide +kernel) (x_rb_of (by decide +kernel)) rfl rfl (x_wr (by decide) (x_wi (by decide) x_wn)) x_wn (by decide) rfl (c257_75_c2 j5039   (by first | decide | omega)) (fun v5052 l5053 q5054 => ?_)
            refine x_istore (np := 142) (x := 5) (lo' := [x_r 75, iv_c 2147483652, iv_c 2147483650, w3235, iv_c 2147483648, iv_c v5052]) (by decide +kernel) l5053 (Nat.le_of_ble_eq_true rfl) rfl ?_
            refine x_iload (np := 144) (x := 5) (by decide +kernel) rfl l5053 ?_
            refine x_ifz (k := 2) (tg := 151) (np := 147) (by decide +kernel) (by decide) l5053 (fun q5055 => ?_) (fun q5056 => ?_)
            · have q5055 : v5052 < 2147483648 := q5055
              refine x_const (np := 152) (x := 9223372039002259456) (a := 2147483648) (by decide +kernel) (by decide) (by decide) ?_
              refine x_istore (np := 154) (x := 4) (lo' := [x_r 75, iv_c 2147483652, iv_c 2147483650, w3235, iv_c 2147483648, iv_c v5052]) (by decide +kernel) (by decide) (Nat.le_of_ble_eq_true rfl) rfl ?_
              refine x_iload (np := 156) (x := 4) (by decide +kernel) rfl (by decide) ?_
              refine x_ifz (k := 0) (tg := 180) (np := 159) (by decide +kernel) (by decide) (by decide) (fun q5057 => ?_) (fun q5058 => ?_)
              · have q5057 : 2147483648 = 2147483648 := q5057
                refine x_iinc (np := 183) (i := 2) (j := 2147483647) (v := 2147483649) (lo' := [x_r 75, iv_c 2147483652, iv_c 2147483649, w3235, iv_c 2147483648, iv_c v5052]) (by decide +kernel) (by decide) (by decide) rfl (by decide) (by first | decide | omega) (by first | decide | omega) rfl ?_
                refine x_goto (np := 186) (x := 12) (by decide +kernel) ?_
                have q5059 : h5038 75 30 = h3237 75 30 := jK 0 f5040 rg_75_30_0_1 (by first | decide | omega) (by first | decide | omega) (by decide)
                exact i3254 w3235 (iv_c v5052) h5038 (by first | decide | omega) j5039 f5044 (by first | decide | omega)
              have q5058 : ¬ (2147483648 = 2147483648) := q5058
              exfalso; omega
            have q5056 : ¬ (v5052 < 2147483648) := q5056
            refine x_const (np := 148) (x := 9223372043297226753) (a := 2147483649) (by decide +kernel) (by decide) (by decide) ?_
            refine x_goto (np := 151) (x := 152) (by decide +kernel) ?_
            refine x_istore (np := 154) (x := 4) (lo' := [x_r 75, iv_c 2147483652, iv_c 2147483650, w3235, iv_c 2147483649, iv_c v5052]) (by decide +kernel) (by decide) (Nat.le_of_ble_eq_true rfl) rfl ?_
            refine x_iload (np := 156) (x := 4) (by decide +kernel) rfl (by decide) ?_
            refine x_ifz (k := 0) (tg := 180) (np := 159) (by decide +kernel) (by decide) (by decide) (fun q5060 => ?_) (fun q5061 => ?_)
            · have q5060 : 2147483649 = 2147483648 := q5060
              exfalso; omega
            have q5061 : ¬ (2147483649 = 2147483648) := q5061
            refine x_aload (np := 160) (x := 0) (by decide +kernel) rfl (x_nc_le (by decide)) ?_
            have q5062 : h5038 75 27 = 93 := by have z := jB (e := 27) 0 j5039 rg_75_27_0_1 (by decide) (by decide); omega
            refine x_getR (np := 163) (x := 731) (f := 27) (q := 93) (by decide +kernel) (by decide) (by decide +kernel) q5062 ?_
            refine x_iload (np := 164) (x := 2) (by decide +kernel) rfl (by decide) ?_
            refine x_iload (np := 166) (x := 5) (by decide +kernel) rfl l5053 ?_
            refine x_ast (np := 167) (x := 0) (kd := 1) (n := 6) (i := 2) (by decide +kernel) (Or.inl rfl) (by decide +kernel) (by first | decide | omega) (by first | decide | omega) (by decide) l5053 (fun z => absurd z (by decide)) ?_
            have j5064 := jU (e := 2) (v := v5052) 2 j5039 rg_93_0_1_6 (by first | decide | omega) (by first | decide | omega) (by first | decide | omega)
            have f5066 := jF (e := 2) (v := v5052) 2 f5043 rg_93_0_1_6 (by first | decide | omega) (by first | decide | omega) (by decide)
            have f5067 := jF (e := 2) (v := v5052) 2 f5044 rg_93_0_1_6 (by first | decide | omega) (by first | decide | omega) (by decide)
            generalize e5065 : x_up h5038 93 2 v5052 = h5063 at j5064 f5066 f5067 ⊢
            refine x_aload (np := 168) (x := 0) (by decide +kernel) rfl (x_nc_le (by decide)) ?_
            refine x_iload (np := 170) (x := 5) (by decide +kernel) rfl l5053 ?_
            refine x_const (np := 171) (x := 9223372043297226753) (a := 2147483649) (by decide +kernel) (by decide) (by decide) ?_
            refine x_cV (t := 6) (mj := 248) (n := 3) (rc := 12) (ml := 4) (nr := 0) (np := 174) (as := [x_r 75, iv_c v5052, iv_c 2147483649]) (rest := []) (lo1 := [x_r 75, iv_c v5052, iv_c 2147483649, 147573952589676412928]) (by decide +kernel) (by decide) (by decide +kernel) (x_rb_of (by decide +kernel)) rfl rfl (x_wr (by decide) (x_wi l5053 (x_wi (by decide) x_wn))) x_wn (by decide) rfl (c248_75 j5064  (by first | decide | omega) (by first | decide | omega)) (fun h5071 q5070 => ?_)
            obtain ⟨j5072, f5073⟩ := q5070
            have f5076 := Fr.trans f5066 f5073 (by decide)
            have f5077 := Fr.trans f5067 f5073 (by decide)
            refine x_iinc (np := 177) (i := 2) (j := 2147483649) (v := 2147483651) (lo' := [x_r 75, iv_c 2147483652, iv_c 2147483651, w3235, iv_c 2147483649, iv_c v5052]) (by decide +kernel) (by decide) (by decide) rfl (by decide) (by first | decide | omega) (by first | decide | omega) rfl ?_
            refine x_goto (np := 180) (x := 183) (by decide +kernel) ?_
            refine x_goto (np := 186) (x := 12) (by decide +kernel) ?_
            have q5078 : h5071 75 30 = h5063 75 30 := jK 0 f5073 rg_75_30_0_1 (by first | decide | omega) (by first | decide | omega) (by decide)
            have q5079 : h5063 75 30 = h5038 75 30 := by rw [← e5065]; exact x_up_k (by decide)
            have q5080 : h5038 75 30 = h3237 75 30 := jK 0 f5040 rg_75_30_0_1 (by first | decide | omega) (by first | decide | omega) (by decide)
            exact i3250 w3235 (iv_c v5052) h5071 (by first | decide | omega) j5072 f5077 (by first | decide | omega)
          have q5050 : ¬ (2147483648 ≤ (h3237 94 2)) := q5050
          refine x_const (np := 132) (x := 9223372034707292159) (a := 2147483647) (by decide +kernel) (by decide) (by decide) ?_
          refine x_goto (np := 135) (x := 140) (by decide +kernel) ?_
          refine x_istore (np := 142) (x := 5) (lo' := [x_r 75, iv_c 2147483652, iv_c 2147483650, w3235, iv_c 2147483648, iv_c 2147483647]) (by decide +kernel) (by decide) (Nat.le_of_ble_eq_true rfl) rfl ?_
          refine x_iload (np := 144) (x := 5) (by decide +kernel) rfl (by decide) ?_
          refine x_ifz (k := 2) (tg := 151) (np := 147) (by decide +kernel) (by decide) (by decide) (fun q5081 => ?_) (fun q5082 => ?_)
          · have q5081 : 2147483647 < 2147483648 := q5081
            refine x_const (np := 152) (x := 9223372039002259456) (a := 2147483648) (by decide +kernel) (by decide) (by decide) ?_
            refine x_istore (np := 154) (x := 4) (lo' := [x_r 75, iv_c 2147483652, iv_c 2147483650, w3235, iv_c 2147483648, iv_c 2147483647]) (by decide +kernel) (by decide) (Nat.le_of_ble_eq_true rfl) rfl ?_
            refine x_iload (np := 156) (x := 4) (by decide +kernel) rfl (by decide) ?_
            refine x_ifz (k := 0) (tg := 180) (np := 159) (by decide +kernel) (by decide) (by decide) (fun q5083 => ?_) (fun q5084 => ?_)
            · have q5083 : 2147483648 = 2147483648 := q5083
              refine x_iinc (np := 183) (i := 2) (j := 2147483647) (v := 2147483649) (lo' := [x_r 75, iv_c 2147483652, iv_c 2147483649, w3235, iv_c 2147483648, iv_c 2147483647]) (by decide +kernel) (by decide) (by decide) rfl (by decide) (by first | decide | omega) (by first | decide | omega) rfl ?_
              refine x_goto (np := 186) (x := 12) (by decide +kernel) ?_
              have q5085 : h5038 75 30 = h3237 75 30 := jK 0 f5040 rg_75_30_0_1 (by first | decide | omega) (by first | decide | omega) (by decide)
              exact i3254 w3235 (iv_c 2147483647) h5038 (by first | decide | omega) j5039 f5044 (by first | decide | omega)
            have q5084 : ¬ (2147483648 = 2147483648) := q5084
            exfalso; omega
          have q5082 : ¬ (2147483647 < 2147483648) := q5082
          exfalso; omega
        have q4991 : ¬ (2147483648 = 2147483648) := q4991
        exfalso; omega
      · intro w3241 w3242 h3243 q5086 j3246 f3245 b3244
        have f5087 := Fr.trans f5 f3245 (by decide)
        refine x_iload (np := 13) (x := 2) (by decide +kernel) rfl (by decide) ?_
        refine x_ifz (k := 2) (tg := 186) (np := 16) (by decide +kernel) (by decide) (by decide) (fun q5088 => ?_) (fun q5089 => ?_)
        · have q5088 : 2147483651 < 2147483648 := q5088
          exfalso; omega
        have q5089 : ¬ (2147483651 < 2147483648) := q5089
        refine x_iload (np := 18) (x := 4) (by decide +kernel) rfl (by decide) ?_
        refine x_ifz (k := 0) (tg := 102) (np := 21) (by decide +kernel) (by decide) (by decide) (fun q5090 => ?_) (fun q5091 => ?_)
        · have q5090 : 2147483648 = 2147483648 := q5090
          refine x_aload (np := 103) (x := 0) (by decide +kernel) rfl (x_nc_le (by decide)) ?_
          have q5092 : h3243 75 27 = 93 := by have z := jB (e := 27) 0 j3246 rg_75_27_0_1 (by decide) (by decide); omega
          refine x_getR (np := 106) (x := 731) (f := 27) (q := 93) (by decide +kernel) (by decide) (by decide +kernel) q5092 ?_
          refine x_iload (np := 107) (x := 2) (by decide +kernel) rfl (by decide) ?_
          have b5093 := jB (e := 3) 3 j3246 rg_93_0_1_6 (by first | decide | omega) (by first | decide | omega)
          refine x_aldC (np := 108) (x := 0) (n := 6) (i := 3) (q := (h3243 93 3)) (by decide +kernel) (by decide +kernel) (by first | decide | omega) (by first | decide | omega) (by decide) rfl (fun l5094 => ?_)
          refine x_ifz (k := 2) (tg := 122) (np := 111) (by decide +kernel) (by decide) l5094 (fun q5095 => ?_) (fun q5096 => ?_)
          · have q5095 : (h3243 93 3) < 2147483648 := q5095
            refine x_aload (np := 123) (x := 0) (by decide +kernel) rfl (x_nc_le (by decide)) ?_
            have q5097 : h3243 75 28 = 94 := by have z := jB (e := 28) 0 j3246 rg_75_28_0_1 (by decide) (by decide); omega
            refine x_getR (np := 126) (x := 732) (f := 28) (q := 94) (by decide +kernel) (by decide) (by decide +kernel) q5097 ?_
            refine x_iload (np := 127) (x := 2) (by decide +kernel) rfl (by decide) ?_
            have b5098 := jB (e := 3) 3 j3246 rg_94_0_1_6 (by first | decide | omega) (by first | decide | omega)
            refine x_aldC (np := 128) (x := 0) (n := 6) (i := 3) (q := (h3243 94 3)) (by decide +kernel) (by decide +kernel) (by first | decide | omega) (by first | decide | omega) (by decide) rfl (fun l5099 => ?_)
            refine x_ifz (k := 3) (tg := 135) (np := 131) (by decide +kernel) (by decide) l5099 (fun q5100 => ?_) (fun q5101 => ?_)
            · have q5100 : 2147483648 ≤ (h3243 94 3) := q5100
              refine x_aload (np := 136) (x := 0) (by decide +kernel) rfl (x_nc_le (by decide)) ?_
              refine x_iload (np := 137) (x := 2) (by decide +kernel) rfl (by decide) ?_
              refine x_cP (t := 6) (mj := 257) (n := 2) (rc := 12) (ml := 3) (nr := 0) (np := 140) (as := [x_r 75, iv_c 2147483651]) (rest := []) (lo1 := [x_r 75, iv_c 2147483651, 147573952589676412928]) (by decide +kernel) (by decide) (by decide +kernel) (x_rb_of (by decide +kernel)) rfl rfl (x_wr (by decide) (x_wi (by decide) x_wn)) x_wn (by decide) rfl (c257_75_c3 j3246   (by first | decide | omega)) (fun v5102 l5103 q5104 => ?_)
              refine x_istore (np := 142) (x := 5) (lo' := [x_r 75, iv_c 2147483652, iv_c 2147483651, w3241, iv_c 2147483648, iv_c v5102]) (by decide +kernel) l5103 (Nat.le_of_ble_eq_true rfl) rfl ?_
              refine x_iload (np := 144) (x := 5) (by decide +kernel) rfl l5103 ?_
              refine x_ifz (k := 2) (tg := 151) (np := 147) (by decide +kernel) (by decide) l5103 (fun q5105 => ?_) (fun q5106 => ?_)
              · have q5105 : v5102 < 2147483648 := q5105
                refine x_const (np := 152) (x := 9223372039002259456) (a := 2147483648) (by decide +kernel) (by decide) (by decide) ?_
                refine x_istore (np := 154) (x := 4) (lo' := [x_r 75, iv_c 2147483652, iv_c 2147483651, w3241, iv_c 2147483648, iv_c v5102]) (by decide +kernel) (by decide) (Nat.le_of_ble_eq_true rfl) rfl ?_
                refine x_iload (np := 156) (x := 4) (by decide +kernel) rfl (by decide) ?_
                refine x_ifz (k := 0) (tg := 180) (np := 159) (by decide +kernel) (by decide) (by decide) (fun q5107 => ?_) (fun q5108 => ?_)
                · have q5107 : 2147483648 = 2147483648 := q5107
                  refine x_iinc (np := 183) (i := 2) (j := 2147483647) (v := 2147483650) (lo' := [x_r 75, iv_c 2147483652, iv_c 2147483650, w3241, iv_c 2147483648, iv_c v5102]) (by decide +kernel) (by decide) (by decide) rfl (by decide) (by first | decide | omega) (by first | decide | omega) rfl ?_
                  refine x_goto (np := 186) (x := 12) (by decide +kernel) ?_
                  exact i3255 w3241 (iv_c v5102) h3243 (by first | decide | omega) j3246 f3245 (by first | decide | omega)
                have q5108 : ¬ (2147483648 = 2147483648) := q5108
                exfalso; omega
              have q5106 : ¬ (v5102 < 2147483648) := q5106
              refine x_const (np := 148) (x := 9223372043297226753) (a := 2147483649) (by decide +kernel) (by decide) (by decide) ?_
              refine x_goto (np := 151) (x := 152) (by decide +kernel) ?_
              refine x_istore (np := 154) (x := 4) (lo' := [x_r 75, iv_c 2147483652, iv_c 2147483651, w3241, iv_c 2147483649, iv_c v5102]) (by decide +kernel) (by decide) (Nat.le_of_ble_eq_true rfl) rfl ?_
              refine x_iload (np := 156) (x := 4) (by decide +kernel) rfl (by decide) ?_
              refine x_ifz (k := 0) (tg := 180) (np := 159) (by decide +kernel) (by decide) (by decide) (fun q5109 => ?_) (fun q5110 => ?_)
              · have q5109 : 2147483649 = 2147483648 := q5109
                exfalso; omega
              have q5110 : ¬ (2147483649 = 2147483648) := q5110
              refine x_aload (np := 160) (x := 0) (by decide +kernel) rfl (x_nc_le (by decide)) ?_
              have q5111 : h3243 75 27 = 93 := by have z := jB (e := 27) 0 j3246 rg_75_27_0_1 (by decide) (by decide); omega
              refine x_getR (np := 163) (x := 731) (f := 27) (q := 93) (by decide +kernel) (by decide) (by decide +kernel) q5111 ?_
              refine x_iload (np := 164) (x := 2) (by decide +kernel) rfl (by decide) ?_
              refine x_iload (np := 166) (x := 5) (by decide +kernel) rfl l5103 ?_
              refine x_ast (np := 167) (x := 0) (kd := 1) (n := 6) (i := 3) (by decide +kernel) (Or.inl rfl) (by decide +kernel) (by first | decide | omega) (by first | decide | omega) (by decide) l5103 (fun z => absurd z (by decide)) ?_
              have j5113 := jU (e := 3) (v := v5102) 3 j3246 rg_93_0_1_6 (by first | decide | omega) (by first | decide | omega) (by first | decide | omega)
              have f5115 := jF (e := 3) (v := v5102) 3 f5087 rg_93_0_1_6 (by first | decide | omega) (by first | decide | omega) (by decide)
              have f5116 := jF (e := 3) (v := v5102) 3 f3245 rg_93_0_1_6 (by first | decide | omega) (by first | decide | omega) (by decide)
              generalize e5114 : x_up h3243 93 3 v5102 = h5112 at j5113 f5115 f5116 ⊢
              refine x_aload (np := 168) (x := 0) (by decide +kernel) rfl (x_nc_le (by decide)) ?_
              refine x_iload (np := 170) (x := 5) (by decide +kernel) rfl l5103 ?_
              refine x_const (np := 171) (x := 9223372043297226753) (a := 2147483649) (by decide +kernel) (by decide) (by decide) ?_
              refine x_cV (t := 6) (mj := 248) (n := 3) (rc := 12) (ml := 4) (nr := 0) (np := 174) (as := [x_r 75, iv_c v5102, iv_c 2147483649]) (rest := []) (lo1 := [x_r 75, iv_c v5102, iv_c 2147483649, 147573952589676412928]) (by decide +kernel) (by decide) (by decide +kernel) (x_rb_of (by decide +kernel)) rfl rfl (x_wr (by decide) (x_wi l5103 (x_wi (by decide) x_wn))) x_wn (by decide) rfl (c248_75 j5113  (by first | decide | omega) (by first | decide | omega)) (fun h5120 q5119 => ?_)
              obtain ⟨j5121, f5122⟩ := q5119
              have f5125 := Fr.trans f5115 f5122 (by decide)
              have f5126 := Fr.trans f5116 f5122 (by decide)
              refine x_iinc (np := 177) (i := 2) (j := 2147483649) (v := 2147483652) (lo' := [x_r 75, iv_c 2147483652, iv_c 2147483652, w3241, iv_c 2147483649, iv_c v5102]) (by decide +kernel) (by decide) (by decide) rfl (by decide) (by first | decide | omega) (by first | decide | omega) rfl ?_
              refine x_goto (np := 180) (x := 183) (by decide +kernel) ?_
              refine x_goto (np := 186) (x := 12) (by decide +kernel) ?_
              have q5127 : h5120 75 30 = h5112 75 30 := jK 0 f5122 rg_75_30_0_1 (by first | decide | omega) (by first | decide | omega) (by decide)
              have q5128 : h5112 75 30 = h3243 75 30 := by rw [← e5114]; exact x_up_k (by decide)
              exact i3251 w3241 (iv_c v5102) h5120 (by first | decide | omega) j5121 f5126 (by first | decide | omega)
            have q5101 : ¬ (2147483648 ≤ (h3243 94 3)) := q5101
            refine x_const (np := 132) (x := 9223372034707292159) (a := 2147483647) (by decide +kernel) (by decide) (by decide) ?_
            refine x_goto (np := 135) (x := 140) (by decide +kernel) ?_
            refine x_istore (np := 142) (x := 5) (lo' := [x_r 75, iv_c 2147483652, iv_c 2147483651, w3241, iv_c 2147483648, iv_c 2147483647]) (by decide +kernel) (by decide) (Nat.le_of_ble_eq_true rfl) rfl ?_
            refine x_iload (np := 144) (x := 5) (by decide +kernel) rfl (by decide) ?_
            refine x_ifz (k := 2) (tg := 151) (np := 147) (by decide +kernel) (by decide) (by decide) (fun q5129 => ?_) (fun q5130 => ?_)
            · have q5129 : 2147483647 < 2147483648 := q5129
              refine x_const (np := 152) (x := 9223372039002259456) (a := 2147483648) (by decide +kernel) (by decide) (by decide) ?_
              refine x_istore (np := 154) (x := 4) (lo' := [x_r 75, iv_c 2147483652, iv_c 2147483651, w3241, iv_c 2147483648, iv_c 2147483647]) (by decide +kernel) (by decide) (Nat.le_of_ble_eq_true rfl) rfl ?_
              refine x_iload (np := 156) (x := 4) (by decide +kernel) rfl (by decide) ?_
              refine x_ifz (k := 0) (tg := 180) (np := 159) (by decide +kernel) (by decide) (by decide) (fun q5131 => ?_) (fun q5132 => ?_)
              · have q5131 : 2147483648 = 2147483648 := q5131
                refine x_iinc (np := 183) (i := 2) (j := 2147483647) (v := 2147483650) (lo' := [x_r 75, iv_c 2147483652, iv_c 2147483650, w3241, iv_c 2147483648, iv_c 2147483647]) (by decide +kernel) (by decide) (by decide) rfl (by decide) (by first | decide | omega) (by first | decide | omega) rfl ?_
                refine x_goto (np := 186) (x := 12) (by decide +kernel) ?_
                exact i3255 w3241 (iv_c 2147483647) h3243 (by first | decide | omega) j3246 f3245 (by first | decide | omega)
              have q5132 : ¬ (2147483648 = 2147483648) := q5132
              exfalso; omega
            have q5130 : ¬ (2147483647 < 2147483648) := q5130
            exfalso; omega
          have q5096 : ¬ ((h3243 93 3) < 2147483648) := q5096
          refine x_aload (np := 112) (x := 0) (by decide +kernel) rfl (x_nc_le (by decide)) ?_
          refine x_aload (np := 113) (x := 0) (by decide +kernel) rfl (x_nc_le (by decide)) ?_
          have q5133 : h3243 75 27 = 93 := by have z := jB (e := 27) 0 j3246 rg_75_27_0_1 (by decide) (by decide); omega
          refine x_getR (np := 116) (x := 731) (f := 27) (q := 93) (by decide +kernel) (by decide) (by decide +kernel) q5133 ?_
          refine x_iload (np := 117) (x := 2) (by decide +kernel) rfl (by decide) ?_
          refine x_aldC (np := 118) (x := 0) (n := 6) (i := 3) (q := (h3243 93 3)) (by decide +kernel) (by decide +kernel) (by first | decide | omega) (by first | decide | omega) (by decide) rfl (fun l5134 => ?_)
          refine x_const (np := 119) (x := 9223372039002259456) (a := 2147483648) (by decide +kernel) (by decide) (by decide) ?_
          refine x_cV (t := 6) (mj := 248) (n := 3) (rc := 12) (ml := 4) (nr := 0) (np := 122) (as := [x_r 75, iv_c (h3243 93 3), iv_c 2147483648]) (rest := []) (lo1 := [x_r 75, iv_c (h3243 93 3), iv_c 2147483648, 147573952589676412928]) (by decide +kernel) (by decide) (by decide +kernel) (x_rb_of (by decide +kernel)) rfl rfl (x_wr (by decide) (x_wi l5094 (x_wi (by decide) x_wn))) x_wn (by decide) rfl (c248_75 j3246  (by first | decide | omega) (by first | decide | omega)) (fun h5138 q5137 => ?_)
          obtain ⟨j5139, f5140⟩ := q5137
          have f5143 := Fr.trans f5087 f5140 (by decide)
          have f5144 := Fr.trans f3245 f5140 (by decide)
          refine x_aload (np := 123) (x := 0) (by decide +kernel) rfl (x_nc_le (by decide)) ?_
          have q5145 : h5138 75 28 = 94 := by have z := jB (e := 28) 0 j5139 rg_75_28_0_1 (by decide) (by decide); omega
          refine x_getR (np := 126) (x := 732) (f := 28) (q := 94) (by decide +kernel) (by decide) (by decide +kernel) q5145 ?_
          refine x_iload (np := 127) (x := 2) (by decide +kernel) rfl (by decide) ?_
          have q5146 : h5138 94 3 = h3243 94 3 := jK 3 f5140 rg_94_0_1_6 (by first | decide | omega) (by first | decide | omega) (by decide)
          have b5147 := jB (e := 3) 3 j3246 rg_94_0_1_6 (by first | decide | omega) (by first | decide | omega)
          refine x_aldC (np := 128) (x := 0) (n := 6) (i := 3) (q := (h3243 94 3)) (by decide +kernel) (by decide +kernel) (by first | decide | omega) (by first | decide | omega) (by decide) q5146 (fun l5148 => ?_)
          refine x_ifz (k := 3) (tg := 135) (np := 131) (by decide +kernel) (by decide) l5148 (fun q5149 => ?_) (fun q5150 => ?_)
          · have q5149 : 2147483648 ≤ (h3243 94 3) := q5149
            refine x_aload (np := 136) (x := 0) (by decide +kernel) rfl (x_nc_le (by decide)) ?_
            refine x_iload (np := 137) (x := 2) (by decide +kernel) rfl (by decide) ?_
            have q5151 : h5138 94 3 = h3243 94 3 := jK 3 f5140 rg_94_0_1_6 (by first | decide | omega) (by first | decide | omega) (by decide)
            refine x_cP (t := 6) (mj := 257) (n := 2) (rc := 12) (ml := 3) (nr := 0) (np := 140) (as := [x_r 75, iv_c 2147483651]) (rest := []) (lo1 := [x_r 75, iv_c 2147483651, 147573952589676412928]) (by decide +kernel) (by decide) (by decide +kernel) (x_rb_of (by decide +kernel)) rfl rfl (x_wr (by decide) (x_wi (by decide) x_wn)) x_wn (by decide) rfl (c257_75_c3 j5139   (by first | decide | omega)) (fun v5152 l5153 q5154 => ?_)
            refine x_istore (np := 142) (x := 5) (lo' := [x_r 75, iv_c 2147483652, iv_c 2147483651, w3241, iv_c 2147483648, iv_c v5152]) (by decide +kernel) l5153 (Nat.le_of_ble_eq_true rfl) rfl ?_
            refine x_iload (np := 144) (x := 5) (by decide +kernel) rfl l5153 ?_
            refine x_ifz (k := 2) (tg := 151) (np := 147) (by decide +kernel) (by decide) l5153 (fun q5155 => ?_) (fun q5156 => ?_)
            · have q5155 : v5152 < 2147483648 := q5155
              refine x_const (np := 152) (x := 9223372039002259456) (a := 2147483648) (by decide +kernel) (by decide) (by decide) ?_
              refine x_istore (np := 154) (x := 4) (lo' := [x_r 75, iv_c 2147483652, iv_c 2147483651, w3241, iv_c 2147483648, iv_c v5152]) (by decide +kernel) (by decide) (Nat.le_of_ble_eq_true rfl) rfl ?_
              refine x_iload (np := 156) (x := 4) (by decide +kernel) rfl (by decide) ?_
              refine x_ifz (k := 0) (tg := 180) (np := 159) (by decide +kernel) (by decide) (by decide) (fun q5157 => ?_) (fun q5158 => ?_)
              · have q5157 : 2147483648 = 2147483648 := q5157
                refine x_iinc (np := 183) (i := 2) (j := 2147483647) (v := 2147483650) (lo' := [x_r 75, iv_c 2147483652, iv_c 2147483650, w3241, iv_c 2147483648, iv_c v5152]) (by decide +kernel) (by decide) (by decide) rfl (by decide) (by first | decide | omega) (by first | decide | omega) rfl ?_
                refine x_goto (np := 186) (x := 12) (by decide +kernel) ?_
                have q5159 : h5138 75 30 = h3243 75 30 := jK 0 f5140 rg_75_30_0_1 (by first | decide | omega) (by first | decide | omega) (by decide)
                exact i3255 w3241 (iv_c v5152) h5138 (by first | decide | omega) j5139 f5144 (by first | decide | omega)
              have q5158 : ¬ (2147483648 = 2147483648) := q5158
              exfalso; omega
            have q5156 : ¬ (v5152 < 2147483648) := q5156
            refine x_const (np := 148) (x := 9223372043297226753) (a := 2147483649) (by decide +kernel) (by decide) (by decide) ?_
            refine x_goto (np := 151) (x := 152) (by decide +kernel) ?_
            refine x_istore (np := 154) (x := 4) (lo' := [x_r 75, iv_c 2147483652, iv_c 2147483651, w3241, iv_c 2147483649, iv_c v5152]) (by decide +kernel) (by decide) (Nat.le_of_ble_eq_true rfl) rfl ?_
            refine x_iload (np := 156) (x := 4) (by decide +kernel) rfl (by decide) ?_
            refine x_ifz (k := 0) (tg := 180) (np := 159) (by decide +kernel) (by decide) (by decide) (fun q5160 => ?_) (fun q5161 => ?_)
            · have q5160 : 2147483649 = 2147483648 := q5160
              exfalso; omega
            have q5161 : ¬ (2147483649 = 2147483648) := q5161
            refine x_aload (np := 160) (x := 0) (by decide +kernel) rfl (x_nc_le (by decide)) ?_
            have q5162 : h5138 75 27 = 93 := by have z := jB (e := 27) 0 j5139 rg_75_27_0_1 (by decide) (by decide); omega
            refine x_getR (np := 163) (x := 731) (f := 27) (q := 93) (by decide +kernel) (by decide) (by decide +kernel) q5162 ?_
            refine x_iload (np := 164) (x := 2) (by decide +kernel) rfl (by decide) ?_
            refine x_iload (np := 166) (x := 5) (by decide +kernel) rfl l5153 ?_
            refine x_ast (np := 167) (x := 0) (kd := 1) (n := 6) (i := 3) (by decide +kernel) (Or.inl rfl) (by decide +kernel) (by first | decide | omega) (by first | decide | omega) (by decide) l5153 (fun z => absurd z (by decide)) ?_
            have j5164 := jU (e := 3) (v := v5152) 3 j5139 rg_93_0_1_6 (by first | decide | omega) (by first | decide | omega) (by first | decide | omega)
            have f5166 := jF (e := 3) (v := v5152) 3 f5143 rg_93_0_1_6 (by first | decide | omega) (by first | decide | omega) (by decide)
            have f5167 := jF (e := 3) (v := v5152) 3 f5144 rg_93_0_1_6 (by first | decide | omega) (by first | decide | omega) (by decide)
            generalize e5165 : x_up h5138 93 3 v5152 = h5163 at j5164 f5166 f5167 ⊢
            refine x_aload (np := 168) (x := 0) (by decide +kernel) rfl (x_nc_le (by decide)) ?_
            refine x_iload (np := 170) (x := 5) (by decide +kernel) rfl l5153 ?_
            refine x_const (np := 171) (x := 9223372043297226753) (a := 2147483649) (by decide +kernel) (by decide) (by decide) ?_
            refine x_cV (t := 6) (mj := 248) (n := 3) (rc := 12) (ml := 4) (nr := 0) (np := 174) (as := [x_r 75, iv_c v5152, iv_c 2147483649]) (rest := []) (lo1 := [x_r 75, iv_c v5152, iv_c 2147483649, 147573952589676412928]) (by decide +kernel) (by decide) (by decide +kernel) (x_rb_of (by decide +kernel)) rfl rfl (x_wr (by decide) (x_wi l5153 (x_wi (by decide) x_wn))) x_wn (by decide) rfl (c248_75 j5164  (by first | decide | omega) (by first | decide | omega)) (fun h5171 q5170 => ?_)
            obtain ⟨j5172, f5173⟩ := q5170
            have f5176 := Fr.trans f5166 f5173 (by decide)
            have f5177 := Fr.trans f5167 f5173 (by decide)
            refine x_iinc (np := 177) (i := 2) (j := 2147483649) (v := 2147483652) (lo' := [x_r 75, iv_c 2147483652, iv_c 2147483652, w3241, iv_c 2147483649, iv_c v5152]) (by decide +kernel) (by decide) (by decide) rfl (by decide) (by first | decide | omega) (by first | decide | omega) rfl ?_
            refine x_goto (np := 180) (x := 183) (by decide +kernel) ?_
            refine x_goto (np := 186) (x := 12) (by decide +kernel) ?_
            have q5178 : h5171 75 30 = h5163 75 30 := jK 0 f5173 rg_75_30_0_1 (by first | decide | omega) (by first | decide | omega) (by decide)
            have q5179 : h5163 75 30 = h5138 75 30 := by rw [← e5165]; exact x_up_k (by decide)
            have q5180 : h5138 75 30 = h3243 75 30 := jK 0 f5140 rg_75_30_0_1 (by first | decide | omega) (by first | decide | omega) (by decide)
            exact i3251 w3241 (iv_c v5152) h5171 (by first | decide | omega) j5172 f5177 (by first | decide | omega)
          have q5150 : ¬ (2147483648 ≤ (h3243 94 3)) := q5150
          refine x_const (np := 132) (x := 9223372034707292159) (a := 2147483647) (by decide +kernel) (by decide) (by decide) ?_
          refine x_goto (np := 135) (x := 140) (by decide +kernel) ?_
          refine x_istore (np := 142) (x := 5) (lo' := [x_r 75, iv_c 2147483652, iv_c 2147483651, w3241, iv_c 2147483648, iv_c 2147483647]) (by decide +kernel) (by decide) (Nat.le_of_ble_eq_true rfl) rfl ?_
          refine x_iload (np := 144) (x := 5) (by decide +kernel) rfl (by decide) ?_
          refine x_ifz (k := 2) (tg := 151) (np := 147) (by decide +kernel) (by decide) (by decide) (fun q5181 => ?_) (fun q5182 => ?_)
          · have q5181 : 2147483647 < 2147483648 := q5181
            refine x_const (np := 152) (x := 9223372039002259456) (a := 2147483648) (by decide +kernel) (by decide) (by decide) ?_
            refine x_istore (np := 154) (x := 4) (lo' := [x_r 75, iv_c 2147483652, iv_c 2147483651, w3241, iv_c 2147483648, iv_c 2147483647]) (by decide +kernel) (by decide) (Nat.le_of_ble_eq_true rfl) rfl ?_
            refine x_iload (np := 156) (x := 4) (by decide +kernel) rfl (by decide) ?_
            refine x_ifz (k := 0) (tg := 180) (np := 159) (by decide +kernel) (by decide) (by decide) (fun q5183 => ?_) (fun q5184 => ?_)
            · have q5183 : 2147483648 = 2147483648 := q5183
              refine x_iinc (np := 183) (i := 2) (j := 2147483647) (v := 2147483650) (lo' := [x_r 75, iv_c 2147483652, iv_c 2147483650, w3241, iv_c 2147483648, iv_c 2147483647]) (by decide +kernel) (by decide) (by decide) rfl (by decide) (by first | decide | omega) (by first | decide | omega) rfl ?_
              refine x_goto (np := 186) (x := 12) (by decide +kernel) ?_
              have q5185 : h5138 75 30 = h3243 75 30 := jK 0 f5140 rg_75_30_0_1 (by first | decide | omega) (by first | decide | omega) (by decide)
              exact i3255 w3241 (iv_c 2147483647) h5138 (by first | decide | omega) j5139 f5144 (by first | decide | omega)
            have q5184 : ¬ (2147483648 = 2147483648) := q5184
            exfalso; omega
          have q5182 : ¬ (2147483647 < 2147483648) := q5182
          exfalso; omega
        have q5091 : ¬ (2147483648 = 2147483648) := q5091
        exfalso; omega
  have q5186 : h2 75 30 = h 75 30 := by rw [← e4]; exact x_up_i (by first | decide | omega)
  exact (p3185 _).1 (iv_c 2147483648) 147573952589676412928 h2 (Nat.lt_succ_self _) j3 (Fr.refl _ _) (by first | decide | omega)
