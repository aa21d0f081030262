/-! ===== methods ===== -/
set_option maxHeartbeats 0 in
/-- LentNamesModel.isAsked(II)Z -/
theorem c256_75_c2 {sc : Nat × Nat} {d a2 : Nat} {h : xh} (hJ : J h) (ba2 : 2147483648 ≤ a2 ∧ a2 ≤ 2147488831) (hr0 : 2147483648 ≤ (h 94 2)) : X sc 256 (d + 3) (xI fun r h' => h' = h ∧ (2147483648 ≤ r ∧ r ≤ 2147483649)) 0 0 0 [x_r 75, iv_c 2147483650, iv_c a2, 147573952589676412928, 147573952589676412928, 147573952589676412928, 147573952589676412928, 147573952589676412928] [] h := by
  have la2 : a2 < 4294967296 := by first | decide | omega
  have b1 := jB (e := 2) 2 hJ rg_94_0_1_6 (by first | decide | omega) (by first | decide | omega)
  refine x_iload (np := 1) (x := 2) (by decide +kernel) rfl la2 ?_
  refine x_nI (t := 0) (mj := 242) (n := 1) (rc := 0) (ml := 1) (nr := 0) (np := 4) (as := [iv_c a2]) (rest := []) (lo1 := [iv_c a2]) (by decide +kernel) (by decide) (by decide +kernel) (Or.inl rfl) rfl rfl (x_wi la2 x_wn) x_wn (by decide) rfl ?_
  refine x_iload (np := 1) (x := 0) (by decide +kernel) rfl la2 ?_
  refine x_const (np := 4) (x := 9223375749854004064) (a := 2147484512) (by decide +kernel) (by decide) (by decide) ?_
  obtain ⟨u2, q3⟩ : ∃ z, a2 = 2147483648 + z := ⟨a2 - 2147483648, by first | decide | omega⟩
  obtain ⟨u4, q5⟩ : ∃ z, z = u2 / 864 := ⟨_, rfl⟩
  refine x_div (np := 5) (i := u2) (j := 864) (by decide +kernel) (by first | decide | omega) (by decide) (by first | decide | omega) (by decide) ?_
  rw [← q5]
  refine x_retI (np := 6) (x := 0) (by decide +kernel) (by first | decide | omega) (Or.inl (by decide +kernel)) ⟨_, rfl, (by first | decide | omega), ?_⟩
  refine x_istore (np := 5) (x := 3) (lo' := [x_r 75, iv_c 2147483650, iv_c a2, iv_c (2147483648 + u4), 147573952589676412928, 147573952589676412928, 147573952589676412928, 147573952589676412928]) (by decide +kernel) (by first | decide | omega) (Nat.le_of_ble_eq_true rfl) rfl ?_
  refine x_iload (np := 6) (x := 2) (by decide +kernel) rfl la2 ?_
  refine x_nI (t := 0) (mj := 243) (n := 1) (rc := 0) (ml := 1) (nr := 0) (np := 9) (as := [iv_c a2]) (rest := []) (lo1 := [iv_c a2]) (by decide +kernel) (by decide) (by decide +kernel) (Or.inl rfl) rfl rfl (x_wi la2 x_wn) x_wn (by decide) rfl ?_
  refine x_iload (np := 1) (x := 0) (by decide +kernel) rfl la2 ?_
  refine x_const (np := 4) (x := 9223372657477550224) (a := 2147483792) (by decide +kernel) (by decide) (by decide) ?_
  obtain ⟨u6, q7⟩ : ∃ z, z = u2 / 144 := ⟨_, rfl⟩
  refine x_div (np := 5) (i := u2) (j := 144) (by decide +kernel) (by first | decide | omega) (by decide) (by first | decide | omega) (by decide) ?_
  rw [← q7]
  refine x_const (np := 7) (x := 9223372064772063238) (a := 2147483654) (by decide +kernel) (by decide) (by decide) ?_
  obtain ⟨u8, q9⟩ : ∃ z, z = u6 % 6 := ⟨_, rfl⟩
  refine x_rem (np := 8) (i := u6) (j := 6) (by decide +kernel) (by first | decide | omega) (by decide) (by first | decide | omega) (by decide) ?_
  rw [← q9]
  refine x_retI (np := 9) (x := 0) (by decide +kernel) (by first | decide | omega) (Or.inl (by decide +kernel)) ⟨_, rfl, (by first | decide | omega), ?_⟩
  refine x_istore (np := 11) (x := 4) (lo' := [x_r 75, iv_c 2147483650, iv_c a2, iv_c (2147483648 + u4), iv_c (2147483648 + u8), 147573952589676412928, 147573952589676412928, 147573952589676412928]) (by decide +kernel) (by first | decide | omega) (Nat.le_of_ble_eq_true rfl) rfl ?_
  refine x_iload (np := 12) (x := 2) (by decide +kernel) rfl la2 ?_
  refine x_nI (t := 0) (mj := 244) (n := 1) (rc := 0) (ml := 1) (nr := 0) (np := 15) (as := [iv_c a2]) (rest := []) (lo1 := [iv_c a2]) (by decide +kernel) (by decide) (by decide +kernel) (Or.inl rfl) rfl rfl (x_wi la2 x_wn) x_wn (by decide) rfl ?_
  refine x_iload (np := 1) (x := 0) (by decide +kernel) rfl la2 ?_
  refine x_const (np := 3) (x := 9223372090541867020) (a := 2147483660) (by decide +kernel) (by decide) (by decide) ?_
  obtain ⟨u10, q11⟩ : ∃ z, z = u2 / 12 := ⟨_, rfl⟩
  refine x_div (np := 4) (i := u2) (j := 12) (by decide +kernel) (by first | decide | omega) (by decide) (by first | decide | omega) (by decide) ?_
  rw [← q11]
  refine x_const (np := 6) (x := 9223372090541867020) (a := 2147483660) (by decide +kernel) (by decide) (by decide) ?_
  obtain ⟨u12, q13⟩ : ∃ z, z = u10 % 12 := ⟨_, rfl⟩
  refine x_rem (np := 7) (i := u10) (j := 12) (by decide +kernel) (by first | decide | omega) (by decide) (by first | decide | omega) (by decide) ?_
  rw [← q13]
  refine x_retI (np := 8) (x := 0) (by decide +kernel) (by first | decide | omega) (Or.inl (by decide +kernel)) ⟨_, rfl, (by first | decide | omega), ?_⟩
  refine x_istore (np := 17) (x := 5) (lo' := [x_r 75, iv_c 2147483650, iv_c a2, iv_c (2147483648 + u4), iv_c (2147483648 + u8), iv_c (2147483648 + u12), 147573952589676412928, 147573952589676412928]) (by decide +kernel) (by first | decide | omega) (Nat.le_of_ble_eq_true rfl) rfl ?_
  refine x_iload (np := 18) (x := 2) (by decide +kernel) rfl la2 ?_
  refine x_nI (t := 0) (mj := 245) (n := 1) (rc := 0) (ml := 1) (nr := 0) (np := 21) (as := [iv_c a2]) (rest := []) (lo1 := [iv_c a2]) (by decide +kernel) (by decide) (by decide +kernel) (Or.inl rfl) rfl rfl (x_wi la2 x_wn) x_wn (by decide) rfl ?_
  refine x_iload (np := 1) (x := 0) (by decide +kernel) rfl la2 ?_
  refine x_const (np := 3) (x := 9223372090541867020) (a := 2147483660) (by decide +kernel) (by decide) (by decide) ?_
  obtain ⟨u14, q15⟩ : ∃ z, z = u2 % 12 := ⟨_, rfl⟩
  refine x_rem (np := 4) (i := u2) (j := 12) (by decide +kernel) (by first | decide | omega) (by decide) (by first | decide | omega) (by decide) ?_
  rw [← q15]
  refine x_retI (np := 5) (x := 0) (by decide +kernel) (by first | decide | omega) (Or.inl (by decide +kernel)) ⟨_, rfl, (by first | decide | omega), ?_⟩
  refine x_istore (np := 23) (x := 6) (lo' := [x_r 75, iv_c 2147483650, iv_c a2, iv_c (2147483648 + u4), iv_c (2147483648 + u8), iv_c (2147483648 + u12), iv_c (2147483648 + u14), 147573952589676412928]) (by decide +kernel) (by first | decide | omega) (Nat.le_of_ble_eq_true rfl) rfl ?_
  refine x_aload (np := 24) (x := 0) (by decide +kernel) rfl (x_nc_le (by decide)) ?_
  have q16 : h 75 28 = 94 := by have z := jB (e := 28) 0 hJ rg_75_28_0_1 (by decide) (by decide); omega
  refine x_getR (np := 27) (x := 732) (f := 28) (q := 94) (by decide +kernel) (by decide) (by decide +kernel) q16 ?_
  refine x_iload (np := 28) (x := 1) (by decide +kernel) rfl (by decide) ?_
  refine x_aldC (np := 29) (x := 0) (n := 6) (i := 2) (q := (h 94 2)) (by decide +kernel) (by decide +kernel) (by first | decide | omega) (by first | decide | omega) (by decide) rfl (fun l17 => ?_)
  refine x_istore (np := 31) (x := 7) (lo' := [x_r 75, iv_c 2147483650, iv_c a2, iv_c (2147483648 + u4), iv_c (2147483648 + u8), iv_c (2147483648 + u12), iv_c (2147483648 + u14), iv_c (h 94 2)]) (by decide +kernel) l17 (Nat.le_of_ble_eq_true rfl) rfl ?_
  refine x_aload (np := 32) (x := 0) (by decide +kernel) rfl (x_nc_le (by decide)) ?_
  have b18 := jB (e := 33) 0 hJ rg_75_33_0_1 (by first | decide | omega) (by first | decide | omega)
  refine x_getC (np := 35) (x := 737) (f := 33) (q := (h 75 33)) (by decide +kernel) (by decide) (by decide +kernel) rfl (fun l19 => ?_)
  refine x_ifz (k := 1) (tg := 108) (np := 38) (by decide +kernel) (by decide) l19 (fun q20 => ?_) (fun q21 => ?_)
  · have q20 : (h 75 33) ≠ 2147483648 := q20
    refine x_iload (np := 110) (x := 7) (by decide +kernel) rfl l17 ?_
    refine x_const (np := 112) (x := 9223372468498989156) (a := 2147483748) (by decide +kernel) (by decide) (by decide) ?_
    refine x_icmp (k := 3) (tg := 161) (np := 115) (by decide +kernel) (by decide) l17 (by decide) (fun q22 => ?_) (fun q23 => ?_)
    · have q22 : 2147483748 ≤ (h 94 2) := q22
      refine x_iload (np := 163) (x := 4) (by decide +kernel) rfl (by first | decide | omega) ?_
      refine x_iload (np := 165) (x := 7) (by decide +kernel) rfl l17 ?_
      refine x_const (np := 167) (x := 9223372468498989156) (a := 2147483748) (by decide +kernel) (by decide) (by decide) ?_
      obtain ⟨v24, q25⟩ : ∃ z, z + 2147483748 = (h 94 2) + 2147483648 := ⟨(h 94 2) + 2147483648 - 2147483748, by first | decide | omega⟩
      refine x_isub (np := 168) (x := 0) (v := v24) (by decide +kernel) l17 (by decide) (by first | decide | omega) (by first | decide | omega) ?_
      refine x_icmp (k := 1) (tg := 202) (np := 171) (by decide +kernel) (by decide) (by first | decide | omega) (by first | decide | omega) (fun q26 => ?_) (fun q27 => ?_)
      · have q26 : (2147483648 + u8) ≠ v24 := q26
        refine x_const (np := 203) (x := 9223372039002259456) (a := 2147483648) (by decide +kernel) (by decide) (by decide) ?_
        refine x_retI (np := 204) (x := 0) (by decide +kernel) (by decide) (Or.inr ⟨by decide +kernel, by first | decide | omega, by first | decide | omega⟩) ⟨_, rfl, (by decide), ?_⟩
        exact ⟨rfl, (by first | decide | omega)⟩
      have q27 : ¬ ((2147483648 + u8) ≠ v24) := q27
      refine x_iload (np := 173) (x := 6) (by decide +kernel) rfl (by first | decide | omega) ?_
      refine x_aload (np := 174) (x := 0) (by decide +kernel) rfl (x_nc_le (by decide)) ?_
      have q28 : h 75 29 = 95 := by have z := jB (e := 29) 0 hJ rg_75_29_0_1 (by decide) (by decide); omega
      refine x_getR (np := 177) (x := 733) (f := 29) (q := 95) (by decide +kernel) (by decide) (by decide +kernel) q28 ?_
      refine x_iload (np := 178) (x := 1) (by decide +kernel) rfl (by decide) ?_
      have b29 := jB (e := 2) 2 hJ rg_95_0_1_6 (by first | decide | omega) (by first | decide | omega)
      refine x_aldC (np := 179) (x := 0) (n := 6) (i := 2) (q := (h 95 2)) (by decide +kernel) (by decide +kernel) (by first | decide | omega) (by first | decide | omega) (by decide) rfl (fun l30 => ?_)
      refine x_aload (np := 180) (x := 0) (by decide +kernel) rfl (x_nc_le (by decide)) ?_
      have b31 := jB (e := 31) 0 hJ rg_75_31_0_1 (by first | decide | omega) (by first | decide | omega)
      refine x_getC (np := 183) (x := 735) (f := 31) (q := (h 75 31)) (by decide +kernel) (by decide) (by decide +kernel) rfl (fun l32 => ?_)
      obtain ⟨v33, q34⟩ : ∃ z, z + (h 75 31) = (h 95 2) + 2147483648 := ⟨(h 95 2) + 2147483648 - (h 75 31), by first | decide | omega⟩
      refine x_isub (np := 184) (x := 0) (v := v33) (by decide +kernel) l30 l32 (by first | decide | omega) (by first | decide | omega) ?_
      refine x_icmp (k := 2) (tg := 202) (np := 187) (by decide +kernel) (by decide) (by first | decide | omega) (by first | decide | omega) (fun q35 => ?_) (fun q36 => ?_)
      · have q35 : (2147483648 + u14) < v33 := q35
        refine x_const (np := 203) (x := 9223372039002259456) (a := 2147483648) (by decide +kernel) (by decide) (by decide) ?_
        refine x_retI (np := 204) (x := 0) (by decide +kernel) (by decide) (Or.inr ⟨by decide +kernel, by first | decide | omega, by first | decide | omega⟩) ⟨_, rfl, (by decide), ?_⟩
        exact ⟨rfl, (by first | decide | omega)⟩
      have q36 : ¬ ((2147483648 + u14) < v33) := q36
      refine x_iload (np := 189) (x := 5) (by decide +kernel) rfl (by first | decide | omega) ?_
      refine x_aload (np := 190) (x := 0) (by decide +kernel) rfl (x_nc_le (by decide)) ?_
      have q37 : h 75 29 = 95 := by have z := jB (e := 29) 0 hJ rg_75_29_0_1 (by decide) (by decide); omega
      refine x_getR (np := 193) (x := 733) (f := 29) (q := 95) (by decide +kernel) (by decide) (by decide +kernel) q37 ?_
      refine x_iload (np := 194) (x := 1) (by decide +kernel) rfl (by decide) ?_
      refine x_aldC (np := 195) (x := 0) (n := 6) (i := 2) (q := (h 95 2)) (by decide +kernel) (by decide +kernel) (by first | decide | omega) (by first | decide | omega) (by decide) rfl (fun l38 => ?_)
      refine x_icmp (k := 4) (tg := 202) (np := 198) (by decide +kernel) (by decide) (by first | decide | omega) l30 (fun q39 => ?_) (fun q40 => ?_)
      · have q39 : (h 95 2) < (2147483648 + u12) := q39
        refine x_const (np := 203) (x := 9223372039002259456) (a := 2147483648) (by decide +kernel) (by decide) (by decide) ?_
        refine x_retI (np := 204) (x := 0) (by decide +kernel) (by decide) (Or.inr ⟨by decide +kernel, by first | decide | omega, by first | decide | omega⟩) ⟨_, rfl, (by decide), ?_⟩
        exact ⟨rfl, (by first | decide | omega)⟩
      have q40 : ¬ ((h 95 2) < (2147483648 + u12)) := q40
      refine x_const (np := 199) (x := 9223372043297226753) (a := 2147483649) (by decide +kernel) (by decide) (by decide) ?_
      refine x_goto (np := 202) (x := 203) (by decide +kernel) ?_
      refine x_retI (np := 204) (x := 0) (by decide +kernel) (by decide) (Or.inr ⟨by decide +kernel, by first | decide | omega, by first | decide | omega⟩) ⟨_, rfl, (by decide), ?_⟩
      exact ⟨rfl, (by first | decide | omega)⟩
    have q23 : ¬ (2147483748 ≤ (h 94 2)) := q23
    refine x_iload (np := 116) (x := 3) (by decide +kernel) rfl (by first | decide | omega) ?_
    refine x_aload (np := 117) (x := 0) (by decide +kernel) rfl (x_nc_le (by decide)) ?_
    refine x_iload (np := 119) (x := 7) (by decide +kernel) rfl l17 ?_
    refine x_const (np := 120) (x := 9223372039002259456) (a := 2147483648) (by decide +kernel) (by decide) (by decide) ?_
    refine x_nI (t := 6) (mj := 162) (n := 3) (rc := 12) (ml := 3) (nr := 1) (np := 123) (as := [x_r 75, iv_c (h 94 2), iv_c 2147483648]) (rest := [iv_c (2147483648 + u4)]) (lo1 := [x_r 75, iv_c (h 94 2), iv_c 2147483648]) (by decide +kernel) (by decide) (by decide +kernel) (x_rb_of (by decide +kernel)) rfl rfl (x_wr (by decide) (x_wi l17 (x_wi (by decide) x_wn))) (x_wi (by first | decide | omega) x_wn) (by decide) rfl ?_
    refine x_aload (np := 1) (x := 0) (by decide +kernel) rfl (x_nc_le (by decide)) ?_
    have q41 : h 75 1 = 76 := by have z := jB (e := 1) 0 hJ rg_75_1_0_1 (by decide) (by decide); omega
    refine x_getR (np := 4) (x := 705) (f := 1) (q := 76) (by decide +kernel) (by decide) (by decide +kernel) q41 ?_
    refine x_const (np := 7) (x := 9223372726197026976) (a := 2147483808) (by decide +kernel) (by decide) (by decide) ?_
    refine x_const (np := 8) (x := 9223372056182128644) (a := 2147483652) (by decide +kernel) (by decide) (by decide) ?_
    refine x_iload (np := 9) (x := 1) (by decide +kernel) rfl l17 ?_
    obtain ⟨u42, q43⟩ : ∃ z, (h 94 2) = 2147483648 + z := ⟨(h 94 2) - 2147483648, by first | decide | omega⟩
    refine x_imul (np := 10) (x := 0) (i := 4) (j := u42) (v := (2147483648 + 4 * u42)) (by decide +kernel) (by first | decide | omega) (by first | decide | omega) (by first | decide | omega) (by first | decide | omega) (by decide) l17 ?_
    refine x_iadd (np := 11) (x := 0) (v := (2147483808 + 4 * u42)) (by decide +kernel) (by decide) (by first | decide | omega) (by first | decide | omega) (by first | decide | omega) ?_
    refine x_iload (np := 12) (x := 2) (by decide +kernel) rfl (by decide) ?_
    refine x_iadd (np := 13) (x := 0) (v := (2147483808 + 4 * u42)) (by decide +kernel) (by first | decide | omega) (by decide) (by first | decide | omega) (by first | decide | omega) ?_
    refine x_aldC (np := 14) (x := 0) (n := 1952) (i := (160 + 4 * u42)) (q := ((h 76 (160 + 4 * u42)))) (by decide +kernel) (by decide +kernel) (by first | decide | omega) (by first | decide | omega) (by decide) rfl (fun l45 => ?_)
    refine x_retI (np := 15) (x := 0) (by decide +kernel) l45 (Or.inl (by decide +kernel)) ⟨_, rfl, l45, ?_⟩
    refine x_icmp (k := 1) (tg := 159) (np := 126) (by decide +kernel) (by decide) (by first | decide | omega) l45 (fun q46 => ?_) (fun q47 => ?_)
    · have q46 : (2147483648 + u4) ≠ ((h 76 (160 + 4 * u42))) := q46
      refine x_const (np := 160) (x := 9223372039002259456) (a := 2147483648) (by decide +kernel) (by decide) (by decide) ?_
      refine x_retI (np := 161) (x := 0) (by decide +kernel) (by decide) (Or.inr ⟨by decide +kernel, by first | decide | omega, by first | decide | omega⟩) ⟨_, rfl, (by decide), ?_⟩
      exact ⟨rfl, (by first | decide | omega)⟩
    have q47 : ¬ ((2147483648 + u4) ≠ ((h 76 (160 + 4 * u42)))) := q47
    refine x_iload (np := 128) (x := 4) (by decide +kernel) rfl (by first | decide | omega) ?_
    refine x_aload (np := 129) (x := 0) (by decide +kernel) rfl (x_nc_le (by decide)) ?_
    refine x_iload (np := 131) (x := 7) (by decide +kernel) rfl l17 ?_
    refine x_const (np := 132) (x := 9223372051887161347) (a := 2147483651) (by decide +kernel) (by decide) (by decide) ?_
    refine x_nI (t := 6) (mj := 162) (n := 3) (rc := 12) (ml := 3) (nr := 1) (np := 135) (as := [x_r 75, iv_c (h 94 2), iv_c 2147483651]) (rest := [iv_c (2147483648 + u8)]) (lo1 := [x_r 75, iv_c (h 94 2), iv_c 2147483651]) (by decide +kernel) (by decide) (by decide +kernel) (x_rb_of (by decide +kernel)) rfl rfl (x_wr (by decide) (x_wi l17 (x_wi (by decide) x_wn))) (x_wi (by first | decide | omega) x_wn) (by decide) rfl ?_
    refine x_aload (np := 1) (x := 0) (by decide +kernel) rfl (x_nc_le (by decide)) ?_
    have q48 : h 75 1 = 76 := by have z := jB (e := 1) 0 hJ rg_75_1_0_1 (by decide) (by decide); omega
    refine x_getR (np := 4) (x := 705) (f := 1) (q := 76) (by decide +kernel) (by decide) (by decide +kernel) q48 ?_
    refine x_const (np := 7) (x := 9223372726197026976) (a := 2147483808) (by decide +kernel) (by decide) (by decide) ?_
    refine x_const (np := 8) (x := 9223372056182128644) (a := 2147483652) (by decide +kernel) (by decide) (by decide) ?_
    refine x_iload (np := 9) (x := 1) (by decide +kernel) rfl l17 ?_
    refine x_imul (np := 10) (x := 0) (i := 4) (j := u42) (v := (2147483648 + 4 * u42)) (by decide +kernel) (by first | decide | omega) (by first | decide | omega) (by first | decide | omega) (by first | decide | omega) (by decide) l17 ?_
    refine x_iadd (np := 11) (x := 0) (v := (2147483808 + 4 * u42)) (by decide +kernel) (by decide) (by first | decide | omega) (by first | decide | omega) (by first | decide | omega) ?_
    refine x_iload (np := 12) (x := 2) (by decide +kernel) rfl (by decide) ?_
    refine x_iadd (np := 13) (x := 0) (v := (2147483811 + 4 * u42)) (by decide +kernel) (by first | decide | omega) (by decide) (by first | decide | omega) (by first | decide | omega) ?_
    refine x_aldC (np := 14) (x := 0) (n := 1952) (i := (163 + 4 * u42)) (q := ((h 76 (163 + 4 * u42)))) (by decide +kernel) (by decide +kernel) (by first | decide | omega) (by first | decide | omega) (by decide) rfl (fun l50 => ?_)
    refine x_retI (np := 15) (x := 0) (by decide +kernel) l50 (Or.inl (by decide +kernel)) ⟨_, rfl, l50, ?_⟩
    refine x_icmp (k := 1) (tg := 159) (np := 138) (by decide +kernel) (by decide) (by first | decide | omega) l50 (fun q51 => ?_) (fun q52 => ?_)
    · have q51 : (2147483648 + u8) ≠ ((h 76 (163 + 4 * u42))) := q51
      refine x_const (np := 160) (x := 9223372039002259456) (a := 2147483648) (by decide +kernel) (by decide) (by decide) ?_
      refine x_retI (np := 161) (x := 0) (by decide +kernel) (by decide) (Or.inr ⟨by decide +kernel, by first | decide | omega, by first | decide | omega⟩) ⟨_, rfl, (by decide), ?_⟩
      exact ⟨rfl, (by first | decide | omega)⟩
    have q52 : ¬ ((2147483648 + u8) ≠ ((h 76 (163 + 4 * u42)))) := q52
    refine x_aload (np := 139) (x := 0) (by decide +kernel) rfl (x_nc_le (by decide)) ?_
    refine x_iload (np := 141) (x := 7) (by decide +kernel) rfl l17 ?_
    refine x_const (np := 142) (x := 9223372047592194050) (a := 2147483650) (by decide +kernel) (by decide) (by decide) ?_
    refine x_nI (t := 6) (mj := 162) (n := 3) (rc := 12) (ml := 3) (nr := 0) (np := 145) (as := [x_r 75, iv_c (h 94 2), iv_c 2147483650]) (rest := []) (lo1 := [x_r 75, iv_c (h 94 2), iv_c 2147483650]) (by decide +kernel) (by decide) (by decide +kernel) (x_rb_of (by decide +kernel)) rfl rfl (x_wr (by decide) (x_wi l17 (x_wi (by decide) x_wn))) x_wn (by decide) rfl ?_
    refine x_aload (np := 1) (x := 0) (by decide +kernel) rfl (x_nc_le (by decide)) ?_
    have q53 : h 75 1 = 76 := by have z := jB (e := 1) 0 hJ rg_75_1_0_1 (by decide) (by decide); omega
    refine x_getR (np := 4) (x := 705) (f := 1) (q := 76) (by decide +kernel) (by decide) (by decide +kernel) q53 ?_
    refine x_const (np := 7) (x := 9223372726197026976) (a := 2147483808) (by decide +kernel) (by decide) (by decide) ?_
    refine x_const (np := 8) (x := 9223372056182128644) (a := 2147483652) (by decide +kernel) (by decide) (by decide) ?_
    refine x_iload (np := 9) (x := 1) (by decide +kernel) rfl l17 ?_
    refine x_imul (np := 10) (x := 0) (i := 4) (j := u42) (v := (2147483648 + 4 * u42)) (by decide +kernel) (by first | decide | omega) (by first | decide | omega) (by first | decide | omega) (by first | decide | omega) (by decide) l17 ?_
    refine x_iadd (np := 11) (x := 0) (v := (2147483808 + 4 * u42)) (by decide +kernel) (by decide) (by first | decide | omega) (by first | decide | omega) (by first | decide | omega) ?_
    refine x_iload (np := 12) (x := 2) (by decide +kernel) rfl (by decide) ?_
    refine x_iadd (np := 13) (x := 0) (v := (2147483810 + 4 * u42)) (by decide +kernel) (by first | decide | omega) (by decide) (by first | decide | omega) (by first | decide | omega) ?_
    refine x_aldC (np := 14) (x := 0) (n := 1952) (i := (162 + 4 * u42)) (q := ((h 76 (162 + 4 * u42)))) (by decide +kernel) (by decide +kernel) (by first | decide | omega) (by first | decide | omega) (by decide) rfl (fun l55 => ?_)
    refine x_retI (np := 15) (x := 0) (by decide +kernel) l55 (Or.inl (by decide +kernel)) ⟨_, rfl, l55, ?_⟩
    refine x_iload (np := 147) (x := 5) (by decide +kernel) rfl (by first | decide | omega) ?_
    refine x_iload (np := 149) (x := 6) (by decide +kernel) rfl (by first | decide | omega) ?_
    refine x_nI (t := 0) (mj := 153) (n := 3) (rc := 0) (ml := 3) (nr := 0) (np := 152) (as := [iv_c ((h 76 (162 + 4 * u42))), iv_c (2147483648 + u12), iv_c (2147483648 + u14)]) (rest := []) (lo1 := [iv_c ((h 76 (162 + 4 * u42))), iv_c (2147483648 + u12), iv_c (2147483648 + u14)]) (by decide +kernel) (by decide) (by decide +kernel) (Or.inl rfl) rfl rfl (x_wi l55 (x_wi (by first | decide | omega) (x_wi (by first | decide | omega) x_wn))) x_wn (by decide) rfl ?_
    refine x_iload (np := 1) (x := 0) (by decide +kernel) rfl l55 ?_
    refine x_iload (np := 2) (x := 1) (by decide +kernel) rfl (by first | decide | omega) ?_
    refine x_icmp (k := 2) (tg := 14) (np := 5) (by decide +kernel) (by decide) l55 (by first | decide | omega) (fun q56 => ?_) (fun q57 => ?_)
    · have q56 : ((h 76 (162 + 4 * u42))) < (2147483648 + u12) := q56
      refine x_const (np := 15) (x := 9223372039002259456) (a := 2147483648) (by decide +kernel) (by decide) (by decide) ?_
      refine x_retI (np := 16) (x := 0) (by decide +kernel) (by decide) (Or.inr ⟨by decide +kernel, by first | decide | omega, by first | decide | omega⟩) ⟨_, rfl, (by decide), ?_⟩
      refine x_ifz (k := 0) (tg := 159) (np := 155) (by decide +kernel) (by decide) (by decide) (fun q58 => ?_) (fun q59 => ?_)
      · have q58 : 2147483648 = 2147483648 := q58
        refine x_const (np := 160) (x := 9223372039002259456) (a := 2147483648) (by decide +kernel) (by decide) (by decide) ?_
        refine x_retI (np := 161) (x := 0) (by decide +kernel) (by decide) (Or.inr ⟨by decide +kernel, by first | decide | omega, by first | decide | omega⟩) ⟨_, rfl, (by decide), ?_⟩
        exact ⟨rfl, (by first | decide | omega)⟩
      have q59 : ¬ (2147483648 = 2147483648) := q59
      exfalso; omega
    have q57 : ¬ (((h 76 (162 + 4 * u42))) < (2147483648 + u12)) := q57
    refine x_iload (np := 6) (x := 0) (by decide +kernel) rfl l55 ?_
    refine x_iload (np := 7) (x := 2) (by decide +kernel) rfl (by first | decide | omega) ?_
    refine x_icmp (k := 4) (tg := 14) (np := 10) (by decide +kernel) (by decide) l55 (by first | decide | omega) (fun q60 => ?_) (fun q61 => ?_)
    · have q60 : (2147483648 + u14) < ((h 76 (162 + 4 * u42))) := q60
      refine x_const (np := 15) (x := 9223372039002259456) (a := 2147483648) (by decide +kernel) (by decide) (by decide) ?_
      refine x_retI (np := 16) (x := 0) (by decide +kernel) (by decide) (Or.inr ⟨by decide +kernel, by first | decide | omega, by first | decide | omega⟩) ⟨_, rfl, (by decide), ?_⟩
      refine x_ifz (k := 0) (tg := 159) (np := 155) (by decide +kernel) (by decide) (by decide) (fun q62 => ?_) (fun q63 => ?_)
      · have q62 : 2147483648 = 2147483648 := q62
        refine x_const (np := 160) (x := 9223372039002259456) (a := 2147483648) (by decide +kernel) (by decide) (by decide) ?_
        refine x_retI (np := 161) (x := 0) (by decide +kernel) (by decide) (Or.inr ⟨by decide +kernel, by first | decide | omega, by first | decide | omega⟩) ⟨_, rfl, (by decide), ?_⟩
        exact ⟨rfl, (by first | decide | omega)⟩
      have q63 : ¬ (2147483648 = 2147483648) := q63
      exfalso; omega
    have q61 : ¬ ((2147483648 + u14) < ((h 76 (162 + 4 * u42)))) := q61
    refine x_const (np := 11) (x := 9223372043297226753) (a := 2147483649) (by decide +kernel) (by decide) (by decide) ?_
    refine x_goto (np := 14) (x := 15) (by decide +kernel) ?_
    refine x_retI (np := 16) (x := 0) (by decide +kernel) (by decide) (Or.inr ⟨by decide +kernel, by first | decide | omega, by first | decide | omega⟩) ⟨_, rfl, (by decide), ?_⟩
    refine x_ifz (k := 0) (tg := 159) (np := 155) (by decide +kernel) (by decide) (by decide) (fun q64 => ?_) (fun q65 => ?_)
    · have q64 : 2147483649 = 2147483648 := q64
      exfalso; omega
    have q65 : ¬ (2147483649 = 2147483648) := q65
    refine x_const (np := 156) (x := 9223372043297226753) (a := 2147483649) (by decide +kernel) (by decide) (by decide) ?_
    refine x_goto (np := 159) (x := 160) (by decide +kernel) ?_
    refine x_retI (np := 161) (x := 0) (by decide +kernel) (by decide) (Or.inr ⟨by decide +kernel, by first | decide | omega, by first | decide | omega⟩) ⟨_, rfl, (by decide), ?_⟩
    exact ⟨rfl, (by first | decide | omega)⟩
  have q21 : ¬ ((h 75 33) ≠ 2147483648) := q21
  refine x_iload (np := 39) (x := 3) (by decide +kernel) rfl (by first | decide | omega) ?_
  refine x_aload (np := 40) (x := 0) (by decide +kernel) rfl (x_nc_le (by decide)) ?_
  refine x_iload (np := 42) (x := 7) (by decide +kernel) rfl l17 ?_
  refine x_const (np := 43) (x := 9223372039002259456) (a := 2147483648) (by decide +kernel) (by decide) (by decide) ?_
  refine x_nI (t := 6) (mj := 164) (n := 3) (rc := 12) (ml := 3) (nr := 1) (np := 46) (as := [x_r 75, iv_c (h 94 2), iv_c 2147483648]) (rest := [iv_c (2147483648 + u4)]) (lo1 := [x_r 75, iv_c (h 94 2), iv_c 2147483648]) (by decide +kernel) (by decide) (by decide +kernel) (x_rb_of (by decide +kernel)) rfl rfl (x_wr (by decide) (x_wi l17 (x_wi (by decide) x_wn))) (x_wi (by first | decide | omega) x_wn) (by decide) rfl ?_
  refine x_aload (np := 1) (x := 0) (by decide +kernel) rfl (x_nc_le (by decide)) ?_
  have q66 : h 75 1 = 76 := by have z := jB (e := 1) 0 hJ rg_75_1_0_1 (by decide) (by decide); omega
  refine x_getR (np := 4) (x := 705) (f := 1) (q := 76) (by decide +kernel) (by decide) (by decide +kernel) q66 ?_
  refine x_const (np := 7) (x := 9223373112744083706) (a := 2147483898) (by decide +kernel) (by decide) (by decide) ?_
  refine x_const (np := 8) (x := 9223372056182128644) (a := 2147483652) (by decide +kernel) (by decide) (by decide) ?_
  refine x_iload (np := 9) (x := 1) (by decide +kernel) rfl l17 ?_
  obtain ⟨u67, q68⟩ : ∃ z, (h 94 2) = 2147483648 + z := ⟨(h 94 2) - 2147483648, by first | decide | omega⟩
  refine x_imul (np := 10) (x := 0) (i := 4) (j := u67) (v := (2147483648 + 4 * u67)) (by decide +kernel) (by first | decide | omega) (by first | decide | omega) (by first | decide | omega) (by first | decide | omega) (by decide) l17 ?_
  refine x_iadd (np := 11) (x := 0) (v := (2147483898 + 4 * u67)) (by decide +kernel) (by decide) (by first | decide | omega) (by first | decide | omega) (by first | decide | omega) ?_
  refine x_iload (np := 12) (x := 2) (by decide +kernel) rfl (by decide) ?_
  refine x_iadd (np := 13) (x := 0) (v := (2147483898 + 4 * u67)) (by decide +kernel) (by first | decide | omega) (by decide) (by first | decide | omega) (by first | decide | omega) ?_
  refine x_aldC (np := 14) (x := 0) (n := 1952) (i := (250 + 4 * u67)) (q := ((h 76 (250 + 4 * u67)))) (by decide +kernel) (by decide +kernel) (by first | decide | omega) (by first | decide | omega) (by decide) rfl (fun l70 => ?_)
  refine x_retI (np := 15) (x := 0) (by decide +kernel) l70 (Or.inl (by decide +kernel)) ⟨_, rfl, l70, ?_⟩
  refine x_icmp (k := 1) (tg := 106) (np := 49) (by decide +kernel) (by decide) (by first | decide | omega) l70 (fun q71 => ?_) (fun q72 => ?_)
  · have q71 : (2147483648 + u4) ≠ ((h 76 (250 + 4 * u67))) := q71
    refine x_const (np := 107) (x := 9223372039002259456) (a := 2147483648) (by decide +kernel) (by decide) (by decide) ?_
    refine x_retI (np := 108) (x := 0) (by decide +kernel) (by decide) (Or.inr ⟨by decide +kernel, by first | decide | omega, by first | decide | omega⟩) ⟨_, rfl, (by decide), ?_⟩
    exact ⟨rfl, (by first | decide | omega)⟩
  have q72 : ¬ ((2147483648 + u4) ≠ ((h 76 (250 + 4 * u67)))) := q72
  refine x_aload (np := 50) (x := 0) (by decide +kernel) rfl (x_nc_le (by decide)) ?_
  refine x_iload (np := 52) (x := 7) (by decide +kernel) rfl l17 ?_
  refine x_const (np := 53) (x := 9223372047592194050) (a := 2147483650) (by decide +kernel) (by decide) (by decide) ?_
  refine x_nI (t := 6) (mj := 164) (n := 3) (rc := 12) (ml := 3) (nr := 0) (np := 56) (as := [x_r 75, iv_c (h 94 2), iv_c 2147483650]) (rest := []) (lo1 := [x_r 75, iv_c (h 94 2), iv_c 2147483650]) (by decide +kernel) (by decide) (by decide +kernel) (x_rb_of (by decide +kernel)) rfl rfl (x_wr (by decide) (x_wi l17 (x_wi (by decide) x_wn))) x_wn (by decide) rfl ?_
  refine x_aload (np := 1) (x := 0) (by decide +kernel) rfl (x_nc_le (by decide)) ?_
  have q73 : h 75 1 = 76 := by have z := jB (e := 1) 0 hJ rg_75_1_0_1 (by decide) (by decide); omega
  refine x_getR (np := 4) (x := 705) (f := 1) (q := 76) (by decide +kernel) (by decide) (by decide +kernel) q73 ?_
  refine x_const (np := 7) (x := 9223373112744083706) (a := 2147483898) (by decide +kernel) (by decide) (by decide) ?_
  refine x_const (np := 8) (x := 9223372056182128644) (a := 2147483652) (by decide +kernel) (by decide) (by decide) ?_
  refine x_iload (np := 9) (x := 1) (by decide +kernel) rfl l17 ?_
  refine x_imul (np := 10) (x := 0) (i := 4) (j := u67) (v := (2147483648 + 4 * u67)) (by decide +kernel) (by first | decide | omega) (by first | decide | omega) (by first | decide | omega) (by first | decide | omega) (by decide) l17 ?_
  refine x_iadd (np := 11) (x := 0) (v := (2147483898 + 4 * u67)) (by decide +kernel) (by decide) (by first | decide | omega) (by first | decide | omega) (by first | decide | omega) ?_
  refine x_iload (np := 12) (x := 2) (by decide +kernel) rfl (by decide) ?_
  refine x_iadd (np := 13) (x := 0) (v := (2147483900 + 4 * u67)) (by decide +kernel) (by first | decide | omega) (by decide) (by first | decide | omega) (by first | decide | omega) ?_
  refine x_aldC (np := 14) (x := 0) (n := 1952) (i := (252 + 4 * u67)) (q := ((h 76 (252 + 4 * u67)))) (by decide +kernel) (by decide +kernel) (by first | decide | omega) (by first | decide | omega) (by decide) rfl (fun l75 => ?_)
  refine x_retI (np := 15) (x := 0) (by decide +kernel) l75 (Or.inl (by decide +kernel)) ⟨_, rfl, l75, ?_⟩
  refine x_iload (np := 58) (x := 4) (by decide +kernel) rfl (by first | decide | omega) ?_
  refine x_any (np := 59) (k9 := 4) (by decide +kernel) (by decide) l75 (by first | decide | omega) (fun v76 l77 => ?_)
  refine x_const (np := 60) (x := 9223372043297226753) (a := 2147483649) (by decide +kernel) (by decide) (by decide) ?_
  refine x_mask (np := 61) (m := 1) (k9 := 2) (by decide +kernel) l77 (by decide +kernel) (by decide) (by decide) (by decide) (fun u78 l79 => ?_)
  refine x_const (np := 62) (x := 9223372043297226753) (a := 2147483649) (by decide +kernel) (by decide) (by decide) ?_
  refine x_icmp (k := 1) (tg := 106) (np := 65) (by decide +kernel) (by decide) (by first | decide | omega) (by decide) (fun q80 => ?_) (fun q81 => ?_)
  · have q80 : (2147483648 + u78) ≠ 2147483649 := q80
    refine x_const (np := 107) (x := 9223372039002259456) (a := 2147483648) (by decide +kernel) (by decide) (by decide) ?_
    refine x_retI (np := 108) (x := 0) (by decide +kernel) (by decide) (Or.inr ⟨by decide +kernel, by first | decide | omega, by first | decide | omega⟩) ⟨_, rfl, (by decide), ?_⟩
    exact ⟨rfl, (by first | decide | omega)⟩
  have q81 : ¬ ((2147483648 + u78) ≠ 2147483649) := q81
  refine x_aload (np := 66) (x := 0) (by decide +kernel) rfl (x_nc_le (by decide)) ?_
  refine x_iload (np := 68) (x := 7) (by decide +kernel) rfl l17 ?_
  refine x_const (np := 69) (x := 9223372043297226753) (a := 2147483649) (by decide +kernel) (by decide) (by decide) ?_
  refine x_nI (t := 6) (mj := 164) (n := 3) (rc := 12) (ml := 3) (nr := 0) (np := 72) (as := [x_r 75, iv_c (h 94 2), iv_c 2147483649]) (rest := []) (lo1 := [x_r 75, iv_c (h 94 2), iv_c 2147483649]) (by decide +kernel) (by decide) (by decide +kernel) (x_rb_of (by decide +kernel)) rfl rfl (x_wr (by decide) (x_wi l17 (x_wi (by decide) x_wn))) x_wn (by decide) rfl ?_
  refine x_aload (np := 1) (x := 0) (by decide +kernel) rfl (x_nc_le (by decide)) ?_
  have q82 : h 75 1 = 76 := by have z := jB (e := 1) 0 hJ rg_75_1_0_1 (by decide) (by decide); omega
  refine x_getR (np := 4) (x := 705) (f := 1) (q := 76) (by decide +kernel) (by decide) (by decide +kernel) q82 ?_
  refine x_const (np := 7) (x := 9223373112744083706) (a := 2147483898) (by decide +kernel) (by decide) (by decide) ?_
  refine x_const (np := 8) (x := 9223372056182128644) (a := 2147483652) (by decide +kernel) (by decide) (by decide) ?_
  refine x_iload (np := 9) (x := 1) (by decide +kernel) rfl l17 ?_
  refine x_imul (np := 10) (x := 0) (i := 4) (j := u67) (v := (2147483648 + 4 * u67)) (by decide +kernel) (by first | decide | omega) (by first | decide | omega) (by first | decide | omega) (by first | decide | omega) (by decide) l17 ?_
  refine x_iadd (np := 11) (x := 0) (v := (2147483898 + 4 * u67)) (by decide +kernel) (by decide) (by first | decide | omega) (by first | decide | omega) (by first | decide | omega) ?_
  refine x_iload (np := 12) (x := 2) (by decide +kernel) rfl (by decide) ?_
  refine x_iadd (np := 13) (x := 0) (v := (2147483899 + 4 * u67)) (by decide +kernel) (by first | decide | omega) (by decide) (by first | decide | omega) (by first | decide | omega) ?_
  refine x_aldC (np := 14) (x := 0) (n := 1952) (i := (251 + 4 * u67)) (q := ((h 76 (251 + 4 * u67)))) (by decide +kernel) (by decide +kernel) (by first | decide | omega) (by first | decide | omega) (by decide) rfl (fun l84 => ?_)
  refine x_retI (np := 15) (x := 0) (by decide +kernel) l84 (Or.inl (by decide +kernel)) ⟨_, rfl, l84, ?_⟩
  refine x_iload (np := 74) (x := 5) (by decide +kernel) rfl (by first | decide | omega) ?_
  refine x_iload (np := 76) (x := 6) (by decide +kernel) rfl (by first | decide | omega) ?_
  refine x_nI (t := 0) (mj := 153) (n := 3) (rc := 0) (ml := 3) (nr := 0) (np := 79) (as := [iv_c ((h 76 (251 + 4 * u67))), iv_c (2147483648 + u12), iv_c (2147483648 + u14)]) (rest := []) (lo1 := [iv_c ((h 76 (251 + 4 * u67))), iv_c (2147483648 + u12), iv_c (2147483648 + u14)]) (by decide +kernel) (by decide) (by decide +kernel) (Or.inl rfl) rfl rfl (x_wi l84 (x_wi (by first | decide | omega) (x_wi (by first | decide | omega) x_wn))) x_wn (by decide) rfl ?_
  refine x_iload (np := 1) (x := 0) (by decide +kernel) rfl l84 ?_
  refine x_iload (np := 2) (x := 1) (by decide +kernel) rfl (by first | decide | omega) ?_
  refine x_icmp (k := 2) (tg := 14) (np := 5) (by decide +kernel) (by decide) l84 (by first | decide | omega) (fun q85 => ?_) (fun q86 => ?_)
  · have q85 : ((h 76 (251 + 4 * u67))) < (2147483648 + u12) := q85
    refine x_const (np := 15) (x := 9223372039002259456) (a := 2147483648) (by decide +kernel) (by decide) (by decide) ?_
    refine x_retI (np := 16) (x := 0) (by decide +kernel) (by decide) (Or.inr ⟨by decide +kernel, by first | decide | omega, by first | decide | omega⟩) ⟨_, rfl, (by decide), ?_⟩
    refine x_ifz (k := 0) (tg := 106) (np := 82) (by decide +kernel) (by decide) (by decide) (fun q87 => ?_) (fun q88 => ?_)
    · have q87 : 2147483648 = 2147483648 := q87
      refine x_const (np := 107) (x := 9223372039002259456) (a := 2147483648) (by decide +kernel) (by decide) (by decide) ?_
      refine x_retI (np := 108) (x := 0) (by decide +kernel) (by decide) (Or.inr ⟨by decide +kernel, by first | decide | omega, by first | decide | omega⟩) ⟨_, rfl, (by decide), ?_⟩
      exact ⟨rfl, (by first | decide | omega)⟩
    have q88 : ¬ (2147483648 = 2147483648) := q88
    exfalso; omega
  have q86 : ¬ (((h 76 (251 + 4 * u67))) < (2147483648 + u12)) := q86
  refine x_iload (np := 6) (x := 0) (by decide +kernel) rfl l84 ?_
  refine x_iload (np := 7) (x := 2) (by decide +kernel) rfl (by first | decide | omega) ?_
  refine x_icmp (k := 4) (tg := 14) (np := 10) (by decide +kernel) (by decide) l84 (by first | decide | omega) (fun q89 => ?_) (fun q90 => ?_)
  · have q89 : (2147483648 + u14) < ((h 76 (251 + 4 * u67))) := q89
    refine x_const (np := 15) (x := 9223372039002259456) (a := 2147483648) (by decide +kernel) (by decide) (by decide) ?_
    refine x_retI (np := 16) (x := 0) (by decide +kernel) (by decide) (Or.inr ⟨by decide +kernel, by first | decide | omega, by first | decide | omega⟩) ⟨_, rfl, (by decide), ?_⟩
    refine x_ifz (k := 0) (tg := 106) (np := 82) (by decide +kernel) (by decide) (by decide) (fun q91 => ?_) (fun q92 => ?_)
    · have q91 : 2147483648 = 2147483648 := q91
      refine x_const (np := 107) (x := 9223372039002259456) (a := 2147483648) (by decide +kernel) (by decide) (by decide) ?_
      refine x_retI (np := 108) (x := 0) (by decide +kernel) (by decide) (Or.inr ⟨by decide +kernel, by first | decide | omega, by first | decide | omega⟩) ⟨_, rfl, (by decide), ?_⟩
      exact ⟨rfl, (by first | decide | omega)⟩
    have q92 : ¬ (2147483648 = 2147483648) := q92
    exfalso; omega
  have q90 : ¬ ((2147483648 + u14) < ((h 76 (251 + 4 * u67)))) := q90
  refine x_const (np := 11) (x := 9223372043297226753) (a := 2147483649) (by decide +kernel) (by decide) (by decide) ?_
  refine x_goto (np := 14) (x := 15) (by decide +kernel) ?_
  refine x_retI (np := 16) (x := 0) (by decide +kernel) (by decide) (Or.inr ⟨by decide +kernel, by first | decide | omega, by first | decide | omega⟩) ⟨_, rfl, (by decide), ?_⟩
  refine x_ifz (k := 0) (tg := 106) (np := 82) (by decide +kernel) (by decide) (by decide) (fun q93 => ?_) (fun q94 => ?_)
  · have q93 : 2147483649 = 2147483648 := q93
    exfalso; omega
  have q94 : ¬ (2147483649 = 2147483648) := q94
  refine x_aload (np := 83) (x := 0) (by decide +kernel) rfl (x_nc_le (by decide)) ?_
  refine x_iload (np := 84) (x := 3) (by decide +kernel) rfl (by first | decide | omega) ?_
  refine x_iload (np := 86) (x := 5) (by decide +kernel) rfl (by first | decide | omega) ?_
  refine x_cP (t := 6) (mj := 255) (n := 3) (rc := 12) (ml := 5) (nr := 0) (np := 89) (as := [x_r 75, iv_c (2147483648 + u4), iv_c (2147483648 + u12)]) (rest := []) (lo1 := [x_r 75, iv_c (2147483648 + u4), iv_c (2147483648 + u12), 147573952589676412928, 147573952589676412928]) (by decide +kernel) (by decide) (by decide +kernel) (x_rb_of (by decide +kernel)) rfl rfl (x_wr (by decide) (x_wi (by first | decide | omega) (x_wi (by first | decide | omega) x_wn))) x_wn (by decide) rfl (c255_75 hJ  (by first | decide | omega) (by first | decide | omega)) (fun v95 l96 q97 => ?_)
  refine x_ifz (k := 0) (tg := 106) (np := 92) (by decide +kernel) (by decide) l96 (fun q98 => ?_) (fun q99 => ?_)
  · have q98 : v95 = 2147483648 := q98
    refine x_const (np := 107) (x := 9223372039002259456) (a := 2147483648) (by decide +kernel) (by decide) (by decide) ?_
    refine x_retI (np := 108) (x := 0) (by decide +kernel) (by decide) (Or.inr ⟨by decide +kernel, by first | decide | omega, by first | decide | omega⟩) ⟨_, rfl, (by decide), ?_⟩
    exact ⟨rfl, (by first | decide | omega)⟩
  have q99 : ¬ (v95 = 2147483648) := q99
  refine x_aload (np := 93) (x := 0) (by decide +kernel) rfl (x_nc_le (by decide)) ?_
  refine x_iload (np := 94) (x := 3) (by decide +kernel) rfl (by first | decide | omega) ?_
  refine x_iload (np := 96) (x := 6) (by decide +kernel) rfl (by first | decide | omega) ?_
  refine x_cP (t := 6) (mj := 255) (n := 3) (rc := 12) (ml := 5) (nr := 0) (np := 99) (as := [x_r 75, iv_c (2147483648 + u4), iv_c (2147483648 + u14)]) (rest := []) (lo1 := [x_r 75, iv_c (2147483648 + u4), iv_c (2147483648 + u14), 147573952589676412928, 147573952589676412928]) (by decide +kernel) (by decide) (by decide +kernel) (x_rb_of (by decide +kernel)) rfl rfl (x_wr (by decide) (x_wi (by first | decide | omega) (x_wi (by first | decide | omega) x_wn))) x_wn (by decide) rfl (c255_75 hJ  (by first | decide | omega) (by first | decide | omega)) (fun v100 l101 q102 => ?_)
  refine x_ifz (k := 0) (tg := 106) (np := 102) (by decide +kernel) (by decide) l101 (fun q103 => ?_) (fun q104 => ?_)
  · have q103 : v100 = 2147483648 := q103
    refine x_const (np := 107) (x := 9223372039002259456) (a := 2147483648) (by decide +kernel) (by decide) (by decide) ?_
    refine x_retI (np := 108) (x := 0) (by decide +kernel) (by decide) (Or.inr ⟨by decide +kernel, by first | decide | omega, by first | decide | omega⟩) ⟨_, rfl, (by decide), ?_⟩
    exact ⟨rfl, (by first | decide | omega)⟩
  have q104 : ¬ (v100 = 2147483648) := q104
  refine x_const (np := 103) (x := 9223372043297226753) (a := 2147483649) (by decide +kernel) (by decide) (by decide) ?_
  refine x_goto (np := 106) (x := 107) (by decide +kernel) ?_
  refine x_retI (np := 108) (x := 0) (by decide +kernel) (by decide) (Or.inr ⟨by decide +kernel, by first | decide | omega, by first | decide | omega⟩) ⟨_, rfl, (by decide), ?_⟩
  exact ⟨rfl, (by first | decide | omega)⟩
set_option maxHeartbeats 0 in
/-- LentNamesModel.nextOf(I)I -/
theorem c257_75_c2 {sc : Nat × Nat} {d  : Nat} {h : xh} (hJ : J h) (hr0 : 2147483648 ≤ (h 94 2)) : X sc 257 (d + 4) (xI fun r h' => h' = h ∧ (2147483647 ≤ r ∧ r ≤ 2147488831)) 0 0 0 [x_r 75, iv_c 2147483650, 147573952589676412928] [] h := by
  have b1 := jB (e := 2) 2 hJ rg_94_0_1_6 (by first | decide | omega) (by first | decide | omega)
  refine x_aload (np := 1) (x := 0) (by decide +kernel) rfl (x_nc_le (by decide)) ?_
  have q2 : h 75 27 = 93 := by have z := jB (e := 27) 0 hJ rg_75_27_0_1 (by decide) (by decide); omega
  refine x_getR (np := 4) (x := 731) (f := 27) (q := 93) (by decide +kernel) (by decide) (by decide +kernel) q2 ?_
  refine x_iload (np := 5) (x := 1) (by decide +kernel) rfl (by decide) ?_
  have b3 := jB (e := 2) 2 hJ rg_93_0_1_6 (by first | decide | omega) (by first | decide | omega)
  refine x_aldC (np := 6) (x := 0) (n := 6) (i := 2) (q := (h 93 2)) (by decide +kernel) (by decide +kernel) (by first | decide | omega) (by first | decide | omega) (by decide) rfl (fun l4 => ?_)
  refine x_const (np := 7) (x := 9223372043297226753) (a := 2147483649) (by decide +kernel) (by decide) (by decide) ?_
  refine x_iadd (np := 8) (x := 0) (v := (1 + (h 93 2))) (by decide +kernel) l4 (by decide) (by first | decide | omega) (by first | decide | omega) ?_
  refine x_istore (np := 9) (x := 2) (lo' := [x_r 75, iv_c 2147483650, iv_c (1 + (h 93 2))]) (by decide +kernel) (by first | decide | omega) (Nat.le_of_ble_eq_true rfl) rfl ?_
  have p21 : ∀ (n : Nat) (v19 : Nat), 4294967296 - v19 < n → (2147483648 ≤ v19 ∧ v19 ≤ 2147488832) → X sc 257 (d + 4) (xI fun r h' => h' = h ∧ (2147483647 ≤ r ∧ r ≤ 2147488831)) 0 0 9 [x_r 75, iv_c 2147483650, iv_c v19] [] h := by
    intro n
    induction n with
    | zero => intro v19 q22; exact absurd q22 (Nat.not_lt_zero _)
    | succ n i23 =>
      intro v19 q22 b20
      refine x_iload (np := 10) (x := 2) (by decide +kernel) rfl (by first | decide | omega) ?_
      refine x_const (np := 13) (x := 9223394304112727104) (a := 2147488832) (by decide +kernel) (by decide) (by decide) ?_
      refine x_icmp (k := 3) (tg := 39) (np := 16) (by decide +kernel) (by decide) (by first | decide | omega) (by decide) (fun q24 => ?_) (fun q25 => ?_)
      · have q24 : 2147488832 ≤ v19 := q24
        refine x_iload (np := 40) (x := 2) (by decide +kernel) rfl (by first | decide | omega) ?_
        refine x_const (np := 43) (x := 9223394304112727104) (a := 2147488832) (by decide +kernel) (by decide) (by decide) ?_
        refine x_icmp (k := 3) (tg := 50) (np := 46) (by decide +kernel) (by decide) (by first | decide | omega) (by decide) (fun q26 => ?_) (fun q27 => ?_)
        · have q26 : 2147488832 ≤ v19 := q26
          refine x_const (np := 51) (x := 9223372034707292159) (a := 2147483647) (by decide +kernel) (by decide) (by decide) ?_
          refine x_retI (np := 52) (x := 0) (by decide +kernel) (by decide) (Or.inl (by decide +kernel)) ⟨_, rfl, (by decide), ?_⟩
          exact ⟨rfl, (by first | decide | omega)⟩
        have q27 : ¬ (2147488832 ≤ v19) := q27
        exfalso; omega
      have q25 : ¬ (2147488832 ≤ v19) := q25
      refine x_aload (np := 17) (x := 0) (by decide +kernel) rfl (x_nc_le (by decide)) ?_
      refine x_iload (np := 18) (x := 1) (by decide +kernel) rfl (by decide) ?_
      refine x_iload (np := 19) (x := 2) (by decide +kernel) rfl (by first | decide | omega) ?_
      refine x_cP (t := 6) (mj := 256) (n := 3) (rc := 12) (ml := 8) (nr := 0) (np := 22) (as := [x_r 75, iv_c 2147483650, iv_c v19]) (rest := []) (lo1 := [x_r 75, iv_c 2147483650, iv_c v19, 147573952589676412928, 147573952589676412928, 147573952589676412928, 147573952589676412928, 147573952589676412928]) (by decide +kernel) (by decide) (by decide +kernel) (x_rb_of (by decide +kernel)) rfl rfl (x_wr (by decide) (x_wi (by decide) (x_wi (by first | decide | omega) x_wn))) x_wn (by decide) rfl (c256_75_c2 hJ   (by first | decide | omega) (by first | decide | omega)) (fun v28 l29 q30 => ?_)
      refine x_ifz (k := 0) (tg := 33) (np := 25) (by decide +kernel) (by decide) l29 (fun q31 => ?_) (fun q32 => ?_)
      · have q31 : v28 = 2147483648 := q31
        refine x_iinc (np := 36) (i := 2) (j := 2147483649) (v := (1 + v19)) (lo' := [x_r 75, iv_c 2147483650, iv_c (1 + v19)]) (by decide +kernel) (by decide) (by decide) rfl (by first | decide | omega) (by first | decide | omega) (by first | decide | omega) rfl ?_
        refine x_goto (np := 39) (x := 9) (by decide +kernel) ?_
        exact i23 (1 + v19) (by first | decide | omega) (by first | decide | omega)
      have q32 : ¬ (v28 = 2147483648) := q32
      refine x_aload (np := 26) (x := 0) (by decide +kernel) rfl (x_nc_le (by decide)) ?_
      refine x_iload (np := 27) (x := 2) (by decide +kernel) rfl (by first | decide | omega) ?_
      refine x_cP (t := 6) (mj := 247) (n := 2) (rc := 12) (ml := 6) (nr := 0) (np := 30) (as := [x_r 75, iv_c v19]) (rest := []) (lo1 := [x_r 75, iv_c v19, 147573952589676412928, 147573952589676412928, 147573952589676412928, 147573952589676412928]) (by decide +kernel) (by decide) (by decide +kernel) (x_rb_of (by decide +kernel)) rfl rfl (x_wr (by decide) (x_wi (by first | decide | omega) x_wn)) x_wn (by decide) rfl (c247_75 hJ  (by first | decide | omega)) (fun v33 l34 q35 => ?_)
      refine x_ifz (k := 1) (tg := 39) (np := 33) (by decide +kernel) (by decide) l34 (fun q36 => ?_) (fun q37 => ?_)
      · have q36 : v33 ≠ 2147483648 := q36
        refine x_iload (np := 40) (x := 2) (by decide +kernel) rfl (by first | decide | omega) ?_
        refine x_const (np := 43) (x := 9223394304112727104) (a := 2147488832) (by decide +kernel) (by decide) (by decide) ?_
        refine x_icmp (k := 3) (tg := 50) (np := 46) (by decide +kernel) (by decide) (by first | decide | omega) (by decide) (fun q38 => ?_) (fun q39 => ?_)
        · have q38 : 2147488832 ≤ v19 := q38
          exfalso; omega
        have q39 : ¬ (2147488832 ≤ v19) := q39
        refine x_iload (np := 47) (x := 2) (by decide +kernel) rfl (by first | decide | omega) ?_
        refine x_goto (np := 50) (x := 51) (by decide +kernel) ?_
        refine x_retI (np := 52) (x := 0) (by decide +kernel) (by first | decide | omega) (Or.inl (by decide +kernel)) ⟨_, rfl, (by first | decide | omega), ?_⟩
        exact ⟨rfl, (by first | decide | omega)⟩
      have q37 : ¬ (v33 ≠ 2147483648) := q37
      refine x_iinc (np := 36) (i := 2) (j := 2147483649) (v := (1 + v19)) (lo' := [x_r 75, iv_c 2147483650, iv_c (1 + v19)]) (by decide +kernel) (by decide) (by decide) rfl (by first | decide | omega) (by first | decide | omega) (by first | decide | omega) rfl ?_
      refine x_goto (np := 39) (x := 9) (by decide +kernel) ?_
      exact i23 (1 + v19) (by first | decide | omega) (by first | decide | omega)
  exact p21 _ (1 + (h 93 2)) (Nat.lt_succ_self _) (by first | decide | omega)
set_option maxHeartbeats 0 in
/-- LentNamesModel.goes(I)Z -/
theorem c259_75_c3 {sc : Nat × Nat} {d  : Nat} {h : xh} (hJ : J h) (hr0 : (h 75 30) ≤ 2147503648) : X sc 259 (d + 5) (xI fun r h' => J h' ∧ Fr 39376260300801 h h' ∧ (2147483648 ≤ r ∧ r ≤ 2147483649) ∧ (r = 2147483649 → h' 75 30 ≤ 2147503648)) 0 0 0 [x_r 75, iv_c 2147483651, 147573952589676412928, 147573952589676412928, 147573952589676412928, 147573952589676412928] [] h := by
  have hF := Fr.refl 39376260300801 h
  have b1 := jB (e := 30) 0 hJ rg_75_30_0_1 (by first | decide | omega) (by first | decide | omega)
  refine x_aload (np := 1) (x := 0) (by decide +kernel) rfl (x_nc_le (by decide)) ?_
  refine x_const (np := 2) (x := 9223372039002259456) (a := 2147483648) (by decide +kernel) (by decide) (by decide) ?_
  refine x_putI (np := 5) (x := 738) (f := 34) (by decide +kernel) (by decide +kernel) (by decide) (Or.inl (by decide)) ?_
  have j3 := jU (e := 34) (v := 2147483648) 0 hJ rg_75_34_0_1 (by first | decide | omega) (by first | decide | omega) (by first | decide | omega)
  have f5 := jF (e := 34) (v := 2147483648) 0 hF rg_75_34_0_1 (by first | decide | omega) (by first | decide | omega) (by decide)
  generalize e4 : x_up h 75 34 2147483648 = h2 at j3 f5 ⊢
  refine x_const (np := 6) (x := 9223372039002259456) (a := 2147483648) (by decide +kernel) (by decide) (by decide) ?_
  refine x_istore (np := 7) (x := 2) (lo' := [x_r 75, iv_c 2147483651, iv_c 2147483648, 147573952589676412928, 147573952589676412928, 147573952589676412928]) (by decide +kernel) (by decide) (Nat.le_of_ble_eq_true rfl) rfl ?_
  refine x_const (np := 8) (x := 9223372039002259456) (a := 2147483648) (by decide +kernel) (by decide) (by decide) ?_
  refine x_istore (np := 9) (x := 3) (lo' := [x_r 75, iv_c 2147483651, iv_c 2147483648, iv_c 2147483648, 147573952589676412928, 147573952589676412928]) (by decide +kernel) (by decide) (Nat.le_of_ble_eq_true rfl) rfl ?_
  refine x_const (np := 10) (x := 9223372043297226753) (a := 2147483649) (by decide +kernel) (by decide) (by decide) ?_
  refine x_istore (np := 12) (x := 4) (lo' := [x_r 75, iv_c 2147483651, iv_c 2147483648, iv_c 2147483648, iv_c 2147483649, 147573952589676412928]) (by decide +kernel) (by decide) (Nat.le_of_ble_eq_true rfl) rfl ?_
  have p2494 : ∀ (n : Nat), (∀ (w2496 : Nat) (w2497 : Nat) (h2498 : xh), 16 * (4294967296 - h2498 75 30) + 1 < n → J h2498 → Fr 39376260300801 h2 h2498 → (2147483648 ≤ h2498 75 30 ∧ h2498 75 30 ≤ 2147503648) → X sc 259 (d + 5) (xI fun r h' => J h' ∧ Fr 39376260300801 h h' ∧ (2147483648 ≤ r ∧ r ≤ 2147483649) ∧ (r = 2147483649 → h' 75 30 ≤ 2147503648)) 0 0 12 [x_r 75, iv_c 2147483651, iv_c 2147483648, w2496, iv_c 2147483649, w2497] [] h2498) ∧ (∀ (w2502 : Nat) (w2503 : Nat) (h2504 : xh), 16 * (4294967296 - h2504 75 30) + 2 < n → J h2504 → Fr 39376260300801 h2 h2504 → (2147483648 ≤ h2504 75 30 ∧ h2504 75 30 ≤ 2147503648) → X sc 259 (d + 5) (xI fun r h' => J h' ∧ Fr 39376260300801 h h' ∧ (2147483648 ≤ r ∧ r ≤ 2147483649) ∧ (r = 2147483649 → h' 75 30 ≤ 2147503648)) 0 0 12 [x_r 75, iv_c 2147483651, iv_c 2147483649, w2502, iv_c 2147483649, w2503] [] h2504) ∧ (∀ (w2508 : Nat) (w2509 : Nat) (h2510 : xh), 16 * (4294967296 - h2510 75 30) + 3 < n → J h2510 → Fr 39376260300801 h2 h2510 → (2147483648 ≤ h2510 75 30 ∧ h2510 75 30 ≤ 2147503648) → X sc 259 (d + 5) (xI fun r h' => J h' ∧ Fr 39376260300801 h h' ∧ (2147483648 ≤ r ∧ r ≤ 2147483649) ∧ (r = 2147483649 → h' 75 30 ≤ 2147503648)) 0 0 12 [x_r 75, iv_c 2147483651, iv_c 2147483650, w2508, iv_c 2147483649, w2509] [] h2510) ∧ (∀ (w2514 : Nat) (w2515 : Nat) (h2516 : xh), 16 * (4294967296 - h2516 75 30) + 4 < n → J h2516 → Fr 39376260300801 h2 h2516 → (2147483648 ≤ h2516 75 30 ∧ h2516 75 30 ≤ 2147503648) → X sc 259 (d + 5) (xI fun r h' => J h' ∧ Fr 39376260300801 h h' ∧ (2147483648 ≤ r ∧ r ≤ 2147483649) ∧ (r = 2147483649 → h' 75 30 ≤ 2147503648)) 0 0 12 [x_r 75, iv_c 2147483651, iv_c 2147483651, w2514, iv_c 2147483649, w2515] [] h2516) ∧ (∀ (w2520 : Nat) (w2521 : Nat) (h2522 : xh), 16 * (4294967296 - h2522 75 30) + 4 < n → J h2522 → Fr 39376260300801 h2 h2522 → (2147483648 ≤ h2522 75 30 ∧ h2522 75 30 ≤ 2147503648) → X sc 259 (d + 5) (xI fun r h' => J h' ∧ Fr 39376260300801 h h' ∧ (2147483648 ≤ r ∧ r ≤ 2147483649) ∧ (r = 2147483649 → h' 75 30 ≤ 2147503648)) 0 0 12 [x_r 75, iv_c 2147483651, iv_c 2147483647, w2520, iv_c 2147483648, w2521] [] h2522) ∧ (∀ (w2526 : Nat) (w2527 : Nat) (h2528 : xh), 16 * (4294967296 - h2528 75 30) + 5 < n → J h2528 → Fr 39376260300801 h2 h2528 → (2147483648 ≤ h2528 75 30 ∧ h2528 75 30 ≤ 2147503648) → X sc 259 (d + 5) (xI fun r h' => J h' ∧ Fr 39376260300801 h h' ∧ (2147483648 ≤ r ∧ r ≤ 2147483649) ∧ (r = 2147483649 → h' 75 30 ≤ 2147503648)) 0 0 12 [x_r 75, iv_c 2147483651, iv_c 2147483648, w2526, iv_c 2147483648, w2527] [] h2528) ∧ (∀ (w2532 : Nat) (w2533 : Nat) (h2534 : xh), 16 * (4294967296 - h2534 75 30) + 6 < n → J h2534 → Fr 39376260300801 h2 h2534 → (2147483648 ≤ h2534 75 30 ∧ h2534 75 30 ≤ 2147503648) → X sc 259 (d + 5) (xI fun r h' => J h' ∧ Fr 39376260300801 h h' ∧ (2147483648 ≤ r ∧ r ≤ 2147483649) ∧ (r = 2147483649 → h' 75 30 ≤ 2147503648)) 0 0 12 [x_r 75, iv_c 2147483651, iv_c 2147483649, w2532, iv_c 2147483648, w2533] [] h2534) ∧ (∀ (w2538 : Nat) (w2539 : Nat) (h2540 : xh), 16 * (4294967296 - h2540 75 30) + 7 < n → J h2540 → Fr 39376260300801 h2 h2540 → (2147483648 ≤ h2540 75 30 ∧ h2540 75 30 ≤ 2147503648) → X sc 259 (d + 5) (xI fun r h' => J h' ∧ Fr 39376260300801 h h' ∧ (2147483648 ≤ r ∧ r ≤ 2147483649) ∧ (r = 2147483649 → h' 75 30 ≤ 2147503648)) 0 0 12 [x_r 75, iv_c 2147483651, iv_c 2147483650, w2538, iv_c 2147483648, w2539] [] h2540) := by
    intro n
    induction n with
    | zero => exact ⟨fun _ _ _ z => absurd z (Nat.not_lt_zero _), fun _ _ _ z => absurd z (Nat.not_lt_zero _), fun _ _ _ z => absurd z (Nat.not_lt_zero _), fun _ _ _ z => absurd z (Nat.not_lt_zero _), fun _ _ _ z => absurd z (Nat.not_lt_zero _), fun _ _ _ z => absurd z (Nat.not_lt_zero _), fun _ _ _ z => absurd z (Nat.not_lt_zero _), fun _ _ _ z => absurd z (Nat.not_lt_zero _)⟩
    | succ n i2495 =>
      obtain ⟨i2544, i2545, i2546, i2547, i2548, i2549, i2550, i2551⟩ := i2495
      refine ⟨?_, ?_, ?_, ?_, ?_, ?_, ?_, ?_⟩
      · intro w2496 w2497 h2498 q2552 j2501 f2500 b2499
        have f2553 := Fr.trans f5 f2500 (by decide)
        refine x_iload (np := 13) (x := 2) (by decide +kernel) rfl (by decide) ?_
        refine x_ifz (k := 2) (tg := 186) (np := 16) (by decide +kernel) (by decide) (by decide) (fun q2554 => ?_) (fun q2555 => ?_)
        · have q2554 : 2147483648 < 2147483648 := q2554
          exfalso; omega
        have q2555 : ¬ (2147483648 < 2147483648) := q2555
        refine x_iload (np := 18) (x := 4) (by decide +kernel) rfl (by decide) ?_
        refine x_ifz (k := 0) (tg := 102) (np := 21) (by decide +kernel) (by decide) (by decide) (fun q2556 => ?_) (fun q2557 => ?_)
        · have q2556 : 2147483649 = 2147483648 := q2556
          exfalso; omega
        have q2557 : ¬ (2147483649 = 2147483648) := q2557
        refine x_aload (np := 22) (x := 0) (by decide +kernel) rfl (x_nc_le (by decide)) ?_
        refine x_dup (np := 23) (x := 0) (by decide +kernel) (by have z := x_nc_le (k := 75) (by decide); unfold x_r; omega) ?_
        refine x_getC (np := 26) (x := 734) (f := 30) (q := (h2498 75 30)) (by decide +kernel) (by decide) (by decide +kernel) rfl (fun l2558 => ?_)
        refine x_const (np := 27) (x := 9223372043297226753) (a := 2147483649) (by decide +kernel) (by decide) (by decide) ?_
        refine x_iadd (np := 28) (x := 0) (v := (1 + (h2498 75 30))) (by decide +kernel) l2558 (by decide) (by first | decide | omega) (by first | decide | omega) ?_
        refine x_putI (np := 31) (x := 734) (f := 30) (by decide +kernel) (by decide +kernel) (by first | decide | omega) (Or.inl (by decide)) ?_
        have j2560 := jU (e := 30) (v := (1 + (h2498 75 30))) 0 j2501 rg_75_30_0_1 (by first | decide | omega) (by first | decide | omega) (by first | decide | omega)
        have f2562 := jF (e := 30) (v := (1 + (h2498 75 30))) 0 f2553 rg_75_30_0_1 (by first | decide | omega) (by first | decide | omega) (by decide)
        have f2563 := jF (e := 30) (v := (1 + (h2498 75 30))) 0 f2500 rg_75_30_0_1 (by first | decide | omega) (by first | decide | omega) (by decide)
        generalize e2561 : x_up h2498 75 30 (1 + (h2498 75 30)) = h2559 at j2560 f2562 f2563 ⊢
        refine x_aload (np := 32) (x := 0) (by decide +kernel) rfl (x_nc_le (by decide)) ?_
        have q2564 : h2559 75 30 = (1 + (h2498 75 30)) := by rw [← e2561]; exact x_up_at
        refine x_getC (np := 35) (x := 734) (f := 30) (q := (1 + (h2498 75 30))) (by decide +kernel) (by decide) (by decide +kernel) q2564 (fun l2565 => ?_)
        refine x_const (np := 38) (x := 9223457938348199456) (a := 2147503648) (by decide +kernel) (by decide) (by decide) ?_
        refine x_icmp (k := 5) (tg := 43) (np := 41) (by decide +kernel) (by decide) (by first | decide | omega) (by decide) (fun q2566 => ?_) (fun q2567 => ?_)
        · have q2566 : (1 + (h2498 75 30)) ≤ 2147503648 := q2566
          refine x_aload (np := 44) (x := 0) (by decide +kernel) rfl (x_nc_le (by decide)) ?_
          refine x_iload (np := 45) (x := 2) (by decide +kernel) rfl (by decide) ?_
          refine x_cI (t := 6) (mj := 254) (n := 2) (rc := 12) (ml := 4) (nr := 0) (np := 48) (as := [x_r 75, iv_c 2147483648]) (rest := []) (lo1 := [x_r 75, iv_c 2147483648, 147573952589676412928, 147573952589676412928]) (by decide +kernel) (by decide) (by decide +kernel) (x_rb_of (by decide +kernel)) rfl rfl (x_wr (by decide) (x_wi (by decide) x_wn)) x_wn (by decide) rfl (c254_75 j2560  (by first | decide | omega)) (fun v2568 h2571 l2569 q2570 => ?_)
          obtain ⟨j2572, f2573, b2574⟩ := q2570
          have f2575 := Fr.trans f2562 f2573 (by decide)
          have f2576 := Fr.trans f2563 f2573 (by decide)
          refine x_istore (np := 49) (x := 3) (lo' := [x_r 75, iv_c 2147483651, iv_c 2147483648, iv_c v2568, iv_c 2147483649, w2497]) (by decide +kernel) l2569 (Nat.le_of_ble_eq_true rfl) rfl ?_
          refine x_iload (np := 50) (x := 3) (by decide +kernel) rfl l2569 ?_
          refine x_const (np := 51) (x := 9223372043297226753) (a := 2147483649) (by decide +kernel) (by decide) (by decide) ?_
          refine x_icmp (k := 1) (tg := 85) (np := 54) (by decide +kernel) (by decide) l2569 (by decide) (fun q2577 => ?_) (fun q2578 => ?_)
          · have q2577 : v2568 ≠ 2147483649 := q2577
            refine x_iload (np := 86) (x := 3) (by decide +kernel) rfl l2569 ?_
            refine x_const (np := 87) (x := 9223372043297226753) (a := 2147483649) (by decide +kernel) (by decide) (by decide) ?_
            refine x_icmp (k := 0) (tg := 95) (np := 90) (by decide +kernel) (by decide) l2569 (by decide) (fun q2579 => ?_) (fun q2580 => ?_)
            · have q2579 : v2568 = 2147483649 := q2579
              exfalso; omega
            have q2580 : ¬ (v2568 = 2147483649) := q2580
            refine x_iload (np := 91) (x := 2) (by decide +kernel) rfl (by decide) ?_
            refine x_iload (np := 92) (x := 1) (by decide +kernel) rfl (by decide) ?_
            refine x_icmp (k := 1) (tg := 102) (np := 95) (by decide +kernel) (by decide) (by decide) (by decide) (fun q2581 => ?_) (fun q2582 => ?_)
            · have q2581 : 2147483648 ≠ 2147483651 := q2581
              refine x_aload (np := 103) (x := 0) (by decide +kernel) rfl (x_nc_le (by decide)) ?_
              have q2583 : h2571 75 27 = 93 := by have z := jB (e := 27) 0 j2572 rg_75_27_0_1 (by decide) (by decide); omega
              refine x_getR (np := 106) (x := 731) (f := 27) (q := 93) (by decide +kernel) (by decide) (by decide +kernel) q2583 ?_
              refine x_iload (np := 107) (x := 2) (by decide +kernel) rfl (by decide) ?_
              have b2584 := jB (e := 0) 0 j2572 rg_93_0_1_6 (by first | decide | omega) (by first | decide | omega)
              refine x_aldC (np := 108) (x := 0) (n := 6) (i := 0) (q := (h2571 93 0)) (by decide +kernel) (by decide +kernel) (by first | decide | omega) (by first | decide | omega) (by decide) rfl (fun l2585 => ?_)
              refine x_ifz (k := 2) (tg := 122) (np := 111) (by decide +kernel) (by decide) l2585 (fun q2586 => ?_) (fun q2587 => ?_)
              · have q2586 : (h2571 93 0) < 2147483648 := q2586
                refine x_aload (np := 123) (x := 0) (by decide +kernel) rfl (x_nc_le (by decide)) ?_
                have q2588 : h2571 75 28 = 94 := by have z := jB (e := 28) 0 j2572 rg_75_28_0_1 (by decide) (by decide); omega
                refine x_getR (np := 126) (x := 732) (f := 28) (q := 94) (by decide +kernel) (by decide) (by decide +kernel) q2588 ?_
                refine x_iload (np := 127) (x := 2) (by decide +kernel) rfl (by decide) ?_
                have b2589 := jB (e := 0) 0 j2572 rg_94_0_1_6 (by first | decide | omega) (by first | decide | omega)
                refine x_aldC (np := 128) (x := 0) (n := 6) (i := 0) (q := (h2571 94 0)) (by decide +kernel) (by decide +kernel) (by first | decide | omega) (by first | decide | omega) (by decide) rfl (fun l2590 => ?_)
                refine x_ifz (k := 3) (tg := 135) (np := 131) (by decide +kernel) (by decide) l2590 (fun q2591 => ?_) (fun q2592 => ?_)
                · have q2591 : 2147483648 ≤ (h2571 94 0) := q2591
                  refine x_aload (np := 136) (x := 0) (by decide +kernel) rfl (x_nc_le (by decide)) ?_
                  refine x_iload (np := 137) (x := 2) (by decide +kernel) rfl (by decide) ?_
                  refine x_cP (t := 6) (mj := 257) (n := 2) (rc := 12) (ml := 3) (nr := 0) (np := 140) (as := [x_r 75, iv_c 2147483648]) (rest := []) (lo1 := [x_r 75, iv_c 2147483648, 147573952589676412928]) (by decide +kernel) (by decide) (by decide +kernel) (x_rb_of (by decide +kernel)) rfl rfl (x_wr (by decide) (x_wi (by decide) x_wn)) x_wn (by decide) rfl (c257_75_c0 j2572   (by first | decide | omega)) (fun v2593 l2594 q2595 => ?_)
                  refine x_istore (np := 142) (x := 5) (lo' := [x_r 75, iv_c 2147483651, iv_c 2147483648, iv_c v2568, iv_c 2147483649, iv_c v2593]) (by decide +kernel) l2594 (Nat.le_of_ble_eq_true rfl) rfl ?_
                  refine x_iload (np := 144) (x := 5) (by decide +kernel) rfl l2594 ?_
                  refine x_ifz (k := 2) (tg := 151) (np := 147) (by decide +kernel) (by decide) l2594 (fun q2596 => ?_) (fun q2597 => ?_)
                  · have q2596 : v2593 < 2147483648 := q2596
                    refine x_const (np := 152) (x := 9223372039002259456) (a := 2147483648) (by decide +kernel) (by decide) (by decide) ?_
                    refine x_istore (np := 154) (x := 4) (lo' := [x_r 75, iv_c 2147483651, iv_c 2147483648, iv_c v2568, iv_c 2147483648, iv_c v2593]) (by decide +kernel) (by decide) (Nat.le_of_ble_eq_true rfl) rfl ?_
                    refine x_iload (np := 156) (x := 4) (by decide +kernel) rfl (by decide) ?_
                    refine x_ifz (k := 0) (tg := 180) (np := 159) (by decide +kernel) (by decide) (by decide) (fun q2598 => ?_) (fun q2599 => ?_)
                    · have q2598 : 2147483648 = 2147483648 := q2598
                      refine x_iinc (np := 183) (i := 2) (j := 2147483647) (v := 2147483647) (lo' := [x_r 75, iv_c 2147483651, iv_c 2147483647, iv_c v2568, iv_c 2147483648, iv_c v2593]) (by decide +kernel) (by decide) (by decide) rfl (by decide) (by first | decide | omega) (by first | decide | omega) rfl ?_
                      refine x_goto (np := 186) (x := 12) (by decide +kernel) ?_
                      have q2600 : h2571 75 30 = h2559 75 30 := jK 0 f2573 rg_75_30_0_1 (by first | decide | omega) (by first | decide | omega) (by decide)
                      have q2601 : h2559 75 30 = (1 + (h2498 75 30)) := by rw [← e2561]; exact x_up_at
                      exact i2548 (iv_c v2568) (iv_c v2593) h2571 (by first | decide | omega) j2572 f2576 (by first | decide | omega)
                    have q2599 : ¬ (2147483648 = 2147483648) := q2599
                    exfalso; omega
                  have q2597 : ¬ (v2593 < 2147483648) := q2597
                  refine x_const (np := 148) (x := 9223372043297226753) (a := 2147483649) (by decide +kernel) (by decide) (by decide) ?_
                  refine x_goto (np := 151) (x := 152) (by decide +kernel) ?_
                  refine x_istore (np := 154) (x := 4) (lo' := [x_r 75, iv_c 2147483651, iv_c 2147483648, iv_c v2568, iv_c 2147483649, iv_c v2593]) (by decide +kernel) (by decide) (Nat.le_of_ble_eq_true rfl) rfl ?_
                  refine x_iload (np := 156) (x := 4) (by decide +kernel) rfl (by decide) ?_
                  refine x_ifz (k := 0) (tg := 180) (np := 159) (by decide +kernel) (by decide) (by decide) (fun q2602 => ?_) (fun q2603 => ?_)
                  · have q2602 : 2147483649 = 2147483648 := q2602
                    exfalso; omega
                  have q2603 : ¬ (2147483649 = 2147483648) := q2603
                  refine x_aload (np := 160) (x := 0) (by decide +kernel) rfl (x_nc_le (by decide)) ?_
                  have q2604 : h2571 75 27 = 93 := by have z := jB (e := 27) 0 j2572 rg_75_27_0_1 (by decide) (by decide); omega
                  refine x_getR (np := 163) (x := 731) (f := 27) (q := 93) (by decide +kernel) (by decide) (by decide +kernel) q2604 ?_
                  refine x_iload (np := 164) (x := 2) (by decide +kernel) rfl (by decide) ?_
                  refine x_iload (np := 166) (x := 5) (by decide +kernel) rfl l2594 ?_
                  refine x_ast (np := 167) (x := 0) (kd := 1) (n := 6) (i := 0) (by decide +kernel) (Or.inl rfl) (by decide +kernel) (by first | decide | omega) (by first | decide | omega) (by decide) l2594 (fun z => absurd z (by decide)) ?_
                  have j2606 := jU (e := 0) (v := v2593) 0 j2572 rg_93_0_1_6 (by first | decide | omega) (by first | decide | omega) (by first | decide | omega)
                  have f2608 := jF (e := 0) (v := v2593) 0 f2575 rg_93_0_1_6 (by first | decide | omega) (by first | decide | omega) (by decide)
                  have f2609 := jF (e := 0) (v := v2593) 0 f2576 rg_93_0_1_6 (by first | decide | omega) (by first | decide | omega) (by decide)
                  generalize e2607 : x_up h2571 93 0 v2593 = h2605 at j2606 f2608 f2609 ⊢
                  refine x_aload (np := 168) (x := 0) (by decide +kernel) rfl (x_nc_le (by decide)) ?_
                  refine x_iload (np := 170) (x := 5) (by decide +kernel) rfl l2594 ?_
                  refine x_const (np := 171) (x := 9223372043297226753) (a := 2147483649) (by decide +kernel) (by decide) (by decide) ?_
                  refine x_cV (t := 6) (mj := 248) (n := 3) (rc := 12) (ml := 4) (nr := 0) (np := 174) (as := [x_r 75, iv_c v2593, iv_c 2147483649]) (rest := []) (lo1 := [x_r 75, iv_c v2593, iv_c 2147483649, 147573952589676412928]) (by decide +kernel) (by decide) (by decide +kernel) (x_rb_of (by decide +kernel)) rfl rfl (x_wr (by decide) (x_wi l2594 (x_wi (by decide) x_wn))) x_wn (by decide) rfl (c248_75 j2606  (by first | decide | omega) (by first | decide | omega)) (fun h2613 q2612 => ?_)
                  obtain ⟨j2614, f2615⟩ := q2612
                  have f2618 := Fr.trans f2608 f2615 (by decide)
                  have f2619 := Fr.trans f2609 f2615 (by decide)
                  refine x_iinc (np := 177) (i := 2) (j := 2147483649) (v := 2147483649) (lo' := [x_r 75, iv_c 2147483651, iv_c 2147483649, iv_c v2568, iv_c 2147483649, iv_c v2593]) (by decide +kernel) (by decide) (by decide) rfl (by decide) (by first | decide | omega) (by first | decide | omega) rfl ?_
                  refine x_goto (np := 180) (x := 183) (by decide +kernel) ?_
                  refine x_goto (np := 186) (x := 12) (by decide +kernel) ?_
                  have q2620 : h2613 75 30 = h2605 75 30 := jK 0 f2615 rg_75_30_0_1 (by first | decide | omega) (by first | decide | omega) (by decide)
                  have q2621 : h2605 75 30 = h2571 75 30 := by rw [← e2607]; exact x_up_k (by decide)
                  have q2622 : h2571 75 30 = h2559 75 30 := jK 0 f2573 rg_75_30_0_1 (by first | decide | omega) (by first | decide | omega) (by decide)
                  have q2623 : h2559 75 30 = (1 + (h2498 75 30)) := by rw [← e2561]; exact x_up_at
                  exact i2545 (iv_c v2568) (iv_c v2593) h2613 (by first | decide | omega) j2614 f2619 (by first | decide | omega)
                have q2592 : ¬ (2147483648 ≤ (h2571 94 0)) := q2592
                refine x_const (np := 132) (x := 9223372034707292159) (a := 2147483647) (by decide +kernel) (by decide) (by decide) ?_
                refine x_goto (np := 135) (x := 140) (by decide +kernel) ?_
                refine x_istore (np := 142) (x := 5) (lo' := [x_r 75, iv_c 2147483651, iv_c 2147483648, iv_c v2568, iv_c 2147483649, iv_c 2147483647]) (by decide +kernel) (by decide) (Nat.le_of_ble_eq_true rfl) rfl ?_
                refine x_iload (np := 144) (x := 5) (by decide +kernel) rfl (by decide) ?_
                refine x_ifz (k := 2) (tg := 151) (np := 147) (by decide +kernel) (by decide) (by decide) (fun q2624 => ?_) (fun q2625 => ?_)
                · have q2624 : 2147483647 < 2147483648 := q2624
                  refine x_const (np := 152) (x := 9223372039002259456) (a := 2147483648) (by decide +kernel) (by decide) (by decide) ?_
                  refine x_istore (np := 154) (x := 4) (lo' := [x_r 75, iv_c 2147483651, iv_c 2147483648, iv_c v2568, iv_c 2147483648, iv_c 2147483647]) (by decide +kernel) (by decide) (Nat.le_of_ble_eq_true rfl) rfl ?_
                  refine x_iload (np := 156) (x := 4) (by decide +kernel) rfl (by decide) ?_
                  refine x_ifz (k := 0) (tg := 180) (np := 159) (by decide +kernel) (by decide) (by decide) (fun q2626 => ?_) (fun q2627 => ?_)
                  · have q2626 : 2147483648 = 2147483648 := q2626
                    refine x_iinc (np := 183) (i := 2) (j := 2147483647) (v := 2147483647) (lo' := [x_r 75, iv_c 2147483651, iv_c 2147483647, iv_c v2568, iv_c 2147483648, iv_c 2147483647]) (by decide +kernel) (by decide) (by decide) rfl (by decide) (by first | decide | omega) (by first | decide | omega) rfl ?_
                    refine x_goto (np := 186) (x := 12) (by decide +kernel) ?_
                    have q2628 : h2571 75 30 = h2559 75 30 := jK 0 f2573 rg_75_30_0_1 (by first | decide | omega) (by first | decide | omega) (by decide)
                    have q2629 : h2559 75 30 = (1 + (h2498 75 30)) := by rw [← e2561]; exact x_up_at
                    exact i2548 (iv_c v2568) (iv_c 2147483647) h2571 (by first | decide | omega) j2572 f2576 (by first | decide | omega)
                  have q2627 : ¬ (2147483648 = 2147483648) := q2627
                  exfalso; omega
                have q2625 : ¬ (2147483647 < 2147483648) := q2625
                exfalso; omega
              have q2587 : ¬ ((h2571 93 0) < 2147483648) := q2587
              refine x_aload (np := 112) (x := 0) (by decide +kernel) rfl (x_nc_le (by decide)) ?_
              refine x_aload (np := 113) (x := 0) (by decide +kernel) rfl (x_nc_le (by decide)) ?_
              have q2630 : h2571 75 27 = 93 := by have z := jB (e := 27) 0 j2572 rg_75_27_0_1 (by decide) (by decide); omega
              refine x_getR (np := 116) (x := 731) (f := 27) (q := 93) (by decide +kernel) (by decide) (by decide +kernel) q2630 ?_
              refine x_iload (np := 117) (x := 2) (by decide +kernel) rfl (by decide) ?_
              refine x_aldC (np := 118) (x := 0) (n := 6) (i := 0) (q := (h2571 93 0)) (by decide +kernel) (by decide +kernel) (by first | decide | omega) (by first | decide | omega) (by decide) rfl (fun l2631 => ?_)
              refine x_const (np := 119) (x := 9223372039002259456) (a := 2147483648) (by decide +kernel) (by decide) (by decide) ?_
              refine x_cV (t := 6) (mj := 248) (n := 3) (rc := 12) (ml := 4) (nr := 0) (np := 122) (as := [x_r 75, iv_c (h2571 93 0), iv_c 2147483648]) (rest := []) (lo1 := [x_r 75, iv_c (h2571 93 0), iv_c 2147483648, 147573952589676412928]) (by decide +kernel) (by decide) (by decide +kernel) (x_rb_of (by decide +kernel)) rfl rfl (x_wr (by decide) (x_wi l2585 (x_wi (by decide) x_wn))) x_wn (by decide) rfl (c248_75 j2572  (by first | decide | omega) (by first | decide | omega)) (fun h2635 q2634 => ?_)
              obtain ⟨j2636, f2637⟩ := q2634
              have f2640 := Fr.trans f2575 f2637 (by decide)
              have f2641 := Fr.trans f2576 f2637 (by decide)
              refine x_aload (np := 123) (x := 0) (by decide +kernel) rfl (x_nc_le (by decide)) ?_
              have q2642 : h2635 75 28 = 94 := by have z := jB (e := 28) 0 j2636 rg_75_28_0_1 (by decide) (by decide); omega
              refine x_getR (np := 126) (x := 732) (f := 28) (q := 94) (by decide +kernel) (by decide) (by decide +kernel) q2642 ?_
              refine x_iload (np := 127) (x := 2) (by decide +kernel) rfl (by decide) ?_
              have q2643 : h2635 94 0 = h2571 94 0 := jK 0 f2637 rg_94_0_1_6 (by first | decide | omega) (by first | decide | omega) (by decide)
              have b2644 := jB (e := 0) 0 j2572 rg_94_0_1_6 (by first | decide | omega) (by first | decide | omega)
              refine x_aldC (np := 128) (x := 0) (n := 6) (i := 0) (q := (h2571 94 0)) (by decide +kernel) (by decide +kernel) (by first | decide | omega) (by first | decide | omega) (by decide) q2643 (fun l2645 => ?_)
              refine x_ifz (k := 3) (tg := 135) (np := 131) (by decide +kernel) (by decide) l2645 (fun q2646 => ?_) (fun q2647 => ?_)
              · have q2646 : 2147483648 ≤ (h2571 94 0) := q2646
                refine x_aload (np := 136) (x := 0) (by decide +kernel) rfl (x_nc_le (by decide)) ?_
                refine x_iload (np := 137) (x := 2) (by decide +kernel) rfl (by decide) ?_
                have q2648 : h2635 94 0 = h2571 94 0 := jK 0 f2637 rg_94_0_1_6 (by first | decide | omega) (by first | decide | omega) (by decide)
                refine x_cP (t := 6) (mj := 257) (n := 2) (rc := 12) (ml := 3) (nr := 0) (np := 140) (as := [x_r 75, iv_c 2147483648]) (rest := []) (lo1 := [x_r 75, iv_c 2147483648, 147573952589676412928]) (by decide +kernel) (by decide) (by decide +kernel) (x_rb_of (by decide +kernel)) rfl rfl (x_wr (by decide) (x_wi (by decide) x_wn)) x_wn (by decide) rfl (c257_75_c0 j2636   (by first | decide | omega)) (fun v2649 l2650 q2651 => ?_)
                refine x_istore (np := 142) (x := 5) (lo' := [x_r 75, iv_c 2147483651, iv_c 2147483648, iv_c v2568, iv_c 2147483649, iv_c v2649]) (by decide +kernel) l2650 (Nat.le_of_ble_eq_true rfl) rfl ?_
                refine x_iload (np := 144) (x := 5) (by decide +kernel) rfl l2650 ?_
                refine x_ifz (k := 2) (tg := 151) (np := 147) (by decide +kernel) (by decide) l2650 (fun q2652 => ?_) (fun q2653 => ?_)
                · have q2652 : v2649 < 2147483648 := q2652
                  refine x_const (np := 152) (x := 9223372039002259456) (a := 2147483648) (by decide +kernel) (by decide) (by decide) ?_
                  refine x_istore (np := 154) (x := 4) (lo' := [x_r 75, iv_c 2147483651, iv_c 2147483648, iv_c v2568, iv_c 2147483648, iv_c v2649]) (by decide +kernel) (by decide) (Nat.le_of_ble_eq_true rfl) rfl ?_
                  refine x_iload (np := 156) (x := 4) (by decide +kernel) rfl (by decide) ?_
                  refine x_ifz (k := 0) (tg := 180) (np := 159) (by decide +kernel) (by decide) (by decide) (fun q2654 => ?_) (fun q2655 => ?_)
                  · have q2654 : 2147483648 = 2147483648 := q2654
                    refine x_iinc (np := 183) (i := 2) (j := 2147483647) (v := 2147483647) (lo' := [x_r 75, iv_c 2147483651, iv_c 2147483647, iv_c v2568, iv_c 2147483648, iv_c v2649]) (by decide +kernel) (by decide) (by decide) rfl (by decide) (by first | decide | omega) (by first | decide | omega) rfl ?_
                    refine x_goto (np := 186) (x := 12) (by decide +kernel) ?_
                    have q2656 : h2635 75 30 = h2571 75 30 := jK 0 f2637 rg_75_30_0_1 (by first | decide | omega) (by first | decide | omega) (by decide)
                    have q2657 : h2571 75 30 = h2559 75 30 := jK 0 f2573 rg_75_30_0_1 (by first | decide | omega) (by first | decide | omega) (by decide)
                    have q2658 : h2559 75 30 = (1 + (h2498 75 30)) := by rw [← e2561]; exact x_up_at
                    exact i2548 (iv_c v2568) (iv_c v2649) h2635 (by first | decide | omega) j2636 f2641 (by first | decide | omega)
                  have q2655 : ¬ (2147483648 = 2147483648) := q2655
                  exfalso; omega
                have q2653 : ¬ (v2649 < 2147483648) := q2653
                refine x_const (np := 148) (x := 9223372043297226753) (a := 2147483649) (by decide +kernel) (by decide) (by decide) ?_
                refine x_goto (np := 151) (x := 152) (by decide +kernel) ?_
                refine x_istore (np := 154) (x := 4) (lo' := [x_r 75, iv_c 2147483651, iv_c 2147483648, iv_c v2568, iv_c 2147483649, iv_c v2649]) (by decide +kernel) (by decide) (Nat.le_of_ble_eq_true rfl) rfl ?_
                refine x_iload (np := 156) (x := 4) (by decide +kernel) rfl (by decide) ?_
                refine x_ifz (k := 0) (tg := 180) (np := 159) (by decide +kernel) (by decide) (by decide) (fun q2659 => ?_) (fun q2660 => ?_)
                · have q2659 : 2147483649 = 2147483648 := q2659
                  exfalso; omega
                have q2660 : ¬ (2147483649 = 2147483648) := q2660
                refine x_aload (np := 160) (x := 0) (by decide +kernel) rfl (x_nc_le (by decide)) ?_
                have q2661 : h2635 75 27 = 93 := by have z := jB (e := 27) 0 j2636 rg_75_27_0_1 (by decide) (by decide); omega
                refine x_getR (np := 163) (x := 731) (f := 27) (q := 93) (by decide +kernel) (by decide) (by decide +kernel) q2661 ?_
                refine x_iload (np := 164) (x := 2) (by decide +kernel) rfl (by decide) ?_
                refine x_iload (np := 166) (x := 5) (by decide +kernel) rfl l2650 ?_
                refine x_ast (np := 167) (x := 0) (kd := 1) (n := 6) (i := 0) (by decide +kernel) (Or.inl rfl) (by decide +kernel) (by first | decide | omega) (by first | decide | omega) (by decide) l2650 (fun z => absurd z (by decide)) ?_
                have j2663 := jU (e := 0) (v := v2649) 0 j2636 rg_93_0_1_6 (by first | decide | omega) (by first | decide | omega) (by first | decide | omega)
                have f2665 := jF (e := 0) (v := v2649) 0 f2640 rg_93_0_1_6 (by first | decide | omega) (by first | decide | omega) (by decide)
                have f2666 := jF (e := 0) (v := v2649) 0 f2641 rg_93_0_1_6 (by first | decide | omega) (by first | decide | omega) (by decide)
                generalize e2664 : x_up h2635 93 0 v2649 = h2662 at j2663 f2665 f2666 ⊢
                refine x_aload (np := 168) (x := 0) (by decide +kernel) rfl (x_nc_le (by decide)) ?_
                refine x_iload (np := 170) (x := 5) (by decide +kernel) rfl l2650 ?_
                refine x_const (np := 171) (x := 9223372043297226753) (a := 2147483649) (by decide +kernel) (by decide) (by decide) ?_
                refine x_cV (t := 6) (mj := 248) (n := 3) (rc := 12) (ml := 4) (nr := 0) (np := 174) (as := [x_r 75, iv_c v2649, iv_c 2147483649]) (rest := []) (lo1 := [x_r 75, iv_c v2649, iv_c 2147483649, 147573952589676412928]) (by decide +kernel) (by decide) (by decide +kernel) (x_rb_of (by decide +kernel)) rfl rfl (x_wr (by decide) (x_wi l2650 (x_wi (by decide) x_wn))) x_wn (by decide) rfl (c248_75 j2663  (by first | decide | omega) (by first | decide | omega)) (fun h2670 q2669 => ?_)
                obtain ⟨j2671, f2672⟩ := q2669
                have f2675 := Fr.trans f2665 f2672 (by decide)
                have f2676 := Fr.trans f2666 f2672 (by decide)
                refine x_iinc (np := 177) (i := 2) (j := 2147483649) (v := 2147483649) (lo' := [x_r 75, iv_c 2147483651, iv_c 2147483649, iv_c v2568, iv_c 2147483649, iv_c v2649]) (by decide +kernel) (by decide) (by decide) rfl (by decide) (by first | decide | omega) (by first | decide | omega) rfl ?_
                refine x_goto (np := 180) (x := 183) (by decide +kernel) ?_
                refine x_goto (np := 186) (x := 12) (by decide +kernel) ?_
                have q2677 : h2670 75 30 = h2662 75 30 := jK 0 f2672 rg_75_30_0_1 (by first | decide | omega) (by first | decide | omega) (by decide)
                have q2678 : h2662 75 30 = h2635 75 30 := by rw [← e2664]; exact x_up_k (by decide)
                have q2679 : h2635 75 30 = h2571 75 30 := jK 0 f2637 rg_75_30_0_1 (by first | decide | omega) (by first | decide | omega) (by decide)
                have q2680 : h2571 75 30 = h2559 75 30 := jK 0 f2573 rg_75_30_0_1 (by first | decide | omega) (by first | decide | omega) (by decide)
                have q2681 : h2559 75 30 = (1 + (h2498 75 30)) := by rw [← e2561]; exact x_up_at
                exact i2545 (iv_c v2568) (iv_c v2649) h2670 (by first | decide | omega) j2671 f2676 (by first | decide | omega)
              have q2647 : ¬ (2147483648 ≤ (h2571 94 0)) := q2647
              refine x_const (np := 132) (x := 9223372034707292159) (a := 2147483647) (by decide +kernel) (by decide) (by decide) ?_
              refine x_goto (np := 135) (x := 140) (by decide +kernel) ?_
              refine x_istore (np := 142) (x := 5) (lo' := [x_r 75, iv_c 2147483651, iv_c 2147483648, iv_c v2568, iv_c 2147483649, iv_c 2147483647]) (by decide +kernel) (by decide) (Nat.le_of_ble_eq_true rfl) rfl ?_
              refine x_iload (np := 144) (x := 5) (by decide +kernel) rfl (by decide) ?_
              refine x_ifz (k := 2) (tg := 151) (np := 147) (by decide +kernel) (by decide) (by decide) (fun q2682 => ?_) (fun q2683 => ?_)
              · have q2682 : 2147483647 < 2147483648 := q2682
                refine x_const (np := 152) (x := 9223372039002259456) (a := 2147483648) (by decide +kernel) (by decide) (by decide) ?_
                refine x_istore (np := 154) (x := 4) (lo' := [x_r 75, iv_c 2147483651, iv_c 2147483648, iv_c v2568, iv_c 2147483648, iv_c 2147483647]) (by decide +kernel) (by decide) (Nat.le_of_ble_eq_true rfl) rfl ?_
                refine x_iload (np := 156) (x := 4) (by decide +kernel) rfl (by decide) ?_
                refine x_ifz (k := 0) (tg := 180) (np := 159) (by decide +kernel) (by decide) (by decide) (fun q2684 => ?_) (fun q2685 => ?_)
                · have q2684 : 2147483648 = 2147483648 := q2684
                  refine x_iinc (np := 183) (i := 2) (j := 2147483647) (v := 2147483647) (lo' := [x_r 75, iv_c 2147483651, iv_c 2147483647, iv_c v2568, iv_c 2147483648, iv_c 2147483647]) (by decide +kernel) (by decide) (by decide) rfl (by decide) (by first | decide | omega) (by first | decide | omega) rfl ?_
                  refine x_goto (np := 186) (x := 12) (by decide +kernel) ?_
                  have q2686 : h2635 75 30 = h2571 75 30 := jK 0 f2637 rg_75_30_0_1 (by first | decide | omega) (by first | decide | omega) (by decide)
                  have q2687 : h2571 75 30 = h2559 75 30 := jK 0 f2573 rg_75_30_0_1 (by first | decide | omega) (by first | decide | omega) (by decide)
                  have q2688 : h2559 75 30 = (1 + (h2498 75 30)) := by rw [← e2561]; exact x_up_at
                  exact i2548 (iv_c v2568) (iv_c 2147483647) h2635 (by first | decide | omega) j2636 f2641 (by first | decide | omega)
                have q2685 : ¬ (2147483648 = 2147483648) := q2685
                exfalso; omega
              have q2683 : ¬ (2147483647 < 2147483648) := q2683
              exfalso; omega
            have q2582 : ¬ (2147483648 ≠ 2147483651) := q2582
            exfalso; omega
          have q2578 : ¬ (v2568 ≠ 2147483649) := q2578
          refine x_aload (np := 55) (x := 0) (by decide +kernel) rfl (x_nc_le (by decide)) ?_
          have q2689 : h2571 75 34 = h2559 75 34 := jK 0 f2573 rg_75_34_0_1 (by first | decide | omega) (by first | decide | omega) (by decide)
          have q2690 : h2559 75 34 = h2498 75 34 := by rw [← e2561]; exact x_up_i (by first | decide | omega)
          refine x_getC (np := 58) (x := 738) (f := 34) (q := (h2498 75 34)) (by decide +kernel) (by decide) (by decide +kernel) (q2689.trans q2690) (fun l2691 => ?_)
          refine x_ifz (k := 1) (tg := 66) (np := 61) (by decide +kernel) (by decide) l2691 (fun q2692 => ?_) (fun q2693 => ?_)
          · have q2692 : (h2498 75 34) ≠ 2147483648 := q2692
            refine x_aload (np := 67) (x := 0) (by decide +kernel) rfl (x_nc_le (by decide)) ?_
            refine x_dup (np := 68) (x := 0) (by decide +kernel) (by have z := x_nc_le (k := 75) (by decide); unfold x_r; omega) ?_
            have q2694 : h2571 75 34 = h2559 75 34 := jK 0 f2573 rg_75_34_0_1 (by first | decide | omega) (by first | decide | omega) (by decide)
            have q2695 : h2559 75 34 = h2498 75 34 := by rw [← e2561]; exact x_up_i (by first | decide | omega)
            refine x_getC (np := 71) (x := 738) (f := 34) (q := (h2498 75 34)) (by decide +kernel) (by decide) (by decide +kernel) (q2694.trans q2695) (fun l2696 => ?_)
            refine x_const (np := 72) (x := 9223372043297226753) (a := 2147483649) (by decide +kernel) (by decide) (by decide) ?_
            refine x_addA (by rw [tb_b259]; decide +kernel) l2691 (by decide) (fun v2697 l2698 => ?_)
            refine x_putI (np := 76) (x := 738) (f := 34) (by decide +kernel) (by decide +kernel) l2698 (Or.inl (by decide)) ?_
            have j2700 := jU (e := 34) (v := v2697) 0 j2572 rg_75_34_0_1 (by first | decide | omega) (by first | decide | omega) (by first | decide | omega)
            have f2702 := jF (e := 34) (v := v2697) 0 f2575 rg_75_34_0_1 (by first | decide | omega) (by first | decide | omega) (by decide)
            have f2703 := jF (e := 34) (v := v2697) 0 f2576 rg_75_34_0_1 (by first | decide | omega) (by first | decide | omega) (by decide)
            generalize e2701 : x_up h2571 75 34 v2697 = h2699 at j2700 f2702 f2703 ⊢
            refine x_aload (np := 77) (x := 0) (by decide +kernel) rfl (x_nc_le (by decide)) ?_
            have q2704 : h2699 75 33 = h2571 75 33 := by rw [← e2701]; exact x_up_i (by first | decide | omega)
            have q2705 : h2571 75 33 = h2559 75 33 := jK 0 f2573 rg_75_33_0_1 (by first | decide | omega) (by first | decide | omega) (by decide)
            have q2706 : h2559 75 33 = h2498 75 33 := by rw [← e2561]; exact x_up_i (by first | decide | omega)
            have q2707 : h2498 75 33 = h2 75 33 := jK 0 f2500 rg_75_33_0_1 (by first | decide | omega) (by first | decide | omega) (by decide)
            have q2708 : h2 75 33 = h 75 33 := by rw [← e4]; exact x_up_i (by first | decide | omega)
            have b2709 := jB (e := 33) 0 hJ rg_75_33_0_1 (by first | decide | omega) (by first | decide | omega)
            refine x_getC (np := 80) (x := 737) (f := 33) (q := (h 75 33)) (by decide +kernel) (by decide) (by decide +kernel) ((((q2704.trans q2705).trans q2706).trans q2707).trans q2708) (fun l2710 => ?_)
            refine x_ifz (k := 0) (tg := 85) (np := 83) (by decide +kernel) (by decide) l2710 (fun q2711 => ?_) (fun q2712 => ?_)
            · have q2711 : (h 75 33) = 2147483648 := q2711
              refine x_iload (np := 86) (x := 3) (by decide +kernel) rfl l2569 ?_
              refine x_const (np := 87) (x := 9223372043297226753) (a := 2147483649) (by decide +kernel) (by decide) (by decide) ?_
              refine x_icmp (k := 0) (tg := 95) (np := 90) (by decide +kernel) (by decide) l2569 (by decide) (fun q2713 => ?_) (fun q2714 => ?_)
              · have q2713 : v2568 = 2147483649 := q2713
                refine x_aload (np := 96) (x := 0) (by decide +kernel) rfl (x_nc_le (by decide)) ?_
                have q2715 : h2699 75 28 = 94 := by have z := jB (e := 28) 0 j2700 rg_75_28_0_1 (by decide) (by decide); omega
                refine x_getR (np := 99) (x := 732) (f := 28) (q := 94) (by decide +kernel) (by decide) (by decide +kernel) q2715 ?_
                refine x_iload (np := 100) (x := 2) (by decide +kernel) rfl (by decide) ?_
                refine x_const (np := 101) (x := 9223372034707292159) (a := 2147483647) (by decide +kernel) (by decide) (by decide) ?_
                refine x_ast (np := 102) (x := 0) (kd := 1) (n := 6) (i := 0) (by decide +kernel) (Or.inl rfl) (by decide +kernel) (by first | decide | omega) (by first | decide | omega) (by decide) (by decide) (fun z => absurd z (by decide)) ?_
                have j2717 := jU (e := 0) (v := 2147483647) 0 j2700 rg_94_0_1_6 (by first | decide | omega) (by first | decide | omega) (by first | decide | omega)
                have f2719 := jF (e := 0) (v := 2147483647) 0 f2702 rg_94_0_1_6 (by first | decide | omega) (by first | decide | omega) (by decide)
                have f2720 := jF (e := 0) (v := 2147483647) 0 f2703 rg_94_0_1_6 (by first | decide | omega) (by first | decide | omega) (by decide)
                generalize e2718 : x_up h2699 94 0 2147483647 = h2716 at j2717 f2719 f2720 ⊢
                refine x_aload (np := 103) (x := 0) (by decide +kernel) rfl (x_nc_le (by decide)) ?_
                have q2721 : h2716 75 27 = 93 := by have z := jB (e := 27) 0 j2717 rg_75_27_0_1 (by decide) (by decide); omega
                refine x_getR (np := 106) (x := 731) (f := 27) (q := 93) (by decide +kernel) (by decide) (by decide +kernel) q2721 ?_
                refine x_iload (np := 107) (x := 2) (by decide +kernel) rfl (by decide) ?_
                have q2722 : h2716 93 0 = h2699 93 0 := by rw [← e2718]; exact x_up_k (by decide)
                have q2723 : h2699 93 0 = h2571 93 0 := by rw [← e2701]; exact x_up_k (by decide)
                have b2724 := jB (e := 0) 0 j2572 rg_93_0_1_6 (by first | decide | omega) (by first | decide | omega)
                refine x_aldC (np := 108) (x := 0) (n := 6) (i := 0) (q := (h2571 93 0)) (by decide +kernel) (by decide +kernel) (by first | decide | omega) (by first | decide | omega) (by decide) (q2722.trans q2723) (fun l2725 => ?_)
                refine x_ifz (k := 2) (tg := 122) (np := 111) (by decide +kernel) (by decide) l2725 (fun q2726 => ?_) (fun q2727 => ?_)
                · have q2726 : (h2571 93 0) < 2147483648 := q2726
                  refine x_aload (np := 123) (x := 0) (by decide +kernel) rfl (x_nc_le (by decide)) ?_
                  have q2728 : h2716 75 28 = 94 := by have z := jB (e := 28) 0 j2717 rg_75_28_0_1 (by decide) (by decide); omega
                  refine x_getR (np := 126) (x := 732) (f := 28) (q := 94) (by decide +kernel) (by decide) (by decide +kernel) q2728 ?_
                  refine x_iload (np := 127) (x := 2) (by decide +kernel) rfl (by decide) ?_
                  have q2729 : h2716 94 0 = 2147483647 := by rw [← e2718]; exact x_up_at
                  refine x_aldC (np := 128) (x := 0) (n := 6) (i := 0) (q := 2147483647) (by decide +kernel) (by decide +kernel) (by first | decide | omega) (by first | decide | omega) (by decide) q2729 (fun l2730 => ?_)
                  refine x_ifz (k := 3) (tg := 135) (np := 131) (by decide +kernel) (by decide) (by decide) (fun q2731 => ?_) (fun q2732 => ?_)
                  · have q2731 : 2147483648 ≤ 2147483647 := q2731
                    exfalso; omega
                  have q2732 : ¬ (2147483648 ≤ 2147483647) := q2732
                  refine x_const (np := 132) (x := 9223372034707292159) (a := 2147483647) (by decide +kernel) (by decide) (by decide) ?_
                  refine x_goto (np := 135) (x := 140) (by decide +kernel) ?_
                  refine x_istore (np := 142) (x := 5) (lo' := [x_r 75, iv_c 2147483651, iv_c 2147483648, iv_c v2568, iv_c 2147483649, iv_c 2147483647]) (by decide +kernel) (by decide) (Nat.le_of_ble_eq_true rfl) rfl ?_
                  refine x_iload (np := 144) (x := 5) (by decide +kernel) rfl (by decide) ?_
                  refine x_ifz (k := 2) (tg := 151) (np := 147) (by decide +kernel) (by decide) (by decide) (fun q2733 => ?_) (fun q2734 => ?_)
                  · have q2733 : 2147483647 < 2147483648 := q2733
                    refine x_const (np := 152) (x := 9223372039002259456) (a := 2147483648) (by decide +kernel) (by decide) (by decide) ?_
                    refine x_istore (np := 154) (x := 4) (lo' := [x_r 75, iv_c 2147483651, iv_c 2147483648, iv_c v2568, iv_c 2147483648, iv_c 2147483647]) (by decide +kernel) (by decide) (Nat.le_of_ble_eq_true rfl) rfl ?_
                    refine x_iload (np := 156) (x := 4) (by decide +kernel) rfl (by decide) ?_
                    refine x_ifz (k := 0) (tg := 180) (np := 159) (by decide +kernel) (by decide) (by decide) (fun q2735 => ?_) (fun q2736 => ?_)
                    · have q2735 : 2147483648 = 2147483648 := q2735
                      refine x_iinc (np := 183) (i := 2) (j := 2147483647) (v := 2147483647) (lo' := [x_r 75, iv_c 2147483651, iv_c 2147483647, iv_c v2568, iv_c 2147483648, iv_c 2147483647]) (by decide +kernel) (by decide) (by decide) rfl (by decide) (by first | decide | omega) (by first | decide | omega) rfl ?_
                      refine x_goto (np := 186) (x := 12) (by decide +kernel) ?_
                      have q2737 : h2716 75 30 = h2699 75 30 := by rw [← e2718]; exact x_up_k (by decide)
                      have q2738 : h2699 75 30 = h2571 75 30 := by rw [← e2701]; exact x_up_i (by first | decide | omega)
                      have q2739 : h2571 75 30 = h2559 75 30 := jK 0 f2573 rg_75_30_0_1 (by first | decide | omega) (by first | decide | omega) (by decide)
                      have q2740 : h2559 75 30 = (1 + (h2498 75 30)) := by rw [← e2561]; exact x_up_at
                      exact i2548 (iv_c v2568) (iv_c 2147483647) h2716 (by first | decide | omega) j2717 f2720 (by first | decide | omega)
                    have q2736 : ¬ (2147483648 = 2147483648) := q2736
                    exfalso; omega
                  have q2734 : ¬ (2147483647 < 2147483648) := q2734
                  exfalso; omega
                have q2727 : ¬ ((h2571 93 0) < 2147483648) := q2727
                refine x_aload (np := 112) (x := 0) (by decide +kernel) rfl (x_nc_le (by decide)) ?_
                refine x_aload (np := 113) (x := 0) (by decide +kernel) rfl (x_nc_le (by decide)) ?_
                have q2741 : h2716 75 27 = 93 := by have z := jB (e := 27) 0 j2717 rg_75_27_0_1 (by decide) (by decide); omega
                refine x_getR (np := 116) (x := 731) (f := 27) (q := 93) (by decide +kernel) (by decide) (by decide +kernel) q2741 ?_
                refine x_iload (np := 117) (x := 2) (by decide +kernel) rfl (by decide) ?_
                have q2742 : h2716 93 0 = h2699 93 0 := by rw [← e2718]; exact x_up_k (by decide)
                have q2743 : h2699 93 0 = h2571 93 0 := by rw [← e2701]; exact x_up_k (by decide)
                refine x_aldC (np := 118) (x := 0) (n := 6) (i := 0) (q := (h2571 93 0)) (by decide +kernel) (by decide +kernel) (by first | decide | omega) (by first | decide | omega) (by decide) (q2742.trans q2743) (fun l2744 => ?_)
                refine x_const (np := 119) (x := 9223372039002259456) (a := 2147483648) (by decide +kernel) (by decide) (by decide) ?_
                refine x_cV (t := 6) (mj := 248) (n := 3) (rc := 12) (ml := 4) (nr := 0) (np := 122) (as := [x_r 75, iv_c (h2571 93 0), iv_c 2147483648]) (rest := []) (lo1 := [x_r 75, iv_c (h2571 93 0), iv_c 2147483648, 147573952589676412928]) (by decide +kernel) (by decide) (by decide +kernel) (x_rb_of (by decide +kernel)) rfl rfl (x_wr (by decide) (x_wi l2725 (x_wi (by decide) x_wn))) x_wn (by decide) rfl (c248_75 j2717  (by first | decide | omega) (by first | decide | omega)) (fun h2748 q2747 => ?_)
                obtain ⟨j2749, f2750⟩ := q2747
                have f2753 := Fr.trans f2719 f2750 (by decide)
                have f2754 := Fr.trans f2720 f2750 (by decide)
                refine x_aload (np := 123) (x := 0) (by decide +kernel) rfl (x_nc_le (by decide)) ?_
                have q2755 : h2748 75 28 = 94 := by have z := jB (e := 28) 0 j2749 rg_75_28_0_1 (by decide) (by decide); omega
                refine x_getR (np := 126) (x := 732) (f := 28) (q := 94) (by decide +kernel) (by decide) (by decide +kernel) q2755 ?_
                refine x_iload (np := 127) (x := 2) (by decide +kernel) rfl (by decide) ?_
                have q2756 : h2748 94 0 = h2716 94 0 := jK 0 f2750 rg_94_0_1_6 (by first | decide | omega) (by first | decide | omega) (by decide)
                have q2757 : h2716 94 0 = 2147483647 := by rw [← e2718]; exact x_up_at
                refine x_aldC (np := 128) (x := 0) (n := 6) (i := 0) (q := 2147483647) (by decide +kernel) (by decide +kernel) (by first | decide | omega) (by first | decide | omega) (by decide) (q2756.trans q2757) (fun l2758 => ?_)
                refine x_ifz (k := 3) (tg := 135) (np := 131) (by decide +kernel) (by decide) (by decide) (fun q2759 => ?_) (fun q2760 => ?_)
                · have q2759 : 2147483648 ≤ 2147483647 := q2759
                  exfalso; omega
                have q2760 : ¬ (2147483648 ≤ 2147483647) := q2760
                refine x_const (np := 132) (x := 9223372034707292159) (a := 2147483647) (by decide +kernel) (by decide) (by decide) ?_
                refine x_goto (np := 135) (x := 140) (by decide +kernel) ?_
                refine x_istore (np := 142) (x := 5) (lo' := [x_r 75, iv_c 2147483651, iv_c 2147483648, iv_c v2568, iv_c 2147483649, iv_c 2147483647]) (by decide +kernel) (by decide) (Nat.le_of_ble_eq_true rfl) rfl ?_
                refine x_iload (np := 144) (x := 5) (by decide +kernel) rfl (by decide) ?_
                refine x_ifz (k := 2) (tg := 151) (np := 147) (by decide +kernel) (by decide) (by decide) (fun q2761 => ?_) (fun q2762 => ?_)
                · have q2761 : 2147483647 < 2147483648 := q2761
                  refine x_const (np := 152) (x := 9223372039002259456) (a := 2147483648) (by decide +kernel) (by decide) (by decide) ?_
                  refine x_istore (np := 154) (x := 4) (lo' := [x_r 75, iv_c 2147483651, iv_c 2147483648, iv_c v2568, iv_c 2147483648, iv_c 2147483647]) (by decide +kernel) (by decide) (Nat.le_of_ble_eq_true rfl) rfl ?_
                  refine x_iload (np := 156) (x := 4) (by decide +kernel) rfl (by decide) ?_
                  refine x_ifz (k := 0) (tg := 180) (np := 159) (by decide +kernel) (by decide) (by decide) (fun q2763 => ?_) (fun q2764 => ?_)
                  · have q2763 : 2147483648 = 2147483648 := q2763
                    refine x_iinc (np := 183) (i := 2) (j := 2147483647) (v := 2147483647) (lo' := [x_r 75, iv_c 2147483651, iv_c 2147483647, iv_c v2568, iv_c 2147483648, iv_c 2147483647]) (by decide +kernel) (by decide) (by decide) rfl (by decide) (by first | decide | omega) (by first | decide | omega) rfl ?_
                    refine x_goto (np := 186) (x := 12) (by decide +kernel) ?_
                    have q2765 : h2748 75 30 = h2716 75 30 := jK 0 f2750 rg_75_30_0_1 (by first | decide | omega) (by first | decide | omega) (by decide)
                    have q2766 : h2716 75 30 = h2699 75 30 := by rw [← e2718]; exact x_up_k (by decide)
                    have q2767 : h2699 75 30 = h2571 75 30 := by rw [← e2701]; exact x_up_i (by first | decide | omega)
                    have q2768 : h2571 75 30 = h2559 75 30 := jK 0 f2573 rg_75_30_0_1 (by first | decide | omega) (by first | decide | omega) (by decide)
                    have q2769 : h2559 75 30 = (1 + (h2498 75 30)) := by rw [← e2561]; exact x_up_at
                    exact i2548 (iv_c v2568) (iv_c 2147483647) h2748 (by first | decide | omega) j2749 f2754 (by first | decide | omega)
                  have q2764 : ¬ (2147483648 = 2147483648) := q2764
                  exfalso; omega
                have q2762 : ¬ (2147483647 < 2147483648) := q2762
                exfalso; omega
              have q2714 : ¬ (v2568 = 2147483649) := q2714
              exfalso; omega
            have q2712 : ¬ ((h 75 33) = 2147483648) := q2712
            refine x_const (np := 84) (x := 9223372043297226753) (a := 2147483649) (by decide +kernel) (by decide) (by decide) ?_
            have q2770 : h2699 75 30 = h2571 75 30 := by rw [← e2701]; exact x_up_i (by first | decide | omega)
            have q2771 : h2571 75 30 = h2559 75 30 := jK 0 f2573 rg_75_30_0_1 (by first | decide | omega) (by first | decide | omega) (by decide)
            have q2772 : h2559 75 30 = (1 + (h2498 75 30)) := by rw [← e2561]; exact x_up_at
            refine x_retI (np := 85) (x := 0) (by decide +kernel) (by decide) (Or.inr ⟨by decide +kernel, by first | decide | omega, by first | decide | omega⟩) ⟨_, rfl, (by decide), ?_⟩
            exact ⟨j2700, f2702, (by first | decide | omega), (fun z => by first | decide | omega)⟩
          have q2693 : ¬ ((h2498 75 34) ≠ 2147483648) := q2693
          refine x_aload (np := 62) (x := 0) (by decide +kernel) rfl (x_nc_le (by decide)) ?_
          refine x_iload (np := 63) (x := 2) (by decide +kernel) rfl (by decide) ?_
          refine x_cV (t := 6) (mj := 258) (n := 2) (rc := 12) (ml := 4) (nr := 0) (np := 66) (as := [x_r 75, iv_c 2147483648]) (rest := []) (lo1 := [x_r 75, iv_c 2147483648, 147573952589676412928, 147573952589676412928]) (by decide +kernel) (by decide) (by decide +kernel) (x_rb_of (by decide +kernel)) rfl rfl (x_wr (by decide) (x_wi (by decide) x_wn)) x_wn (by decide) rfl (c258_75 j2572  (by first | decide | omega)) (fun h2776 q2775 => ?_)
          obtain ⟨j2777, f2778⟩ := q2775
          have f2781 := Fr.trans f2575 f2778 (by decide)
          have f2782 := Fr.trans f2576 f2778 (by decide)
          refine x_aload (np := 67) (x := 0) (by decide +kernel) rfl (x_nc_le (by decide)) ?_
          refine x_dup (np := 68) (x := 0) (by decide +kernel) (by have z := x_nc_le (k := 75) (by decide); unfold x_r; omega) ?_
          have q2783 : h2776 75 34 = h2571 75 34 := jK 0 f2778 rg_75_34_0_1 (by first | decide | omega) (by first | decide | omega) (by decide)
          have q2784 : h2571 75 34 = h2559 75 34 := jK 0 f2573 rg_75_34_0_1 (by first | decide | omega) (by first | decide | omega) (by decide)
          have q2785 : h2559 75 34 = h2498 75 34 := by rw [← e2561]; exact x_up_i (by first | decide | omega)
          refine x_getC (np := 71) (x := 738) (f := 34) (q := (h2498 75 34)) (by decide +kernel) (by decide) (by decide +kernel) ((q2783.trans q2784).trans q2785) (fun l2786 => ?_)
          refine x_const (np := 72) (x := 9223372043297226753) (a := 2147483649) (by decide +kernel) (by decide) (by decide) ?_
          refine x_iadd (np := 73) (x := 0) (v := (1 + (h2498 75 34))) (by decide +kernel) l2691 (by decide) (by first | decide | omega) (by first | decide | omega) ?_
          refine x_putI (np := 76) (x := 738) (f := 34) (by decide +kernel) (by decide +kernel) (by first | decide | omega) (Or.inl (by decide)) ?_
          have j2788 := jU (e := 34) (v := (1 + (h2498 75 34))) 0 j2777 rg_75_34_0_1 (by first | decide | omega) (by first | decide | omega) (by first | decide | omega)
          have f2790 := jF (e := 34) (v := (1 + (h2498 75 34))) 0 f2781 rg_75_34_0_1 (by first | decide | omega) (by first | decide | omega) (by decide)
          have f2791 := jF (e := 34) (v := (1 + (h2498 75 34))) 0 f2782 rg_75_34_0_1 (by first | decide | omega) (by first | decide | omega) (by decide)
          generalize e2789 : x_up h2776 75 34 (1 + (h2498 75 34)) = h2787 at j2788 f2790 f2791 ⊢
          refine x_aload (np := 77) (x := 0) (by decide +kernel) rfl (x_nc_le (by decide)) ?_
          have q2792 : h2787 75 33 = h2776 75 33 := by rw [← e2789]; exact x_up_i (by first | decide | omega)
          have q2793 : h2776 75 33 = h2571 75 33 := jK 0 f2778 rg_75_33_0_1 (by first | decide | omega) (by first | decide | omega) (by decide)
          have q2794 : h2571 75 33 = h2559 75 33 := jK 0 f2573 rg_75_33_0_1 (by first | decide | omega) (by first | decide | omega) (by decide)
          have q2795 : h2559 75 33 = h2498 75 33 := by rw [← e2561]; exact x_up_i (by first | decide | omega)
          have q2796 : h2498 75 33 = h2 75 33 := jK 0 f2500 rg_75_33_0_1 (by first | decide | omega) (by first | decide | omega) (by decide)
          have q2797 : h2 75 33 = h 75 33 := by rw [← e4]; exact x_up_i (by first | decide | omega)
          have b2798 := jB (e := 33) 0 hJ rg_75_33_0_1 (by first | decide | omega) (by first | decide | omega)
          refine x_getC (np := 80) (x := 737) (f := 33) (q := (h 75 33)) (by decide +kernel) (by decide) (by decide +kernel) (((((q2792.trans q2793).trans q2794).trans q2795).trans q2796).trans q2797) (fun l2799 => ?_)
          refine x_ifz (k := 0) (tg := 85) (np := 83) (by decide +kernel) (by decide) l2799 (fun q2800 => ?_) (fun q2801 => ?_)
          · have q2800 : (h 75 33) = 2147483648 := q2800
            refine x_iload (np := 86) (x := 3) (by decide +kernel) rfl l2569 ?_
            refine x_const (np := 87) (x := 9223372043297226753) (a := 2147483649) (by decide +kernel) (by decide) (by decide) ?_
            refine x_icmp (k := 0) (tg := 95) (np := 90) (by decide +kernel) (by decide) l2569 (by decide) (fun q2802 => ?_) (fun q2803 => ?_)
            · have q2802 : v2568 = 2147483649 := q2802
              refine x_aload (np := 96) (x := 0) (by decide +kernel) rfl (x_nc_le (by decide)) ?_
              have q2804 : h2787 75 28 = 94 := by have z := jB (e := 28) 0 j2788 rg_75_28_0_1 (by decide) (by decide); omega
              refine x_getR (np := 99) (x := 732) (f := 28) (q := 94) (by decide +kernel) (by decide) (by decide +kernel) q2804 ?_
              refine x_iload (np := 100) (x := 2) (by decide +kernel) rfl (by decide) ?_
              refine x_const (np := 101) (x := 9223372034707292159) (a := 2147483647) (by decide +kernel) (by decide) (by decide) ?_
              refine x_ast (np := 102) (x := 0) (kd := 1) (n := 6) (i := 0) (by decide +kernel) (Or.inl rfl) (by decide +kernel) (by first | decide | omega) (by first | decide | omega) (by decide) (by decide) (fun z => absurd z (by decide)) ?_
              have j2806 := jU (e := 0) (v := 2147483647) 0 j2788 rg_94_0_1_6 (by first | decide | omega) (by first | decide | omega) (by first | decide | omega)
              have f2808 := jF (e := 0) (v := 2147483647) 0 f2790 rg_94_0_1_6 (by first | decide | omega) (by first | decide | omega) (by decide)
              have f2809 := jF (e := 0) (v := 2147483647) 0 f2791 rg_94_0_1_6 (by first | decide | omega) (by first | decide | omega) (by decide)
              generalize e2807 : x_up h2787 94 0 2147483647 = h2805 at j2806 f2808 f2809 ⊢
              refine x_aload (np := 103) (x := 0) (by decide +kernel) rfl (x_nc_le (by decide)) ?_
              have q2810 : h2805 75 27 = 93 := by have z := jB (e := 27) 0 j2806 rg_75_27_0_1 (by decide) (by decide); omega
              refine x_getR (np := 106) (x := 731) (f := 27) (q := 93) (by decide +kernel) (by decide) (by decide +kernel) q2810 ?_
              refine x_iload (np := 107) (x := 2) (by decide +kernel) rfl (by decide) ?_
              have q2811 : h2805 93 0 = h2787 93 0 := by rw [← e2807]; exact x_up_k (by decide)
              have q2812 : h2787 93 0 = h2776 93 0 := by rw [← e2789]; exact x_up_k (by decide)
              have q2813 : h2776 93 0 = h2571 93 0 := jK 0 f2778 rg_93_0_1_6 (by first | decide | omega) (by first | decide | omega) (by decide)
              have b2814 := jB (e := 0) 0 j2572 rg_93_0_1_6 (by first | decide | omega) (by first | decide | omega)
              refine x_aldC (np := 108) (x := 0) (n := 6) (i := 0) (q := (h2571 93 0)) (by decide +kernel) (by decide +kernel) (by first | decide | omega) (by first | decide | omega) (by decide) ((q2811.trans q2812).trans q2813) (fun l2815 => ?_)
              refine x_ifz (k := 2) (tg := 122) (np := 111) (by decide +kernel) (by decide) l2815 (fun q2816 => ?_) (fun q2817 => ?_)
              · have q2816 : (h2571 93 0) < 2147483648 := q2816
                refine x_aload (np := 123) (x := 0) (by decide +kernel) rfl (x_nc_le (by decide)) ?_
                have q2818 : h2805 75 28 = 94 := by have z := jB (e := 28) 0 j2806 rg_75_28_0_1 (by decide) (by decide); omega
                refine x_getR (np := 126) (x := 732) (f := 28) (q := 94) (by decide +kernel) (by decide) (by decide +kernel) q2818 ?_
                refine x_iload (np := 127) (x := 2) (by decide +kernel) rfl (by decide) ?_
                have q2819 : h2805 94 0 = 2147483647 := by rw [← e2807]; exact x_up_at
                refine x_aldC (np := 128) (x := 0) (n := 6) (i := 0) (q := 2147483647) (by decide +kernel) (by decide +kernel) (by first | decide | omega) (by first | decide | omega) (by decide) q2819 (fun l2820 => ?_)
                refine x_ifz (k := 3) (tg := 135) (np := 131) (by decide +kernel) (by decide) (by decide) (fun q2821 => ?_) (fun q2822 => ?_)
                · have q2821 : 2147483648 ≤ 2147483647 := q2821
                  exfalso; omega
                have q2822 : ¬ (2147483648 ≤ 2147483647) := q2822
                refine x_const (np := 132) (x := 9223372034707292159) (a := 2147483647) (by decide +kernel) (by decide) (by decide) ?_
                refine x_goto (np := 135) (x := 140) (by decide +kernel) ?_
                refine x_istore (np := 142) (x := 5) (lo' := [x_r 75, iv_c 2147483651, iv_c 2147483648, iv_c v2568, iv_c 2147483649, iv_c 2147483647]) (by decide +kernel) (by decide) (Nat.le_of_ble_eq_true rfl) rfl ?_
                refine x_iload (np := 144) (x := 5) (by decide +kernel) rfl (by decide) ?_
                refine x_ifz (k := 2) (tg := 151) (np := 147) (by decide +kernel) (by decide) (by decide) (fun q2823 => ?_) (fun q2824 => ?_)
                · have q2823 : 2147483647 < 2147483648 := q2823
                  refine x_const (np := 152) (x := 9223372039002259456) (a := 2147483648) (by decide +kernel) (by decide) (by decide) ?_
                  refine x_istore (np := 154) (x := 4) (lo' := [x_r 75, iv_c 2147483651, iv_c 2147483648, iv_c v2568, iv_c 2147483648, iv_c 2147483647]) (by decide +kernel) (by decide) (Nat.le_of_ble_eq_true rfl) rfl ?_
                  refine x_iload (np := 156) (x := 4) (by decide +kernel) rfl (by decide) ?_
                  refine x_ifz (k := 0) (tg := 180) (np := 159) (by decide +kernel) (by decide) (by decide) (fun q2825 => ?_) (fun q2826 => ?_)
                  · have q2825 : 2147483648 = 2147483648 := q2825
                    refine x_iinc (np := 183) (i := 2) (j := 2147483647) (v := 2147483647) (lo' := [x_r 75, iv_c 2147483651, iv_c 2147483647, iv_c v2568, iv_c 2147483648, iv_c 2147483647]) (by decide +kernel) (by decide) (by decide) rfl (by decide) (by first | decide | omega) (by first | decide | omega) rfl ?_
                    refine x_goto (np := 186) (x := 12) (by decide +kernel) ?_
                    have q2827 : h2805 75 30 = h2787 75 30 := by rw [← e2807]; exact x_up_k (by decide)
                    have q2828 : h2787 75 30 = h2776 75 30 := by rw [← e2789]; exact x_up_i (by first | decide | omega)
                    have q2829 : h2776 75 30 = h2571 75 30 := jK 0 f2778 rg_75_30_0_1 (by first | decide | omega) (by first | decide | omega) (by decide)
                    have q2830 : h2571 75 30 = h2559 75 30 := jK 0 f2573 rg_75_30_0_1 (by first | decide | omega) (by first | decide | omega) (by decide)
                    have q2831 : h2559 75 30 = (1 + (h2498 75 30)) := by rw [← e2561]; exact x_up_at
                    exact i2548 (iv_c v2568) (iv_c 2147483647) h2805 (by first | decide | omega) j2806 f2809 (by first | decide | omega)
                  have q2826 : ¬ (2147483648 = 2147483648) := q2826
                  exfalso; omega
                have q2824 : ¬ (2147483647 < 2147483648) := q2824
                exfalso; omega
              have q2817 : ¬ ((h2571 93 0) < 2147483648) := q2817
              refine x_aload (np := 112) (x := 0) (by decide +kernel) rfl (x_nc_le (by decide)) ?_
              refine x_aload (np := 113) (x := 0) (by decide +kernel) rfl (x_nc_le (by decide)) ?_
              have q2832 : h2805 75 27 = 93 := by have z := jB (e := 27) 0 j2806 rg_75_27_0_1 (by decide) (by decide); omega
              refine x_getR (np := 116) (x := 731) (f := 27) (q := 93) (by decide +kernel) (by decide) (by decide +kernel) q2832 ?_
              refine x_iload (np := 117) (x := 2) (by decide +kernel) rfl (by decide) ?_
              have q2833 : h2805 93 0 = h2787 93 0 := by rw [← e2807]; exact x_up_k (by decide)
              have q2834 : h2787 93 0 = h2776 93 0 := by rw [← e2789]; exact x_up_k (by decide)
              have q2835 : h2776 93 0 = h2571 93 0 := jK 0 f2778 rg_93_0_1_6 (by first | decide | omega) (by first | decide | omega) (by decide)
              refine x_aldC (np := 118) (x := 0) (n := 6) (i := 0) (q := (h2571 93 0)) (by decide +kernel) (by decide +kernel) (by first | decide | omega) (by first | decide | omega) (by decide) ((q2833.trans q2834).trans q2835) (fun l2836 => ?_)
              refine x_const (np := 119) (x := 9223372039002259456) (a := 2147483648) (by decide +kernel) (by decide) (by decide) ?_
              refine x_cV (t := 6) (mj := 248) (n := 3) (rc := 12) (ml := 4) (nr := 0) (np := 122) (as := [x_r 75, iv_c (h2571 93 0), iv_c 2147483648]) (rest := []) (lo1 := [x_r 75, iv_c (h2571 93 0), iv_c 2147483648, 147573952589676412928]) (by decide +kernel) (by decide) (by decide +kernel) (x_rb_of (by decide +kernel)) rfl rfl (x_wr (by decide) (x_wi l2815 (x_wi (by decide) x_wn))) x_wn (by decide) rfl (c248_75 j2806  (by first | decide | omega) (by first | decide | omega)) (fun h2840 q2839 => ?_)
              obtain ⟨j2841, f2842⟩ := q2839
              have f2845 := Fr.trans f2808 f2842 (by decide)
              have f2846 := Fr.trans f2809 f2842 (by decide)
              refine x_aload (np := 123) (x := 0) (by decide +kernel) rfl (x_nc_le (by decide)) ?_
              have q2847 : h2840 75 28 = 94 := by have z := jB (e := 28) 0 j2841 rg_75_28_0_1 (by decide) (by decide); omega
              refine x_getR (np := 126) (x := 732) (f := 28) (q := 94) (by decide +kernel) (by decide) (by decide +kernel) q2847 ?_
              refine x_iload (np := 127) (x := 2) (by decide +kernel) rfl (by decide) ?_
              have q2848 : h2840 94 0 = h2805 94 0 := jK 0 f2842 rg_94_0_1_6 (by first | decide | omega) (by first | decide | omega) (by decide)
              have q2849 : h2805 94 0 = 2147483647 := by rw [← e2807]; exact x_up_at
              refine x_aldC (np := 128) (x := 0) (n := 6) (i := 0) (q := 2147483647) (by decide +kernel) (by decide +kernel) (by first | decide | omega) (by first | decide | omega) (by decide) (q2848.trans q2849) (fun l2850 => ?_)
              refine x_ifz (k := 3) (tg := 135) (np := 131) (by decide +kernel) (by decide) (by decide) (fun q2851 => ?_) (fun q2852 => ?_)
              · have q2851 : 2147483648 ≤ 2147483647 := q2851
                exfalso; omega
              have q2852 : ¬ (2147483648 ≤ 2147483647) := q2852
              refine x_const (np := 132) (x := 9223372034707292159) (a := 2147483647) (by decide +kernel) (by decide) (by decide) ?_
              refine x_goto (np := 135) (x := 140) (by decide +kernel) ?_
              refine x_istore (np := 142) (x := 5) (lo' := [x_r 75, iv_c 2147483651, iv_c 2147483648, iv_c v2568, iv_c 2147483649, iv_c 2147483647]) (by decide +kernel) (by decide) (Nat.le_of_ble_eq_true rfl) rfl ?_
              refine x_iload (np := 144) (x := 5) (by decide +kernel) rfl (by decide) ?_
              refine x_ifz (k := 2) (tg := 151) (np := 147) (by decide +kernel) (by decide) (by decide) (fun q2853 => ?_) (fun q2854 => ?_)
              · have q2853 : 2147483647 < 2147483648 := q2853
                refine x_const (np := 152) (x := 9223372039002259456) (a := 2147483648) (by decide +kernel) (by decide) (by decide) ?_
                refine x_istore (np := 154) (x := 4) (lo' := [x_r 75, iv_c 2147483651, iv_c 2147483648, iv_c v2568, iv_c 2147483648, iv_c 2147483647]) (by decide +kernel) (by decide) (Nat.le_of_ble_eq_true rfl) rfl ?_
                refine x_iload (np := 156) (x := 4) (by decide +kernel) rfl (by decide) ?_
                refine x_ifz (k := 0) (tg := 180) (np := 159) (by decide +kernel) (by decide) (by decide) (fun q2855 => ?_) (fun q2856 => ?_)
                · have q2855 : 2147483648 = 2147483648 := q2855
                  refine x_iinc (np := 183) (i := 2) (j := 2147483647) (v := 2147483647) (lo' := [x_r 75, iv_c 2147483651, iv_c 2147483647, iv_c v2568, iv_c 2147483648, iv_c 2147483647]) (by decide +kernel) (by decide) (by decide) rfl (by decide) (by first | decide | omega) (by first | decide | omega) rfl ?_
                  refine x_goto (np := 186) (x := 12) (by decide +kernel) ?_
                  have q2857 : h2840 75 30 = h2805 75 30 := jK 0 f2842 rg_75_30_0_1 (by first | decide | omega) (by first | decide | omega) (by decide)
                  have q2858 : h2805 75 30 = h2787 75 30 := by rw [← e2807]; exact x_up_k (by decide)
                  have q2859 : h2787 75 30 = h2776 75 30 := by rw [← e2789]; exact x_up_i (by first | decide | omega)
                  have q2860 : h2776 75 30 = h2571 75 30 := jK 0 f2778 rg_75_30_0_1 (by first | decide | omega) (by first | decide | omega) (by decide)
                  have q2861 : h2571 75 30 = h2559 75 30 := jK 0 f2573 rg_75_30_0_1 (by first | decide | omega) (by first | decide | omega) (by decide)
                  have q2862 : h2559 75 30 = (1 + (h2498 75 30)) := by rw [← e2561]; exact x_up_at
                  exact i2548 (iv_c v2568) (iv_c 2147483647) h2840 (by first | decide | omega) j2841 f2846 (by first | decide | omega)
                have q2856 : ¬ (2147483648 = 2147483648) := q2856
                exfalso; omega
              have q2854 : ¬ (2147483647 < 2147483648) := q2854
              exfalso; omega
            have q2803 : ¬ (v2568 = 2147483649) := q2803
            exfalso; omega
          have q2801 : ¬ ((h 75 33) = 2147483648) := q2801
          refine x_const (np := 84) (x := 9223372043297226753) (a := 2147483649) (by decide +kernel) (by decide) (by decide) ?_
          have q2863 : h2787 75 30 = h2776 75 30 := by rw [← e2789]; exact x_up_i (by first | decide | omega)
          have q2864 : h2776 75 30 = h2571 75 30 := jK 0 f2778 rg_75_30_0_1 (by first | decide | omega) (by first | decide | omega) (by decide)
          have q2865 : h2571 75 30 = h2559 75 30 := jK 0 f2573 rg_75_30_0_1 (by first | decide | omega) (by first | decide | omega) (by decide)
          have q2866 : h2559 75 30 = (1 + (h2498 75 30)) := by rw [← e2561]; exact x_up_at
          refine x_retI (np := 85) (x := 0) (by decide +kernel) (by decide) (Or.inr ⟨by decide +kernel, by first | decide | omega, by first | decide | omega⟩) ⟨_, rfl, (by decide), ?_⟩
          exact ⟨j2788, f2790, (by first | decide | omega), (fun z => by first | decide | omega)⟩
        have q2567 : ¬ ((1 + (h2498 75 30)) ≤ 2147503648) := q2567
        refine x_const (np := 42) (x := 9223372039002259456) (a := 2147483648) (by decide +kernel) (by decide) (by decide) ?_
        have q2867 : h2559 75 30 = (1 + (h2498 75 30)) := by rw [← e2561]; exact x_up_at
        refine x_retI (np := 43) (x := 0) (by decide +kernel) (by decide) (Or.inr ⟨by decide +kernel, by first | decide | omega, by first | decide | omega⟩) ⟨_, rfl, (by decide), ?_⟩
        exact ⟨j2560, f2562, (by first | decide | omega), (fun z => by first | decide | omega)⟩
      · intro w2502 w2503 h2504 q2868 j2507 f2506 b2505
        have f2869 := Fr.trans f5 f2506 (by decide)
        refine x_iload (np := 13) (x := 2) (by decide +kernel) rfl (by decide) ?_
        refine x_ifz (k := 2) (tg := 186) (np := 16) (by decide +kernel) (by decide) (by decide) (fun q2870 => ?_) (fun q2871 => ?_)
        · have q2870 : 2147483649 < 2147483648 := q2870
          exfalso; omega
        have q2871 : ¬ (2147483649 < 2147483648) := q2871
        refine x_iload (np := 18) (x := 4) (by decide +kernel) rfl (by decide) ?_
        refine x_ifz (k := 0) (tg := 102) (np := 21) (by decide +kernel) (by decide) (by decide) (fun q2872 => ?_) (fun q2873 => ?_)
        · have q2872 : 2147483649 = 2147483648 := q2872
          exfalso; omega
        have q2873 : ¬ (2147483649 = 2147483648) := q2873
        refine x_aload (np := 22) (x := 0) (by decide +kernel) rfl (x_nc_le (by decide)) ?_
        refine x_dup (np := 23) (x := 0) (by decide +kernel) (by have z := x_nc_le (k := 75) (by decide); unfold x_r; omega) ?_
        refine x_getC (np := 26) (x := 734) (f := 30) (q := (h2504 75 30)) (by decide +kernel) (by decide) (by decide +kernel) rfl (fun l2874 => ?_)
        refine x_const (np := 27) (x := 9223372043297226753) (a := 2147483649) (by decide +kernel) (by decide) (by decide) ?_
        refine x_iadd (np := 28) (x := 0) (v := (1 + (h2504 75 30))) (by decide +kernel) l2874 (by decide) (by first | decide | omega) (by first | decide | omega) ?_
        refine x_putI (np := 31) (x := 734) (f := 30) (by decide +kernel) (by decide +kernel) (by first | decide | omega) (Or.inl (by decide)) ?_
        have j2876 := jU (e := 30) (v := (1 + (h2504 75 30))) 0 j2507 rg_75_30_0_1 (by first | decide | omega) (by first | decide | omega) (by first | decide | omega)
        have f2878 := jF (e := 30) (v := (1 + (h2504 75 30))) 0 f2869 rg_75_30_0_1 (by first | decide | omega) (by first | decide | omega) (by decide)
        have f2879 := jF (e := 30) (v := (1 + (h2504 75 30))) 0 f2506 rg_75_30_0_1 (by first | decide | omega) (by first | decide | omega) (by decide)
        generalize e2877 : x_up h2504 75 30 (1 + (h2504 75 30)) = h2875 at j2876 f2878 f2879 ⊢
        refine x_aload (np := 32) (x := 0) (by decide +kernel) rfl (x_nc_le (by decide)) ?_
        have q2880 : h2875 75 30 = (1 + (h2504 75 30)) := by rw [← e2877]; exact x_up_at
        refine x_getC (np := 35) (x := 734) (f := 30) (q := (1 + (h2504 75 30))) (by decide +kernel) (by decide) (by decide +kernel) q2880 (fun l2881 => ?_)
        refine x_const (np := 38) (x := 9223457938348199456) (a := 2147503648) (by decide +kernel) (by decide) (by decide) ?_
        refine x_icmp (k := 5) (tg := 43) (np := 41) (by decide +kernel) (by decide) (by first | decide | omega) (by decide) (fun q2882 => ?_) (fun q2883 => ?_)
        · have q2882 : (1 + (h2504 75 30)) ≤ 2147503648 := q2882
          refine x_aload (np := 44) (x := 0) (by decide +kernel) rfl (x_nc_le (by decide)) ?_
          refine x_iload (np := 45) (x := 2) (by decide +kernel) rfl (by decide) ?_
          refine x_cI (t := 6) (mj := 254) (n := 2) (rc := 12) (ml := 4) (nr := 0) (np := 48) (as := [x_r 75, iv_c 2147483649]) (rest := []) (lo1 := [x_r 75, iv_c 2147483649, 147573952589676412928, 147573952589676412928]) (by decide +kernel) (by decide) (by decide +kernel) (x_rb_of (by decide +kernel)) rfl rfl (x_wr (by decide) (x_wi (by decide) x_wn)) x_wn (by decide) rfl (c254_75 j2876  (by first | decide | omega)) (fun v2884 h2887 l2885 q2886 => ?_)
          obtain ⟨j2888, f2889, b2890⟩ := q2886
          have f2891 := Fr.trans f2878 f2889 (by decide)
          have f2892 := Fr.trans f2879 f2889 (by decide)
          refine x_istore (np := 49) (x := 3) (lo' := [x_r 75, iv_c 2147483651, iv_c 2147483649, iv_c v2884, iv_c 2147483649, w2503]) (by decide +kernel) l2885 (Nat.le_of_ble_eq_true rfl) rfl ?_
          refine x_iload (np := 50) (x := 3) (by decide +kernel) rfl l2885 ?_
          refine x_const (np := 51) (x := 9223372043297226753) (a := 2147483649) (by decide +kernel) (by decide) (by decide) ?_
          refine x_icmp (k := 1) (tg := 85) (np := 54) (by decide +kernel) (by decide) l2885 (by decide) (fun q2893 => ?_) (fun q2894 => ?_)
          · have q2893 : v2884 ≠ 2147483649 := q2893
            refine x_iload (np := 86) (x := 3) (by decide +kernel) rfl l2885 ?_
            refine x_const (np := 87) (x := 9223372043297226753) (a := 2147483649) (by decide +kernel) (by decide) (by decide) ?_
            refine x_icmp (k := 0) (tg := 95) (np := 90) (by decide +kernel) (by decide) l2885 (by decide) (fun q2895 => ?_) (fun q2896 => ?_)
            · have q2895 : v2884 = 2147483649 := q2895
              exfalso; omega
            have q2896 : ¬ (v2884 = 2147483649) := q2896
            refine x_iload (np := 91) (x := 2) (by decide +kernel) rfl (by decide) ?_
            refine x_iload (np := 92) (x := 1) (by decide +kernel) rfl (by decide) ?_
            refine x_icmp (k := 1) (tg := 102) (np := 95) (by decide +kernel) (by decide) (by decide) (by decide) (fun q2897 => ?_) (fun q2898 => ?_)
            · have q2897 : 2147483649 ≠ 2147483651 := q2897
              refine x_aload (np := 103) (x := 0) (by decide +kernel) rfl (x_nc_le (by decide)) ?_
              have q2899 : h2887 75 27 = 93 := by have z := jB (e := 27) 0 j2888 rg_75_27_0_1 (by decide) (by decide); omega
              refine x_getR (np := 106) (x := 731) (f := 27) (q := 93) (by decide +kernel) (by decide) (by decide +kernel) q2899 ?_
              refine x_iload (np := 107) (x := 2) (by decide +kernel) rfl (by decide) ?_
              have b2900 := jB (e := 1) 1 j2888 rg_93_0_1_6 (by first | decide | omega) (by first | decide | omega)
              refine x_aldC (np := 108) (x := 0) (n := 6) (i := 1) (q := (h2887 93 1)) (by decide +kernel) (by decide +kernel) (by first | decide | omega) (by first | decide | omega) (by decide) rfl (fun l2901 => ?_)
              refine x_ifz (k := 2) (tg := 122) (np := 111) (by decide +kernel) (by decide) l2901 (fun q2902 => ?_) (fun q2903 => ?_)
              · have q2902 : (h2887 93 1) < 2147483648 := q2902
                refine x_aload (np := 123) (x := 0) (by decide +kernel) rfl (x_nc_le (by decide)) ?_
                have q2904 : h2887 75 28 = 94 := by have z := jB (e := 28) 0 j2888 rg_75_28_0_1 (by decide) (by decide); omega
                refine x_getR (np := 126) (x := 732) (f := 28) (q := 94) (by decide +kernel) (by decide) (by decide +kernel) q2904 ?_
                refine x_iload (np := 127) (x := 2) (by decide +kernel) rfl (by decide) ?_
                have b2905 := jB (e := 1) 1 j2888 rg_94_0_1_6 (by first | decide | omega) (by first | decide | omega)
                refine x_aldC (np := 128) (x := 0) (n := 6) (i := 1) (q := (h2887 94 1)) (by decide +kernel) (by decide +kernel) (by first | decide | omega) (by first | decide | omega) (by decide) rfl (fun l2906 => ?_)
                refine x_ifz (k := 3) (tg := 135) (np := 131) (by decide +kernel) (by decide) l2906 (fun q2907 => ?_) (fun q2908 => ?_)
                · have q2907 : 2147483648 ≤ (h2887 94 1) := q2907
                  refine x_aload (np := 136) (x := 0) (by decide +kernel) rfl (x_nc_le (by decide)) ?_
                  refine x_iload (np := 137) (x := 2) (by decide +kernel) rfl (by decide) ?_
                  refine x_cP (t := 6) (mj := 257) (n := 2) (rc := 12) (ml := 3) (nr := 0) (np := 140) (as := [x_r 75, iv_c 2147483649]) (rest := []) (lo1 := [x_r 75, iv_c 2147483649, 147573952589676412928]) (by decide +kernel) (by decide) (by decide +kernel) (x_rb_of (by decide +kernel)) rfl rfl (x_wr (by decide) (x_wi (by decide) x_wn)) x_wn (by decide) rfl (c257_75_c1 j2888   (by first | decide | omega)) (fun v2909 l2910 q2911 => ?_)
                  refine x_istore (np := 142) (x := 5) (lo' := [x_r 75, iv_c 2147483651, iv_c 2147483649, iv_c v2884, iv_c 2147483649, iv_c v2909]) (by decide +kernel) l2910 (Nat.le_of_ble_eq_true rfl) rfl ?_
                  refine x_iload (np := 144) (x := 5) (by decide +kernel) rfl l2910 ?_
                  refine x_ifz (k := 2) (tg := 151) (np := 147) (by decide +kernel) (by decide) l2910 (fun q2912 => ?_) (fun q2913 => ?_)
                  · have q2912 : v2909 < 2147483648 := q2912
                    refine x_const (np := 152) (x := 9223372039002259456) (a := 2147483648) (by decide +kernel) (by decide) (by decide) ?_
                    refine x_istore (np := 154) (x := 4) (lo' := [x_r 75, iv_c 2147483651, iv_c 2147483649, iv_c v2884, iv_c 2147483648, iv_c v2909]) (by decide +kernel) (by decide) (Nat.le_of_ble_eq_true rfl) rfl ?_
                    refine x_iload (np := 156) (x := 4) (by decide +kernel) rfl (by decide) ?_
                    refine x_ifz (k := 0) (tg := 180) (np := 159) (by decide +kernel) (by decide) (by decide) (fun q2914 => ?_) (fun q2915 => ?_)
                    · have q2914 : 2147483648 = 2147483648 := q2914
                      refine x_iinc (np := 183) (i := 2) (j := 2147483647) (v := 2147483648) (lo' := [x_r 75, iv_c 2147483651, iv_c 2147483648, iv_c v2884, iv_c 2147483648, iv_c v2909]) (by decide +kernel) (by decide) (by decide) rfl (by decide) (by first | decide | omega) (by first | decide | omega) rfl ?_
                      refine x_goto (np := 186) (x := 12) (by decide +kernel) ?_
                      have q2916 : h2887 75 30 = h2875 75 30 := jK 0 f2889 rg_75_30_0_1 (by first | decide | omega) (by first | decide | omega) (by decide)
                      have q2917 : h2875 75 30 = (1 + (h2504 75 30)) := by rw [← e2877]; exact x_up_at
                      exact i2549 (iv_c v2884) (iv_c v2909) h2887 (by first | decide | omega) j2888 f2892 (by first | decide | omega)
                    have q2915 : ¬ (2147483648 = 2147483648) := q2915
                    exfalso; omega
                  have q2913 : ¬ (v2909 < 2147483648) := q2913
                  refine x_const (np := 148) (x := 9223372043297226753) (a := 2147483649) (by decide +kernel) (by decide) (by decide) ?_
                  refine x_goto (np := 151) (x := 152) (by decide +kernel) ?_
                  refine x_istore (np := 154) (x := 4) (lo' := [x_r 75, iv_c 2147483651, iv_c 2147483649, iv_c v2884, iv_c 2147483649, iv_c v2909]) (by decide +kernel) (by decide) (Nat.le_of_ble_eq_true rfl) rfl ?_
                  refine x_iload (np := 156) (x := 4) (by decide +kernel) rfl (by decide) ?_
                  refine x_ifz (k := 0) (tg := 180) (np := 159) (by decide +kernel) (by decide) (by decide) (fun q2918 => ?_) (fun q2919 => ?_)
                  · have q2918 : 2147483649 = 2147483648 := q2918
                    exfalso; omega
                  have q2919 : ¬ (2147483649 = 2147483648) := q2919
                  refine x_aload (np := 160) (x := 0) (by decide +kernel) rfl (x_nc_le (by decide)) ?_
                  have q2920 : h2887 75 27 = 93 := by have z := jB (e := 27) 0 j2888 rg_75_27_0_1 (by decide) (by decide); omega
                  refine x_getR (np := 163) (x := 731) (f := 27) (q := 93) (by decide +kernel) (by decide) (by decide +kernel) q2920 ?_
                  refine x_iload (np := 164) (x := 2) (by decide +kernel) rfl (by decide) ?_
                  refine x_iload (np := 166) (x := 5) (by decide +kernel) rfl l2910 ?_
                  refine x_ast (np := 167) (x := 0) (kd := 1) (n := 6) (i := 1) (by decide +kernel) (Or.inl rfl) (by decide +kernel) (by first | decide | omega) (by first | decide | omega) (by decide) l2910 (fun z => absurd z (by decide)) ?_
                  have j2922 := jU (e := 1) (v := v2909) 1 j2888 rg_93_0_1_6 (by first | decide | omega) (by first | decide | omega) (by first | decide | omega)
                  have f2924 := jF (e := 1) (v := v2909) 1 f2891 rg_93_0_1_6 (by first | decide | omega) (by first | decide | omega) (by decide)
                  have f2925 := jF (e := 1) (v := v2909) 1 f2892 rg_93_0_1_6 (by first | decide | omega) (by first | decide | omega) (by decide)
                  generalize e2923 : x_up h2887 93 1 v2909 = h2921 at j2922 f2924 f2925 ⊢
                  refine x_aload (np := 168) (x := 0) (by decide +kernel) rfl (x_nc_le (by decide)) ?_
                  refine x_iload (np := 170) (x := 5) (by decide +kernel) rfl l2910 ?_
                  refine x_const (np := 171) (x := 9223372043297226753) (a := 2147483649) (by decide +kernel) (by decide) (by decide) ?_
                  refine x_cV (t := 6) (mj := 248) (n := 3) (rc := 12) (ml := 4) (nr := 0) (np := 174) (as := [x_r 75, iv_c v2909, iv_c 2147483649]) (rest := []) (lo1 := [x_r 75, iv_c v2909, iv_c 2147483649, 147573952589676412928]) (by decide +kernel) (by decide) (by decide +kernel) (x_rb_of (by decide +kernel)) rfl rfl (x_wr (by decide) (x_wi l2910 (x_wi (by decide) x_wn))) x_wn (by decide) rfl (c248_75 j2922  (by first | decide | omega) (by first | decide | omega)) (fun h2929 q2928 => ?_)
                  obtain ⟨j2930, f2931⟩ := q2928
                  have f2934 := Fr.trans f2924 f2931 (by decide)
                  have f2935 := Fr.trans f2925 f2931 (by decide)
                  refine x_iinc (np := 177) (i := 2) (j := 2147483649) (v := 2147483650) (lo' := [x_r 75, iv_c 2147483651, iv_c 2147483650, iv_c v2884, iv_c 2147483649, iv_c v2909]) (by decide +kernel) (by decide) (by decide) rfl (by decide) (by first | decide | omega) (by first | decide | omega) rfl ?_
                  refine x_goto (np := 180) (x := 183) (by decide +kernel) ?_
                  refine x_goto (np := 186) (x := 12) (by decide +kernel) ?_
                  have q2936 : h2929 75 30 = h2921 75 30 := jK 0 f2931 rg_75_30_0_1 (by first | decide | omega) (by first | decide | omega) (by decide)
                  have q2937 : h2921 75 30 = h2887 75 30 := by rw [← e2923]; exact x_up_k (by decide)
                  have q2938 : h2887 75 30 = h2875 75 30 := jK 0 f2889 rg_75_30_0_1 (by first | decide | omega) (by first | decide | omega) (by decide)
                  have q2939 : h2875 75 30 = (1 + (h2504 75 30)) := by rw [← e2877]; exact x_up_at
                  exact i2546 (iv_c v2884) (iv_c v2909) h2929 (by first | decide | omega) j2930 f2935 (by first | decide | omega)
                have q2908 : ¬ (2147483648 ≤ (h2887 94 1)) := q2908
                refine x_const (np := 132) (x := 9223372034707292159) (a := 2147483647) (by decide +kernel) (by decide) (by decide) ?_
                refine x_goto (np := 135) (x := 140) (by decide +kernel) ?_
                refine x_istore (np := 142) (x := 5) (lo' := [x_r 75, iv_c 2147483651, iv_c 2147483649, iv_c v2884, iv_c 2147483649, iv_c 2147483647]) (by decide +kernel) (by decide) (Nat.le_of_ble_eq_true rfl) rfl ?_
                refine x_iload (np := 144) (x := 5) (by decide +kernel) rfl (by decide) ?_
                refine x_ifz (k := 2) (tg := 151) (np := 147) (by decide +kernel) (by decide) (by decide) (fun q2940 => ?_) (fun q2941 => ?_)
                · have q2940 : 2147483647 < 2147483648 := q2940
                  refine x_const (np := 152) (x := 9223372039002259456) (a := 2147483648) (by decide +kernel) (by decide) (by decide) ?_
                  refine x_istore (np := 154) (x := 4) (lo' := [x_r 75, iv_c 2147483651, iv_c 2147483649, iv_c v2884, iv_c 2147483648, iv_c 2147483647]) (by decide +kernel) (by decide) (Nat.le_of_ble_eq_true rfl) rfl ?_
                  refine x_iload (np := 156) (x := 4) (by decide +kernel) rfl (by decide) ?_
                  refine x_ifz (k := 0) (tg := 180) (np := 159) (by decide +kernel) (by decide) (by decide) (fun q2942 => ?_) (fun q2943 => ?_)
                  · have q2942 : 2147483648 = 2147483648 := q2942
                    refine x_iinc (np := 183) (i := 2) (j := 2147483647) (v := 2147483648) (lo' := [x_r 75, iv_c 2147483651, iv_c 2147483648, iv_c v2884, iv_c 2147483648, iv_c 2147483647]) (by decide +kernel) (by decide) (by decide) rfl (by decide) (by first | decide | omega) (by first | decide | omega) rfl ?_
                    refine x_goto (np := 186) (x := 12) (by decide +kernel) ?_
                    have q2944 : h2887 75 30 = h2875 75 30 := jK 0 f2889 rg_75_30_0_1 (by first | decide | omega) (by first | decide | omega) (by decide)
                    have q2945 : h2875 75 30 = (1 + (h2504 75 30)) := by rw [← e2877]; exact x_up_at
                    exact i2549 (iv_c v2884) (iv_c 2147483647) h2887 (by first | decide | omega) j2888 f2892 (by first | decide | omega)
                  have q2943 : ¬ (2147483648 = 2147483648) := q2943
                  exfalso; omega
                have q2941 : ¬ (2147483647 < 2147483648) := q2941
                exfalso; omega
              have q2903 : ¬ ((h2887 93 1) < 2147483648) := q2903
              refine x_aload (np := 112) (x := 0) (by decide +kernel) rfl (x_nc_le (by decide)) ?_
              refine x_aload (np := 113) (x := 0) (by decide +kernel) rfl (x_nc_le (by decide)) ?_
              have q2946 : h2887 75 27 = 93 := by have z := jB (e := 27) 0 j2888 rg_75_27_0_1 (by decide) (by decide); omega
              refine x_getR (np := 116) (x := 731) (f := 27) (q := 93) (by decide +kernel) (by decide) (by decide +kernel) q2946 ?_
              refine x_iload (np := 117) (x := 2) (by decide +kernel) rfl (by decide) ?_
              refine x_aldC (np := 118) (x := 0) (n := 6) (i := 1) (q := (h2887 93 1)) (by decide +kernel) (by decide +kernel) (by first | decide | omega) (by first | decide | omega) (by decide) rfl (fun l2947 => ?_)
              refine x_const (np := 119) (x := 9223372039002259456) (a := 2147483648) (by decide +kernel) (by decide) (by decide) ?_
              refine x_cV (t := 6) (mj := 248) (n := 3) (rc := 12) (ml := 4) (nr := 0) (np := 122) (as := [x_r 75, iv_c (h2887 93 1), iv_c 2147483648]) (rest := []) (lo1 := [x_r 75, iv_c (h2887 93 1), iv_c 2147483648, 147573952589676412928]) (by decide +kernel) (by decide) (by decide +kernel) (x_rb_of (by decide +kernel)) rfl rfl (x_wr (by decide) (x_wi l2901 (x_wi (by decide) x_wn))) x_wn (by decide) rfl (c248_75 j2888  (by first | decide | omega) (by first | decide | omega)) (fun h2951 q2950 => ?_)
              obtain ⟨j2952, f2953⟩ := q2950
              have f2956 := Fr.trans f2891 f2953 (by decide)
              have f2957 := Fr.trans f2892 f2953 (by decide)
              refine x_aload (np := 123) (x := 0) (by decide +kernel) rfl (x_nc_le (by decide)) ?_
              have q2958 : h2951 75 28 = 94 := by have z := jB (e := 28) 0 j2952 rg_75_28_0_1 (by decide) (by decide); omega
              refine x_getR (np := 126) (x := 732) (f := 28) (q := 94) (by decide +kernel) (by decide) (by decide +kernel) q2958 ?_
              refine x_iload (np := 127) (x := 2) (by decide +kernel) rfl (by decide) ?_
              have q2959 : h2951 94 1 = h2887 94 1 := jK 1 f2953 rg_94_0_1_6 (by first | decide | omega) (by first | decide | omega) (by decide)
              have b2960 := jB (e := 1) 1 j2888 rg_94_0_1_6 (by first | decide | omega) (by first | decide | omega)
              refine x_aldC (np := 128) (x := 0) (n := 6) (i := 1) (q := (h2887 94 1)) (by decide +kernel) (by decide +kernel) (by first | decide | omega) (by first | decide | omega) (by decide) q2959 (fun l2961 => ?_)
              refine x_ifz (k := 3) (tg := 135) (np := 131) (by decide +kernel) (by decide) l2961 (fun q2962 => ?_) (fun q2963 => ?_)
              · have q2962 : 2147483648 ≤ (h2887 94 1) := q2962
                refine x_aload (np := 136) (x := 0) (by decide +kernel) rfl (x_nc_le (by decide)) ?_
                refine x_iload (np := 137) (x := 2) (by decide +kernel) rfl (by decide) ?_
                have q2964 : h2951 94 1 = h2887 94 1 := jK 1 f2953 rg_94_0_1_6 (by first | decide | omega) (by first | decide | omega) (by decide)
                refine x_cP (t := 6) (mj := 257) (n := 2) (rc := 12) (ml := 3) (nr := 0) (np := 140) (as := [x_r 75, iv_c 2147483649]) (rest := []) (lo1 := [x_r 75, iv_c 2147483649, 147573952589676412928]) (by decide +kernel) (by decide) (by decide +kernel) (x_rb_of (by decide +kernel)) rfl rfl (x_wr (by decide) (x_wi (by decide) x_wn)) x_wn (by decide) rfl (c257_75_c1 j2952   (by first | decide | omega)) (fun v2965 l2966 q2967 => ?_)
                refine x_istore (np := 142) (x := 5) (lo' := [x_r 75, iv_c 2147483651, iv_c 2147483649, iv_c v2884, iv_c 2147483649, iv_c v2965]) (by decide +kernel) l2966 (Nat.le_of_ble_eq_true rfl) rfl ?_
                refine x_iload (np := 144) (x := 5) (by decide +kernel) rfl l2966 ?_
                refine x_ifz (k := 2) (tg := 151) (np := 147) (by decide +kernel) (by decide) l2966 (fun q2968 => ?_) (fun q2969 => ?_)
                · have q2968 : v2965 < 2147483648 := q2968
                  refine x_const (np := 152) (x := 9223372039002259456) (a := 2147483648) (by decide +kernel) (by decide) (by decide) ?_
                  refine x_istore (np := 154) (x := 4) (lo' := [x_r 75, iv_c 2147483651, iv_c 2147483649, iv_c v2884, iv_c 2147483648, iv_c v2965]) (by decide +kernel) (by decide) (Nat.le_of_ble_eq_true rfl) rfl ?_
                  refine x_iload (np := 156) (x := 4) (by decide +kernel) rfl (by decide) ?_
                  refine x_ifz (k := 0) (tg := 180) (np := 159) (by decide +kernel) (by decide) (by decide) (fun q2970 => ?_) (fun q2971 => ?_)
                  · have q2970 : 2147483648 = 2147483648 := q2970
                    refine x_iinc (np := 183) (i := 2) (j := 2147483647) (v := 2147483648) (lo' := [x_r 75, iv_c 2147483651, iv_c 2147483648, iv_c v2884, iv_c 2147483648, iv_c v2965]) (by decide +kernel) (by decide) (by decide) rfl (by decide) (by first | decide | omega) (by first | decide | omega) rfl ?_
                    refine x_goto (np := 186) (x := 12) (by decide +kernel) ?_
                    have q2972 : h2951 75 30 = h2887 75 30 := jK 0 f2953 rg_75_30_0_1 (by first | decide | omega) (by first | decide | omega) (by decide)
                    have q2973 : h2887 75 30 = h2875 75 30 := jK 0 f2889 rg_75_30_0_1 (by first | decide | omega) (by first | decide | omega) (by decide)
                    have q2974 : h2875 75 30 = (1 + (h2504 75 30)) := by rw [← e2877]; exact x_up_at
                    exact i2549 (iv_c v2884) (iv_c v2965) h2951 (by first | decide | omega) j2952 f2957 (by first | decide | omega)
                  have q2971 : ¬ (2147483648 = 2147483648) := q2971
                  exfalso; omega
                have q2969 : ¬ (v2965 < 2147483648) := q2969
                refine x_const (np := 148) (x := 9223372043297226753) (a := 2147483649) (by decide +kernel) (by decide) (by decide) ?_
                refine x_goto (np := 151) (x := 152) (by decide +kernel) ?_
                refine x_istore (np := 154) (x := 4) (lo' := [x_r 75, iv_c 2147483651, iv_c 2147483649, iv_c v2884, iv_c 2147483649, iv_c v2965]) (by decide +kernel) (by decide) (Nat.le_of_ble_eq_true rfl) rfl ?_
                refine x_iload (np := 156) (x := 4) (by decide +kernel) rfl (by decide) ?_
                refine x_ifz (k := 0) (tg := 180) (np := 159) (by decide +kernel) (by decide) (by decide) (fun q2975 => ?_) (fun q2976 => ?_)
                · have q2975 : 2147483649 = 2147483648 := q2975
                  exfalso; omega
                have q2976 : ¬ (2147483649 = 2147483648) := q2976
                refine x_aload (np := 160) (x := 0) (by decide +kernel) rfl (x_nc_le (by decide)) ?_
                have q2977 : h2951 75 27 = 93 := by have z := jB (e := 27) 0 j2952 rg_75_27_0_1 (by decide) (by decide); omega
                refine x_getR (np := 163) (x := 731) (f := 27) (q := 93) (by decide +kernel) (by decide) (by decide +kernel) q2977 ?_
                refine x_iload (np := 164) (x := 2) (by decide +kernel) rfl (by decide) ?_
                refine x_iload (np := 166) (x := 5) (by decide +kernel) rfl l2966 ?_
                refine x_ast (np := 167) (x := 0) (kd := 1) (n := 6) (i := 1) (by decide +kernel) (Or.inl rfl) (by decide +kernel) (by first | decide | omega) (by first | decide | omega) (by decide) l2966 (fun z => absurd z (by decide)) ?_
                have j2979 := jU (e := 1) (v := v2965) 1 j2952 rg_93_0_1_6 (by first | decide | omega) (by first | decide | omega) (by first | decide | omega)
                have f2981 := jF (e := 1) (v := v2965) 1 f2956 rg_93_0_1_6 (by first | decide | omega) (by first | decide | omega) (by decide)
                have f2982 := jF (e := 1) (v := v2965) 1 f2957 rg_93_0_1_6 (by first | decide | omega) (by first | decide | omega) (by decide)
                generalize e2980 : x_up h2951 93 1 v2965 = h2978 at j2979 f2981 f2982 ⊢
                refine x_aload (np := 168) (x := 0) (by decide +kernel) rfl (x_nc_le (by decide)) ?_
                refine x_iload (np := 170) (x := 5) (by decide +kernel) rfl l2966 ?_
                refine x_const (np := 171) (x := 9223372043297226753) (a := 2147483649) (by decide +kernel) (by decide) (by decide) ?_
                refine x_cV (t := 6) (mj := 248) (n := 3) (rc := 12) (ml := 4) (nr := 0) (np := 174) (as := [x_r 75, iv_c v2965, iv_c 2147483649]) (rest := []) (lo1 := [x_r 75, iv_c v2965, iv_c 2147483649, 147573952589676412928]) (by decide +kernel) (by decide) (by decide +kernel) (x_rb_of (by decide +kernel)) rfl rfl (x_wr (by decide) (x_wi l2966 (x_wi (by decide) x_wn))) x_wn (by decide) rfl (c248_75 j2979  (by first | decide | omega) (by first | decide | omega)) (fun h2986 q2985 => ?_)
                obtain ⟨j2987, f2988⟩ := q2985
                have f2991 := Fr.trans f2981 f2988 (by decide)
                have f2992 := Fr.trans f2982 f2988 (by decide)
                refine x_iinc (np := 177) (i := 2) (j := 2147483649) (v := 2147483650) (lo' := [x_r 75, iv_c 2147483651, iv_c 2147483650, iv_c v2884, iv_c 2147483649, iv_c v2965]) (by decide +kernel) (by decide) (by decide) rfl (by decide) (by first | decide | omega) (by first | decide | omega) rfl ?_
                refine x_goto (np := 180) (x := 183) (by decide +kernel) ?_
                refine x_goto (np := 186) (x := 12) (by decide +kernel) ?_
                have q2993 : h2986 75 30 = h2978 75 30 := jK 0 f2988 rg_75_30_0_1 (by first | decide | omega) (by first | decide | omega) (by decide)
                have q2994 : h2978 75 30 = h2951 75 30 := by rw [← e2980]; exact x_up_k (by decide)
                have q2995 : h2951 75 30 = h2887 75 30 := jK 0 f2953 rg_75_30_0_1 (by first | decide | omega) (by first | decide | omega) (by decide)
                have q2996 : h2887 75 30 = h2875 75 30 := jK 0 f2889 rg_75_30_0_1 (by first | decide | omega) (by first | decide | omega) (by decide)
                have q2997 : h2875 75 30 = (1 + (h2504 75 30)) := by rw [← e2877]; exact x_up_at
                exact i2546 (iv_c v2884) (iv_c v2965) h2986 (by first | decide | omega) j2987 f2992 (by first | decide | omega)
              have q2963 : ¬ (2147483648 ≤ (h2887 94 1)) := q2963
              refine x_const (np := 132) (x := 9223372034707292159) (a := 2147483647) (by decide +kernel) (by decide) (by decide) ?_
              refine x_goto (np := 135) (x := 140) (by decide +kernel) ?_
              refine x_istore (np := 142) (x := 5) (lo' := [x_r 75, iv_c 2147483651, iv_c 2147483649, iv_c v2884, iv_c 2147483649, iv_c 2147483647]) (by decide +kernel) (by decide) (Nat.le_of_ble_eq_true rfl) rfl ?_
              refine x_iload (np := 144) (x := 5) (by decide +kernel) rfl (by decide) ?_
              refine x_ifz (k := 2) (tg := 151) (np := 147) (by decide +kernel) (by decide) (by decide) (fun q2998 => ?_) (fun q2999 => ?_)
              · have q2998 : 2147483647 < 2147483648 := q2998
                refine x_const (np := 152) (x := 9223372039002259456) (a := 2147483648) (by decide +kernel) (by decide) (by decide) ?_
                refine x_istore (np := 154) (x := 4) (lo' := [x_r 75, iv_c 2147483651, iv_c 2147483649, iv_c v2884, iv_c 2147483648, iv_c 2147483647]) (by decide +kernel) (by decide) (Nat.le_of_ble_eq_true rfl) rfl ?_
                refine x_iload (np := 156) (x := 4) (by decide +kernel) rfl (by decide) ?_
                refine x_ifz (k := 0) (tg := 180) (np := 159) (by decide +kernel) (by decide) (by decide) (fun q3000 => ?_) (fun q3001 => ?_)
                · have q3000 : 2147483648 = 2147483648 := q3000
                  refine x_iinc (np := 183) (i := 2) (j := 2147483647) (v := 2147483648) (lo' := [x_r 75, iv_c 2147483651, iv_c 2147483648, iv_c v2884, iv_c 2147483648, iv_c 2147483647]) (by decide +kernel) (by decide) (by decide) rfl (by decide) (by first | decide | omega) (by first | decide | omega) rfl ?_
                  refine x_goto (np := 186) (x := 12) (by decide +kernel) ?_
                  have q3002 : h2951 75 30 = h2887 75 30 := jK 0 f2953 rg_75_30_0_1 (by first | decide | omega) (by first | decide | omega) (by decide)
                  have q3003 : h2887 75 30 = h2875 75 30 := jK 0 f2889 rg_75_30_0_1 (by first | decide | omega) (by first | decide | omega) (by decide)
                  have q3004 : h2875 75 30 = (1 + (h2504 75 30)) := by rw [← e2877]; exact x_up_at
                  exact i2549 (iv_c v2884) (iv_c 2147483647) h2951 (by first | decide | omega) j2952 f2957 (by first | decide | omega)
                have q3001 : ¬ (2147483648 = 2147483648) := q3001
                exfalso; omega
              have q2999 : ¬ (2147483647 < 2147483648) := q2999
              exfalso; omega
            have q2898 : ¬ (2147483649 ≠ 2147483651) := q2898
            exfalso; omega
          have q2894 : ¬ (v2884 ≠ 2147483649) := q2894
          refine x_aload (np := 55) (x := 0) (by decide +kernel) rfl (x_nc_le (by decide)) ?_
          have q3005 : h2887 75 34 = h2875 75 34 := jK 0 f2889 rg_75_34_0_1 (by first | decide | omega) (by first | decide | omega) (by decide)
          have q3006 : h2875 75 34 = h2504 75 34 := by rw [← e2877]; exact x_up_i (by first | decide | omega)
          refine x_getC (np := 58) (x := 738) (f := 34) (q := (h2504 75 34)) (by decide +kernel) (by decide) (by decide +kernel) (q3005.trans q3006) (fun l3007 => ?_)
          refine x_ifz (k := 1) (tg := 66) (np := 61) (by decide +kernel) (by decide) l3007 (fun q3008 => ?_) (fun q3009 => ?_)
          · have q3008 : (h2504 75 34) ≠ 2147483648 := q3008
            refine x_aload (np := 67) (x := 0) (by decide +kernel) rfl (x_nc_le (by decide)) ?_
            refine x_dup (np := 68) (x := 0) (by decide +kernel) (by have z := x_nc_le (k := 75) (by decide); unfold x_r; omega) ?_
            have q3010 : h2887 75 34 = h2875 75 34 := jK 0 f2889 rg_75_34_0_1 (by first | decide | omega) (by first | decide | omega) (by decide)
            have q3011 : h2875 75 34 = h2504 75 34 := by rw [← e2877]; exact x_up_i (by first | decide | omega)
            refine x_getC (np := 71) (x := 738) (f := 34) (q := (h2504 75 34)) (by decide +kernel) (by decide) (by decide +kernel) (q3010.trans q3011) (fun l3012 => ?_)
            refine x_const (np := 72) (x := 9223372043297226753) (a := 2147483649) (by decide +kernel) (by decide) (by decide) ?_
            refine x_addA (by rw [tb_b259]; decide +kernel) l3007 (by decide) (fun v3013 l3014 => ?_)
            refine x_putI (np := 76) (x := 738) (f := 34) (by decide +kernel) (by decide +kernel) l3014 (Or.inl (by decide)) ?_
            have j3016 := jU (e := 34) (v := v3013) 0 j2888 rg_75_34_0_1 (by first | decide | omega) (by first | decide | omega) (by first | decide | omega)
            have f3018 := jF (e := 34) (v := v3013) 0 f2891 rg_75_34_0_1 (by first | decide | omega) (by first | decide | omega) (by decide)
            have f3019 := jF (e := 34) (v := v3013) 0 f2892 rg_75_34_0_1 (by first | decide | omega) (by first | decide | omega) (by decide)
            generalize e3017 : x_up h2887 75 34 v3013 = h3015 at j3016 f3018 f3019 ⊢
            refine x_aload (np := 77) (x := 0) (by decide +kernel) rfl (x_nc_le (by decide)) ?_
            have q3020 : h3015 75 33 = h2887 75 33 := by rw [← e3017]; exact x_up_i (by first | decide | omega)
            have q3021 : h2887 75 33 = h2875 75 33 := jK 0 f2889 rg_75_33_0_1 (by first | decide | omega) (by first | decide | omega) (by decide)
            have q3022 : h2875 75 33 = h2504 75 33 := by rw [← e2877]; exact x_up_i (by first | decide | omega)
            have q3023 : h2504 75 33 = h2 75 33 := jK 0 f2506 rg_75_33_0_1 (by first | decide | omega) (by first | decide | omega) (by decide)
            have q3024 : h2 75 33 = h 75 33 := by rw [← e4]; exact x_up_i (by first | decide | omega)
            have b3025 := jB (e := 33) 0 hJ rg_75_33_0_1 (by first | decide | omega) (by first | decide | omega)
            refine x_getC (np := 80) (x := 737) (f := 33) (q := (h 75 33)) (by decide +kernel) (by decide) (by decide +kernel) ((((q3020.trans q3021).trans q3022).trans q3023).trans q3024) (fun l3026 => ?_)
            refine x_ifz (k := 0) (tg := 85) (np := 83) (by decide +kernel) (by decide) l3026 (fun q3027 => ?_) (fun q3028 => ?_)
            · have q3027 : (h 75 33) = 2147483648 := q3027
              refine x_iload (np := 86) (x := 3) (by decide +kernel) rfl l2885 ?_
              refine x_const (np := 87) (x := 9223372043297226753) (a := 2147483649) (by decide +kernel) (by decide) (by decide) ?_
              refine x_icmp (k := 0) (tg := 95) (np := 90) (by decide +kernel) (by decide) l2885 (by decide) (fun q3029 => ?_) (fun q3030 => ?_)
              · have q3029 : v2884 = 2147483649 := q3029
                refine x_aload (np := 96) (x := 0) (by decide +kernel) rfl (x_nc_le (by decide)) ?_
                have q3031 : h3015 75 28 = 94 := by have z := jB (e := 28) 0 j3016 rg_75_28_0_1 (by decide) (by decide); omega
                refine x_getR (np := 99) (x := 732) (f := 28) (q := 94) (by decide +kernel) (by decide) (by decide +kernel) q3031 ?_
                refine x_iload (np := 100) (x := 2) (by decide +kernel) rfl (by decide) ?_
                refine x_const (np := 101) (x := 9223372034707292159) (a := 2147483647) (by decide +kernel) (by decide) (by decide) ?_
                refine x_ast (np := 102) (x := 0) (kd := 1) (n := 6) (i := 1) (by decide +kernel) (Or.inl rfl) (by decide +kernel) (by first | decide | omega) (by first | decide | omega) (by decide) (by decide) (fun z => absurd z (by decide)) ?_
                have j3033 := jU (e := 1) (v := 2147483647) 1 j3016 rg_94_0_1_6 (by first | decide | omega) (by first | decide | omega) (by first | decide | omega)
                have f3035 := jF (e := 1) (v := 2147483647) 1 f3018 rg_94_0_1_6 (by first | decide | omega) (by first | decide | omega) (by decide)
                have f3036 := jF (e := 1) (v := 2147483647) 1 f3019 rg_94_0_1_6 (by first | decide | omega) (by first | decide | omega) (by decide)
                generalize e3034 : x_up h3015 94 1 2147483647 = h3032 at j3033 f3035 f3036 ⊢
                refine x_aload (np := 103) (x := 0) (by decide +kernel) rfl (x_nc_le (by decide)) ?_
                have q3037 : h3032 75 27 = 93 := by have z := jB (e := 27) 0 j3033 rg_75_27_0_1 (by decide) (by decide); omega
                refine x_getR (np := 106) (x := 731) (f := 27) (q := 93) (by decide +kernel) (by decide) (by decide +kernel) q3037 ?_
                refine x_iload (np := 107) (x := 2) (by decide +kernel) rfl (by decide) ?_
                have q3038 : h3032 93 1 = h3015 93 1 := by rw [← e3034]; exact x_up_k (by decide)
                have q3039 : h3015 93 1 = h2887 93 1 := by rw [← e3017]; exact x_up_k (by decide)
                have b3040 := jB (e := 1) 1 j2888 rg_93_0_1_6 (by first | decide | omega) (by first | decide | omega)
                refine x_aldC (np := 108) (x := 0) (n := 6) (i := 1) (q := (h2887 93 1)) (by decide +kernel) (by decide +kernel) (by first | decide | omega) (by first | decide | omega) (by decide) (q3038.trans q3039) (fun l3041 => ?_)
                refine x_ifz (k := 2) (tg := 122) (np := 111) (by decide +kernel) (by decide) l3041 (fun q3042 => ?_) (fun q3043 => ?_)
                · have q3042 : (h2887 93 1) < 2147483648 := q3042
                  refine x_aload (np := 123) (x := 0) (by decide +kernel) rfl (x_nc_le (by decide)) ?_
                  have q3044 : h3032 75 28 = 94 := by have z := jB (e := 28) 0 j3033 rg_75_28_0_1 (by decide) (by decide); omega
                  refine x_getR (np := 126) (x := 732) (f := 28) (q := 94) (by decide +kernel) (by decide) (by decide +kernel) q3044 ?_
                  refine x_iload (np := 127) (x := 2) (by decide +kernel) rfl (by decide) ?_
                  have q3045 : h3032 94 1 = 2147483647 := by rw [← e3034]; exact x_up_at
                  refine x_aldC (np := 128) (x := 0) (n := 6) (i := 1) (q := 2147483647) (by decide +kernel) (by decide +kernel) (by first | decide | omega) (by first | decide | omega) (by decide) q3045 (fun l3046 => ?_)
                  refine x_ifz (k := 3) (tg := 135) (np := 131) (by decide +kernel) (by decide) (by decide) (fun q3047 => ?_) (fun q3048 => ?_)
                  · have q3047 : 2147483648 ≤ 2147483647 := q3047
                    exfalso; omega
                  have q3048 : ¬ (2147483648 ≤ 2147483647) := q3048
                  refine x_const (np := 132) (x := 9223372034707292159) (a := 2147483647) (by decide +kernel) (by decide) (by decide) ?_
                  refine x_goto (np := 135) (x := 140) (by decide +kernel) ?_
                  refine x_istore (np := 142) (x := 5) (lo' := [x_r 75, iv_c 2147483651, iv_c 2147483649, iv_c v2884, iv_c 2147483649, iv_c 2147483647]) (by decide +kernel) (by decide) (Nat.le_of_ble_eq_true rfl) rfl ?_
                  refine x_iload (np := 144) (x := 5) (by decide +kernel) rfl (by decide) ?_
                  refine x_ifz (k := 2) (tg := 151) (np := 147) (by decide +kernel) (by decide) (by decide) (fun q3049 => ?_) (fun q3050 => ?_)
                  · have q3049 : 2147483647 < 2147483648 := q3049
                    refine x_const (np := 152) (x := 9223372039002259456) (a := 2147483648) (by decide +kernel) (by decide) (by decide) ?_
                    refine x_istore (np := 154) (x := 4) (lo' := [x_r 75, iv_c 2147483651, iv_c 2147483649, iv_c v2884, iv_c 2147483648, iv_c 2147483647]) (by decide +kernel) (by decide) (Nat.le_of_ble_eq_true rfl) rfl ?_
                    refine x_iload (np := 156) (x := 4) (by decide +kernel) rfl (by decide) ?_
                    refine x_ifz (k := 0) (tg := 180) (np := 159) (by decide +kernel) (by decide) (by decide) (fun q3051 => ?_) (fun q3052 => ?_)
                    · have q3051 : 2147483648 = 2147483648 := q3051
                      refine x_iinc (np := 183) (i := 2) (j := 2147483647) (v := 2147483648) (lo' := [x_r 75, iv_c 2147483651, iv_c 2147483648, iv_c v2884, iv_c 2147483648, iv_c 2147483647]) (by decide +kernel) (by decide) (by decide) rfl (by decide) (by first | decide | omega) (by first | decide | omega) rfl ?_
                      refine x_goto (np := 186) (x := 12) (by decide +kernel) ?_
                      have q3053 : h3032 75 30 = h3015 75 30 := by rw [← e3034]; exact x_up_k (by decide)
                      have q3054 : h3015 75 30 = h2887 75 30 := by rw [← e3017]; exact x_up_i (by first | decide | omega)
                      have q3055 : h2887 75 30 = h2875 75 30 := jK 0 f2889 rg_75_30_0_1 (by first | decide | omega) (by first | decide | omega) (by decide)
                      have q3056 : h2875 75 30 = (1 + (h2504 75 30)) := by rw [← e2877]; exact x_up_at
                      exact i2549 (iv_c v2884) (iv_c 2147483647) h3032 (by first | decide | omega) j3033 f3036 (by first | decide | omega)
                    have q3052 : ¬ (2147483648 = 2147483648) := q3052
                    exfalso; omega
                  have q3050 : ¬ (2147483647 < 2147483648) := q3050
                  exfalso; omega
                have q3043 : ¬ ((h2887 93 1) < 2147483648) := q3043
                refine x_aload (np := 112) (x := 0) (by decide +kernel) rfl (x_nc_le (by decide)) ?_
                refine x_aload (np := 113) (x := 0) (by decide +kernel) rfl (x_nc_le (by decide)) ?_
                have q3057 : h3032 75 27 = 93 := by have z := jB (e := 27) 0 j3033 rg_75_27_0_1 (by decide) (by decide); omega
                refine x_getR (np := 116) (x := 731) (f := 27) (q := 93) (by decide +kernel) (by decide) (by decide +kernel) q3057 ?_
                refine x_iload (np := 117) (x := 2) (by decide +kernel) rfl (by decide) ?_
                have q3058 : h3032 93 1 = h3015 93 1 := by rw [← e3034]; exact x_up_k (by decide)
                have q3059 : h3015 93 1 = h2887 93 1 := by rw [← e3017]; exact x_up_k (by decide)
                refine x_aldC (np := 118) (x := 0) (n := 6) (i := 1) (q := (h2887 93 1)) (by decide +kernel) (by decide +kernel) (by first | decide | omega) (by first | decide | omega) (by decide) (q3058.trans q3059) (fun l3060 => ?_)
                refine x_const (np := 119) (x := 9223372039002259456) (a := 2147483648) (by decide +kernel) (by decide) (by decide) ?_
                refine x_cV (t := 6) (mj := 248) (n := 3) (rc := 12) (ml := 4) (nr := 0) (np := 122) (as := [x_r 75, iv_c (h2887 93 1), iv_c 2147483648]) (rest := []) (lo1 := [x_r 75, iv_c (h2887 93 1), iv_c 2147483648, 147573952589676412928]) (by decide +kernel) (by decide) (by decide +kernel) (x_rb_of (by decide +kernel)) rfl rfl (x_wr (by decide) (x_wi l3041 (x_wi (by decide) x_wn))) x_wn (by decide) rfl (c248_75 j3033  (by first | decide | omega) (by first | decide | omega)) (fun h3064 q3063 => ?_)
                obtain ⟨j3065, f3066⟩ := q3063
                have f3069 := Fr.trans f3035 f3066 (by decide)
                have f3070 := Fr.trans f3036 f3066 (by decide)
                refine x_aload (np := 123) (x := 0) (by decide +kernel) rfl (x_nc_le (by decide)) ?_
                have q3071 : h3064 75 28 = 94 := by have z := jB (e := 28) 0 j3065 rg_75_28_0_1 (by decide) (by decide); omega
                refine x_getR (np := 126) (x := 732) (f := 28) (q := 94) (by decide +kernel) (by decide) (by decide +kernel) q3071 ?_
                refine x_iload (np := 127) (x := 2) (by decide +kernel) rfl (by decide) ?_
                have q3072 : h3064 94 1 = h3032 94 1 := jK 1 f3066 rg_94_0_1_6 (by first | decide | omega) (by first | decide | omega) (by decide)
                have q3073 : h3032 94 1 = 2147483647 := by rw [← e3034]; exact x_up_at
                refine x_aldC (np := 128) (x := 0) (n := 6) (i := 1) (q := 2147483647) (by decide +kernel) (by decide +kernel) (by first | decide | omega) (by first | decide | omega) (by decide) (q3072.trans q3073) (fun l3074 => ?_)
                refine x_ifz (k := 3) (tg := 135) (np := 131) (by decide +kernel) (by decide) (by decide) (fun q3075 => ?_) (fun q3076 => ?_)
                · have q3075 : 2147483648 ≤ 2147483647 := q3075
                  exfalso; omega
                have q3076 : ¬ (2147483648 ≤ 2147483647) := q3076
                refine x_const (np := 132) (x := 9223372034707292159) (a := 2147483647) (by decide +kernel) (by decide) (by decide) ?_
                refine x_goto (np := 135) (x := 140) (by decide +kernel) ?_
                refine x_istore (np := 142) (x := 5) (lo' := [x_r 75, iv_c 2147483651, iv_c 2147483649, iv_c v2884, iv_c 2147483649, iv_c 2147483647]) (by decide +kernel) (by decide) (Nat.le_of_ble_eq_true rfl) rfl ?_
                refine x_iload (np := 144) (x := 5) (by decide +kernel) rfl (by decide) ?_
                refine x_ifz (k := 2) (tg := 151) (np := 147) (by decide +kernel) (by decide) (by decide) (fun q3077 => ?_) (fun q3078 => ?_)
                · have q3077 : 2147483647 < 2147483648 := q3077
                  refine x_const (np := 152) (x := 9223372039002259456) (a := 2147483648) (by decide +kernel) (by decide) (by decide) ?_
                  refine x_istore (np := 154) (x := 4) (lo' := [x_r 75, iv_c 2147483651, iv_c 2147483649, iv_c v2884, iv_c 2147483648, iv_c 2147483647]) (by decide +kernel) (by decide) (Nat.le_of_ble_eq_true rfl) rfl ?_
                  refine x_iload (np := 156) (x := 4) (by decide +kernel) rfl (by decide) ?_
                  refine x_ifz (k := 0) (tg := 180) (np := 159) (by decide +kernel) (by decide) (by decide) (fun q3079 => ?_) (fun q3080 => ?_)
                  · have q3079 : 2147483648 = 2147483648 := q3079
                    refine x_iinc (np := 183) (i := 2) (j := 2147483647) (v := 2147483648) (lo' := [x_r 75, iv_c 2147483651, iv_c 2147483648, iv_c v2884, iv_c 2147483648, iv_c 2147483647]) (by decide +kernel) (by decide) (by decide) rfl (by decide) (by first | decide | omega) (by first | decide | omega) rfl ?_
                    refine x_goto (np := 186) (x := 12) (by decide +kernel) ?_
                    have q3081 : h3064 75 30 = h3032 75 30 := jK 0 f3066 rg_75_30_0_1 (by first | decide | omega) (by first | decide | omega) (by decide)
                    have q3082 : h3032 75 30 = h3015 75 30 := by rw [← e3034]; exact x_up_k (by decide)
                    have q3083 : h3015 75 30 = h2887 75 30 := by rw [← e3017]; exact x_up_i (by first | decide | omega)
                    have q3084 : h2887 75 30 = h2875 75 30 := jK 0 f2889 rg_75_30_0_1 (by first | decide | omega) (by first | decide | omega) (by decide)
                    have q3085 : h2875 75 30 = (1 + (h2504 75 30)) := by rw [← e2877]; exact x_up_at
                    exact i2549 (iv_c v2884) (iv_c 2147483647) h3064 (by first | decide | omega) j3065 f3070 (by first | decide | omega)
                  have q3080 : ¬ (2147483648 = 2147483648) := q3080
                  exfalso; omega
                have q3078 : ¬ (2147483647 < 2147483648) := q3078
                exfalso; omega
              have q3030 : ¬ (v2884 = 2147483649) := q3030
              exfalso; omega
            have q3028 : ¬ ((h 75 33) = 2147483648) := q3028
            refine x_const (np := 84) (x := 9223372043297226753) (a := 2147483649) (by decide +kernel) (by decide) (by decide) ?_
            have q3086 : h3015 75 30 = h2887 75 30 := by rw [← e3017]; exact x_up_i (by first | decide | omega)
            have q3087 : h2887 75 30 = h2875 75 30 := jK 0 f2889 rg_75_30_0_1 (by first | decide | omega) (by first | decide | omega) (by decide)
            have q3088 : h2875 75 30 = (1 + (h2504 75 30)) := by rw [← e2877]; exact x_up_at
            refine x_retI (np := 85) (x := 0) (by decide +kernel) (by decide) (Or.inr ⟨by decide +kernel, by first | decide | omega, by first | decide | omega⟩) ⟨_, rfl, (by decide), ?_⟩
            exact ⟨j3016, f3018, (by first | decide | omega), (fun z => by first | decide | omega)⟩
          have q3009 : ¬ ((h2504 75 34) ≠ 2147483648) := q3009
          refine x_aload (np := 62) (x := 0) (by decide +kernel) rfl (x_nc_le (by decide)) ?_
          refine x_iload (np := 63) (x := 2) (by decide +kernel) rfl (by decide) ?_
          refine x_cV (t := 6) (mj := 258) (n := 2) (rc := 12) (ml := 4) (nr := 0) (np := 66) (as := [x_r 75, iv_c 2147483649]) (rest := []) (lo1 := [x_r 75, iv_c 2147483649, 147573952589676412928, 147573952589676412928]) (by decide +kernel) (by decide) (by decide +kernel) (x_rb_of (by decide +kernel)) rfl rfl (x_wr (by decide) (x_wi (by decide) x_wn)) x_wn (by decide) rfl (c258_75 j2888  (by first | decide | omega)) (fun h3092 q3091 => ?_)
          obtain ⟨j3093, f3094⟩ := q3091
          have f3097 := Fr.trans f2891 f3094 (by decide)
          have f3098 := Fr.trans f2892 f3094 (by decide)
          refine x_aload (np := 67) (x := 0) (by decide +kernel) rfl (x_nc_le (by decide)) ?_
          refine x_dup (np := 68) (x := 0) (by decide +kernel) (by have z := x_nc_le (k := 75) (by decide); unfold x_r; omega) ?_
          have q3099 : h3092 75 34 = h2887 75 34 := jK 0 f3094 rg_75_34_0_1 (by first | decide | omega) (by first | decide | omega) (by decide)
          have q3100 : h2887 75 34 = h2875 75 34 := jK 0 f2889 rg_75_34_0_1 (by first | decide | omega) (by first | decide | omega) (by decide)
          have q3101 : h2875 75 34 = h2504 75 34 := by rw [← e2877]; exact x_up_i (by first | decide | omega)
          refine x_getC (np := 71) (x := 738) (f := 34) (q := (h2504 75 34)) (by decide +kernel) (by decide) (by decide +kernel) ((q3099.trans q3100).trans q3101) (fun l3102 => ?_)
          refine x_const (np := 72) (x := 9223372043297226753) (a := 2147483649) (by decide +kernel) (by decide) (by decide) ?_
          refine x_iadd (np := 73) (x := 0) (v := (1 + (h2504 75 34))) (by decide +kernel) l3007 (by decide) (by first | decide | omega) (by first | decide | omega) ?_
          refine x_putI (np := 76) (x := 738) (f := 34) (by decide +kernel) (by decide +kernel) (by first | decide | omega) (Or.inl (by decide)) ?_
          have j3104 := jU (e := 34) (v := (1 + (h2504 75 34))) 0 j3093 rg_75_34_0_1 (by first | decide | omega) (by first | decide | omega) (by first | decide | omega)
          have f3106 := jF (e := 34) (v := (1 + (h2504 75 34))) 0 f3097 rg_75_34_0_1 (by first | decide | omega) (by first | decide | omega) (by decide)
          have f3107 := jF (e := 34) (v := (1 + (h2504 75 34))) 0 f3098 rg_75_34_0_1 (by first | decide | omega) (by first | decide | omega) (by decide)
          generalize e3105 : x_up h3092 75 34 (1 + (h2504 75 34)) = h3103 at j3104 f3106 f3107 ⊢
          refine x_aload (np := 77) (x := 0) (by decide +kernel) rfl (x_nc_le (by decide)) ?_
          have q3108 : h3103 75 33 = h3092 75 33 := by rw [← e3105]; exact x_up_i (by first | decide | omega)
          have q3109 : h3092 75 33 = h2887 75 33 := jK 0 f3094 rg_75_33_0_1 (by first | decide | omega) (by first | decide | omega) (by decide)
          have q3110 : h2887 75 33 = h2875 75 33 := jK 0 f2889 rg_75_33_0_1 (by first | decide | omega) (by first | decide | omega) (by decide)
          have q3111 : h2875 75 33 = h2504 75 33 := by rw [← e2877]; exact x_up_i (by first | decide | omega)
          have q3112 : h2504 75 33 = h2 75 33 := jK 0 f2506 rg_75_33_0_1 (by first | decide | omega) (by first | decide | omega) (by decide)
          have q3113 : h2 75 33 = h 75 33 := by rw [← e4]; exact x_up_i (by first | decide | omega)
          have b3114 := jB (e := 33) 0 hJ rg_75_33_0_1 (by first | decide | omega) (by first | decide | omega)
          refine x_getC (np := 80) (x := 737) (f := 33) (q := (h 75 33)) (by decide +kernel) (by decide) (by decide +kernel) (((((q3108.trans q3109).trans q3110).trans q3111).trans q3112).trans q3113) (fun l3115 => ?_)
          refine x_ifz (k := 0) (tg := 85) (np := 83) (by decide +kernel) (by decide) l3115 (fun q3116 => ?_) (fun q3117 => ?_)
          · have q3116 : (h 75 33) = 2147483648 := q3116
            refine x_iload (np := 86) (x := 3) (by decide +kernel) rfl l2885 ?_
            refine x_const (np := 87) (x := 9223372043297226753) (a := 2147483649) (by decide +kernel) (by decide) (by decide) ?_
            refine x_icmp (k := 0) (tg := 95) (np := 90) (by decide +kernel) (by decide) l2885 (by decide) (fun q3118 => ?_) (fun q3119 => ?_)
            · have q3118 : v2884 = 2147483649 := q3118
              refine x_aload (np := 96) (x := 0) (by decide +kernel) rfl (x_nc_le (by decide)) ?_
              have q3120 : h3103 75 28 = 94 := by have z := jB (e := 28) 0 j3104 rg_75_28_0_1 (by decide) (by decide); omega
              refine x_getR (np := 99) (x := 732) (f := 28) (q := 94) (by decide +kernel) (by decide) (by decide +kernel) q3120 ?_
              refine x_iload (np := 100) (x := 2) (by decide +kernel) rfl (by decide) ?_
              refine x_const (np := 101) (x := 9223372034707292159) (a := 2147483647) (by decide +kernel) (by decide) (by decide) ?_
              refine x_ast (np := 102) (x := 0) (kd := 1) (n := 6) (i := 1) (by decide +kernel) (Or.inl rfl) (by decide +kernel) (by first | decide | omega) (by first | decide | omega) (by decide) (by decide) (fun z => absurd z (by decide)) ?_
              have j3122 := jU (e := 1) (v := 2147483647) 1 j3104 rg_94_0_1_6 (by first | decide | omega) (by first | decide | omega) (by first | decide | omega)
              have f3124 := jF (e := 1) (v := 2147483647) 1 f3106 rg_94_0_1_6 (by first | decide | omega) (by first | decide | omega) (by decide)
              have f3125 := jF (e := 1) (v := 2147483647) 1 f3107 rg_94_0_1_6 (by first | decide | omega) (by first | decide | omega) (by decide)
              generalize e3123 : x_up h3103 94 1 2147483647 = h3121 at j3122 f3124 f3125 ⊢
              refine x_aload (np := 103) (x := 0) (by decide +kernel) rfl (x_nc_le (by decide)) ?_
              have q3126 : h3121 75 27 = 93 := by have z := jB (e := 27) 0 j3122 rg_75_27_0_1 (by decide) (by decide); omega
              refine x_getR (np := 106) (x := 731) (f := 27) (q := 93) (by decide +kernel) (by decide) (by decide +kernel) q3126 ?_
              refine x_iload (np := 107) (x := 2) (by decide +kernel) rfl (by decide) ?_
              have q3127 : h3121 93 1 = h3103 93 1 := by rw [← e3123]; exact x_up_k (by decide)
              have q3128 : h3103 93 1 = h3092 93 1 := by rw [← e3105]; exact x_up_k (by decide)
              have q3129 : h3092 93 1 = h2887 93 1 := jK 1 f3094 rg_93_0_1_6 (by first | decide | omega) (by first | decide | omega) (by decide)
              have b3130 := jB (e := 1) 1 j2888 rg_93_0_1_6 (by first | decide | omega) (by first | decide | omega)
              refine x_aldC (np := 108) (x := 0) (n := 6) (i := 1) (q := (h2887 93 1)) (by decide +kernel) (by decide +kernel) (by first | decide | omega) (by first | decide | omega) (by decide) ((q3127.trans q3128).trans q3129) (fun l3131 => ?_)
              refine x_ifz (k := 2) (tg := 122) (np := 111) (by decide +kernel) (by decide) l3131 (fun q3132 => ?_) (fun q3133 => ?_)
              · have q3132 : (h2887 93 1) < 2147483648 := q3132
                refine x_aload (np := 123) (x := 0) (by decide +kernel) rfl (x_nc_le (by decide)) ?_
                have q3134 : h3121 75 28 = 94 := by have z := jB (e := 28) 0 j3122 rg_75_28_0_1 (by decide) (by decide); omega
                refine x_getR (np := 126) (x := 732) (f := 28) (q := 94) (by decide +kernel) (by decide) (by decide +kernel) q3134 ?_
                refine x_iload (np := 127) (x := 2) (by decide +kernel) rfl (by decide) ?_
                have q3135 : h3121 94 1 = 2147483647 := by rw [← e3123]; exact x_up_at
                refine x_aldC (np := 128) (x := 0) (n := 6) (i := 1) (q := 2147483647) (by decide +kernel) (by decide +kernel) (by first | decide | omega) (by first | decide | omega) (by decide) q3135 (fun l3136 => ?_)
                refine x_ifz (k := 3) (tg := 135) (np := 131) (by decide +kernel) (by decide) (by decide) (fun q3137 => ?_) (fun q3138 => ?_)
                · have q3137 : 2147483648 ≤ 2147483647 := q3137
                  exfalso; omega
                have q3138 : ¬ (2147483648 ≤ 2147483647) := q3138
                refine x_const (np := 132) (x := 9223372034707292159) (a := 2147483647) (by decide +kernel) (by decide) (by decide) ?_
                refine x_goto (np := 135) (x := 140) (by decide +kernel) ?_
                refine x_istore (np := 142) (x := 5) (lo' := [x_r 75, iv_c 2147483651, iv_c 2147483649, iv_c v2884, iv_c 2147483649, iv_c 2147483647]) (by decide +kernel) (by decide) (Nat.le_of_ble_eq_true rfl) rfl ?_
                refine x_iload (np := 144) (x := 5) (by decide +kernel) rfl (by decide) ?_
                refine x_ifz (k := 2) (tg := 151) (np := 147) (by decide +kernel) (by decide) (by decide) (fun q3139 => ?_) (fun q3140 => ?_)
                · have q3139 : 2147483647 < 2147483648 := q3139
                  refine x_const (np := 152) (x := 9223372039002259456) (a := 2147483648) (by decide +kernel) (by decide) (by decide) ?_
                  refine x_istore (np := 154) (x := 4) (lo' := [x_r 75, iv_c 2147483651, iv_c 2147483649, iv_c v2884, iv_c 2147483648, iv_c 2147483647]) (by decide +kernel) (by decide) (Nat.le_of_ble_eq_true rfl) rfl ?_
                  refine x_iload (np := 156) (x := 4) (by decide +kernel) rfl (by decide) ?_
                  refine x_ifz (k := 0) (tg := 180) (np := 159) (by decide +kernel) (by decide) (by decide) (fun q3141 => ?_) (fun q3142 => ?_)
                  · have q3141 : 2147483648 = 2147483648 := q3141
                    refine x_iinc (np := 183) (i := 2) (j := 2147483647) (v := 2147483648) (lo' := [x_r 75, iv_c 2147483651, iv_c 2147483648, iv_c v2884, iv_c 2147483648, iv_c 2147483647]) (by decide +kernel) (by decide) (by decide) rfl (by decide) (by first | decide | omega) (by first | decide | omega) rfl ?_
                    refine x_goto (np := 186) (x := 12) (by decide +kernel) ?_
                    have q3143 : h3121 75 30 = h3103 75 30 := by rw [← e3123]; exact x_up_k (by decide)
                    have q3144 : h3103 75 30 = h3092 75 30 := by rw [← e3105]; exact x_up_i (by first | decide | omega)
                    have q3145 : h3092 75 30 = h2887 75 30 := jK 0 f3094 rg_75_30_0_1 (by first | decide | omega) (by first | decide | omega) (by decide)
                    have q3146 : h2887 75 30 = h2875 75 30 := jK 0 f2889 rg_75_30_0_1 (by first | decide | omega) (by first | decide | omega) (by decide)
                    have q3147 : h2875 75 30 = (1 + (h2504 75 30)) := by rw [← e2877]; exact x_up_at
                    exact i2549 (iv_c v2884) (iv_c 2147483647) h3121 (by first | decide | omega) j3122 f3125 (by first | decide | omega)
                  have q3142 : ¬ (2147483648 = 2147483648) := q3142
                  exfalso; omega
                have q3140 : ¬ (2147483647 < 2147483648) := q3140
                exfalso; omega
              have q3133 : ¬ ((h2887 93 1) < 2147483648) := q3133
              refine x_aload (np := 112) (x := 0) (by decide +kernel) rfl (x_nc_le (by decide)) ?_
              refine x_aload (np := 113) (x := 0) (by decide +kernel) rfl (x_nc_le (by decide)) ?_
              have q3148 : h3121 75 27 = 93 := by have z := jB (e := 27) 0 j3122 rg_75_27_0_1 (by decide) (by decide); omega
              refine x_getR (np := 116) (x := 731) (f := 27) (q := 93) (by decide +kernel) (by decide) (by decide +kernel) q3148 ?_
              refine x_iload (np := 117) (x := 2) (by decide +kernel) rfl (by decide) ?_
              have q3149 : h3121 93 1 = h3103 93 1 := by rw [← e3123]; exact x_up_k (by decide)
              have q3150 : h3103 93 1 = h3092 93 1 := by rw [← e3105]; exact x_up_k (by decide)
              have q3151 : h3092 93 1 = h2887 93 1 := jK 1 f3094 rg_93_0_1_6 (by first | decide | omega) (by first | decide | omega) (by decide)
              refine x_aldC (np := 118) (x := 0) (n := 6) (i := 1) (q := (h2887 93 1)) (by decide +kernel) (by decide +kernel) (by first | decide | omega) (by first | decide | omega) (by decide) ((q3149.trans q3150).trans q3151) (fun l3152 => ?_)
              refine x_const (np := 119) (x := 9223372039002259456) (a := 2147483648) (by decide +kernel) (by decide) (by decide) ?_
              refine x_cV (t := 6) (mj := 248) (n := 3) (rc := 12) (ml := 4) (nr := 0) (np := 122) (as := [x_r 75, iv_c (h2887 93 1), iv_c 2147483648]) (rest := []) (lo1 := [x_r 75, iv_c (h2887 93 1), iv_c 2147483648, 147573952589676412928]) (by decide +kernel) (by decide) (by decide +kernel) (x_rb_of (by decide +kernel)) rfl rfl (x_wr (by decide) (x_wi l3131 (x_wi (by decide) x_wn))) x_wn (by decide) rfl (c248_75 j3122  (by first | decide | omega) (by first | decide | omega)) (fun h3156 q3155 => ?_)
              obtain ⟨j3157, f3158⟩ := q3155
              have f3161 := Fr.trans f3124 f3158 (by decide)
              have f3162 := Fr.trans f3125 f3158 (by decide)
              refine x_aload (np := 123) (x := 0) (by decide +kernel) rfl (x_nc_le (by decide)) ?_
              have q3163 : h3156 75 28 = 94 := by have z := jB (e := 28) 0 j3157 rg_75_28_0_1 (by decide) (by decide); omega
              refine x_getR (np := 126) (x := 732) (f := 28) (q := 94) (by decide +kernel) (by decide) (by decide +kernel) q3163 ?_
              refine x_iload (np := 127) (x := 2) (by decide +kernel) rfl (by decide) ?_
              have q3164 : h3156 94 1 = h3121 94 1 := jK 1 f3158 rg_94_0_1_6 (by first | decide | omega) (by first | decide | omega) (by decide)
              have q3165 : h3121 94 1 = 2147483647 := by rw [← e3123]; exact x_up_at
              refine x_aldC (np := 128) (x := 0) (n := 6) (i := 1) (q := 2147483647) (by decide +kernel) (by decide +kernel) (by first | decide | omega) (by first | decide | omega) (by decide) (q3164.trans q3165) (fun l3166 => ?_)
              refine x_ifz (k := 3) (tg := 135) (np := 131) (by decide +kernel) (by decide) (by decide) (fun q3167 => ?_) (fun q3168 => ?_)
              · have q3167 : 2147483648 ≤ 2147483647 := q3167
                exfalso; omega
              have q3168 : ¬ (2147483648 ≤ 2147483647) := q3168
              refine x_const (np := 132) (x := 9223372034707292159) (a := 2147483647) (by decide +kernel) (by decide) (by decide) ?_
              refine x_goto (np := 135) (x := 140) (by decide +kernel) ?_
              refine x_istore (np := 142) (x := 5) (lo' := [x_r 75, iv_c 2147483651, iv_c 2147483649, iv_c v2884, iv_c 2147483649, iv_c 2147483647]) (by decide +kernel) (by decide) (Nat.le_of_ble_eq_true rfl) rfl ?_
              refine x_iload (np := 144) (x := 5) (by decide +kernel) rfl (by decide) ?_
              refine x_ifz (k := 2) (tg := 151) (np := 147) (by decide +kernel) (by decide) (by decide) (fun q3169 => ?_) (fun q3170 => ?_)
              · have q3169 : 2147483647 < 2147483648 := q3169
                refine x_const (np := 152) (x := 9223372039002259456) (a := 2147483648) (by decide +kernel) (by decide) (by decide) ?_
                refine x_istore (np := 154) (x := 4) (lo' := [x_r 75, iv_c 2147483651, iv_c 2147483649, iv_c v2884, iv_c 2147483648, iv_c 2147483647]) (by decide +kernel) (by decide) (Nat.le_of_ble_eq_true rfl) rfl ?_
                refine x_iload (np := 156) (x := 4) (by decide +kernel) rfl (by decide) ?_
                refine x_ifz (k := 0) (tg := 180) (np := 159) (by decide +kernel) (by decide) (by decide) (fun q3171 => ?_) (fun q3172 => ?_)
                · have q3171 : 2147483648 = 2147483648 := q3171
                  refine x_iinc (np := 183) (i := 2) (j := 2147483647) (v := 2147483648) (lo' := [x_r 75, iv_c 2147483651, iv_c 2147483648, iv_c v2884, iv_c 2147483648, iv_c 2147483647]) (by decide +kernel) (by decide) (by decide) rfl (by decide) (by first | decide | omega) (by first | decide | omega) rfl ?_
                  refine x_goto (np := 186) (x := 12) (by decide +kernel) ?_
                  have q3173 : h3156 75 30 = h3121 75 30 := jK 0 f3158 rg_75_30_0_1 (by first | decide | omega) (by first | decide | omega) (by decide)
                  have q3174 : h3121 75 30 = h3103 75 30 := by rw [← e3123]; exact x_up_k (by decide)
                  have q3175 : h3103 75 30 = h3092 75 30 := by rw [← e3105]; exact x_up_i (by first | decide | omega)
                  have q3176 : h3092 75 30 = h2887 75 30 := jK 0 f3094 rg_75_30_0_1 (by first | decide | omega) (by first | decide | omega) (by decide)
                  have q3177 : h2887 75 30 = h2875 75 30 := jK 0 f2889 rg_75_30_0_1 (by first | decide | omega) (by first | decide | omega) (by decide)
                  have q3178 : h2875 75 30 = (1 + (h2504 75 30)) := by rw [← e2877]; exact x_up_at
                  exact i2549 (iv_c v2884) (iv_c 2147483647) h3156 (by first | decide | omega) j3157 f3162 (by first | decide | omega)
                have q3172 : ¬ (2147483648 = 2147483648) := q3172
                exfalso; omega
              have q3170 : ¬ (2147483647 < 2147483648) := q3170
              exfalso; omega
            have q3119 : ¬ (v2884 = 2147483649) := q3119
            exfalso; omega
          have q3117 : ¬ ((h 75 33) = 2147483648) := q3117
          refine x_const (np := 84) (x := 9223372043297226753) (a := 2147483649) (by decide +kernel) (by decide) (by decide) ?_
          have q3179 : h3103 75 30 = h3092 75 30 := by rw [← e3105]; exact x_up_i (by first | decide | omega)
          have q3180 : h3092 75 30 = h2887 75 30 := jK 0 f3094 rg_75_30_0_1 (by first | decide | omega) (by first | decide | omega) (by decide)
          have q3181 : h2887 75 30 = h2875 75 30 := jK 0 f2889 rg_75_30_0_1 (by first | decide | omega) (by first | decide | omega) (by decide)
          have q3182 : h2875 75 30 = (1 + (h2504 75 30)) := by rw [← e2877]; exact x_up_at
          refine x_retI (np := 85) (x := 0) (by decide +kernel) (by decide) (Or.inr ⟨by decide +kernel, by first | decide | omega, by first | decide | omega⟩) ⟨_, rfl, (by decide), ?_⟩
          exact ⟨j3104, f3106, (by first | decide | omega), (fun z => by first | decide | omega)⟩
        have q2883 : ¬ ((1 + (h2504 75 30)) ≤ 2147503648) := q2883
        refine x_const (np := 42) (x := 9223372039002259456) (a := 2147483648) (by decide +kernel) (by decide) (by decide) ?_
        have q3183 : h2875 75 30 = (1 + (h2504 75 30)) := by rw [← e2877]; exact x_up_at
        refine x_retI (np := 43) (x := 0) (by decide +kernel) (by decide) (Or.inr ⟨by decide +kernel, by first | decide | omega, by first | decide | omega⟩) ⟨_, rfl, (by decide), ?_⟩
        exact ⟨j2876, f2878, (by first | decide | omega), (fun z => by first | decide | omega)⟩
      · intro w2508 w2509 h2510 q3184 j2513 f2512 b2511
        have f3185 := Fr.trans f5 f2512 (by decide)
        refine x_iload (np := 13) (x := 2) (by decide +kernel) rfl (by decide) ?_
        refine x_ifz (k := 2) (tg := 186) (np := 16) (by decide +kernel) (by decide) (by decide) (fun q3186 => ?_) (fun q3187 => ?_)
        · have q3186 : 2147483650 < 2147483648 := q3186
          exfalso; omega
        have q3187 : ¬ (2147483650 < 2147483648) := q3187
        refine x_iload (np := 18) (x := 4) (by decide +kernel) rfl (by decide) ?_
        refine x_ifz (k := 0) (tg := 102) (np := 21) (by decide +kernel) (by decide) (by decide) (fun q3188 => ?_) (fun q3189 => ?_)
        · have q3188 : 2147483649 = 2147483648 := q3188
          exfalso; omega
        have q3189 : ¬ (2147483649 = 2147483648) := q3189
        refine x_aload (np := 22) (x := 0) (by decide +kernel) rfl (x_nc_le (by decide)) ?_
        refine x_dup (np := 23) (x := 0) (by decide +kernel) (by have z := x_nc_le (k := 75) (by decide); unfold x_r; omega) ?_
        refine x_getC (np := 26) (x := 734) (f := 30) (q := (h2510 75 30)) (by decide +kernel) (by decide) (by decide +kernel) rfl (fun l3190 => ?_)
        refine x_const (np := 27) (x := 9223372043297226753) (a := 2147483649) (by decide +kernel) (by decide) (by decide) ?_
        refine x_iadd (np := 28) (x := 0) (v := (1 + (h2510 75 30))) (by decide +kernel) l3190 (by decide) (by first | decide | omega) (by first | decide | omega) ?_
        refine x_putI (np := 31) (x := 734) (f := 30) (by decide +kernel) (by decide +kernel) (by first | decide | omega) (Or.inl (by decide)) ?_
        have j3192 := jU (e := 30) (v := (1 + (h2510 75 30))) 0 j2513 rg_75_30_0_1 (by first | decide | omega) (by first | decide | omega) (by first | decide | omega)
        have f3194 := jF (e := 30) (v := (1 + (h2510 75 30))) 0 f3185 rg_75_30_0_1 (by first | decide | omega) (by first | decide | omega) (by decide)
        have f3195 := jF (e := 30) (v := (1 + (h2510 75 30))) 0 f2512 rg_75_30_0_1 (by first | decide | omega) (by first | decide | omega) (by decide)
        generalize e3193 : x_up h2510 75 30 (1 + (h2510 75 30)) = h3191 at j3192 f3194 f3195 ⊢
        refine x_aload (np := 32) (x := 0) (by decide +kernel) rfl (x_nc_le (by decide)) ?_
        have q3196 : h3191 75 30 = (1 + (h2510 75 30)) := by rw [← e3193]; exact x_up_at
        refine x_getC (np := 35) (x := 734) (f := 30) (q := (1 + (h2510 75 30))) (by decide +kernel) (by decide) (by decide +kernel) q3196 (fun l3197 => ?_)
        refine x_const (np := 38) (x := 9223457938348199456) (a := 2147503648) (by decide +kernel) (by decide) (by decide) ?_
        refine x_icmp (k := 5) (tg := 43) (np := 41) (by decide +kernel) (by decide) (by first | decide | omega) (by decide) (fun q3198 => ?_) (fun q3199 => ?_)
        · have q3198 : (1 + (h2510 75 30)) ≤ 2147503648 := q3198
          refine x_aload (np := 44) (x := 0) (by decide +kernel) rfl (x_nc_le (by decide)) ?_
          refine x_iload (np := 45) (x := 2) (by decide +kernel) rfl (by decide) ?_
          refine x_cI (t := 6) (mj := 254) (n := 2) (rc := 12) (ml := 4) (nr := 0) (np := 48) (as := [x_r 75, iv_c 2147483650]) (rest := []) (lo1 := [x_r 75, iv_c 2147483650, 147573952589676412928, 147573952589676412928]) (by decide +kernel) (by decide) (by decide +kernel) (x_rb_of (by decide +kernel)) rfl rfl (x_wr (by decide) (x_wi (by decide) x_wn)) x_wn (by decide) rfl (c254_75 j3192  (by first | decide | omega)) (fun v3200 h3203 l3201 q3202 => ?_)
          obtain ⟨j3204, f3205, b3206⟩ := q3202
          have f3207 := Fr.trans f3194 f3205 (by decide)
          have f3208 := Fr.trans f3195 f3205 (by decide)
          refine x_istore (np := 49) (x := 3) (lo' := [x_r 75, iv_c 2147483651, iv_c 2147483650, iv_c v3200, iv_c 2147483649, w2509]) (by decide +kernel) l3201 (Nat.le_of_ble_eq_true rfl) rfl ?_
          refine x_iload (np := 50) (x := 3) (by decide +kernel) rfl l3201 ?_
          refine x_const (np := 51) (x := 9223372043297226753) (a := 2147483649) (by decide +kernel) (by decide) (by decide) ?_
          refine x_icmp (k := 1) (tg := 85) (np := 54) (by decide +kernel) (by decide) l3201 (by decide) (fun q3209 => ?_) (fun q3210 => ?_)
          · have q3209 : v3200 ≠ 2147483649 := q3209
            refine x_iload (np := 86) (x := 3) (by decide +kernel) rfl l3201 ?_
            refine x_const (np := 87) (x := 9223372043297226753) (a := 2147483649) (by decide +kernel) (by decide) (by decide) ?_
            refine x_icmp (k := 0) (tg := 95) (np := 90) (by decide +kernel) (by decide) l3201 (by decide) (fun q3211 => ?_) (fun q3212 => ?_)
            · have q3211 : v3200 = 2147483649 := q3211
              exfalso; omega
            have q3212 : ¬ (v3200 = 2147483649) := q3212
            refine x_iload (np := 91) (x := 2) (by decide +kernel) rfl (by decide) ?_
            refine x_iload (np := 92) (x := 1) (by decide +kernel) rfl (by decide) ?_
            refine x_icmp (k := 1) (tg := 102) (np := 95) (by decide +kernel) (by decide) (by decide) (by decide) (fun q3213 => ?_) (fun q3214 => ?_)
            · have q3213 : 2147483650 ≠ 2147483651 := q3213
              refine x_aload (np := 103) (x := 0) (by decide +kernel) rfl (x_nc_le (by decide)) ?_
              have q3215 : h3203 75 27 = 93 := by have z := jB (e := 27) 0 j3204 rg_75_27_0_1 (by decide) (by decide); omega
              refine x_getR (np := 106) (x := 731) (f := 27) (q := 93) (by decide +kernel) (by decide) (by decide +kernel) q3215 ?_
              refine x_iload (np := 107) (x := 2) (by decide +kernel) rfl (by decide) ?_
              have b3216 := jB (e := 2) 2 j3204 rg_93_0_1_6 (by first | decide | omega) (by first | decide | omega)
              refine x_aldC (np := 108) (x := 0) (n := 6) (i := 2) (q := (h3203 93 2)) (by decide +kernel) (by decide +kernel) (by first | decide | omega) (by first | decide | omega) (by decide) rfl (fun l3217 => ?_)
              refine x_ifz (k := 2) (tg := 122) (np := 111) (by decide +kernel) (by decide) l3217 (fun q3218 => ?_) (fun q3219 => ?_)
              · have q3218 : (h3203 93 2) < 2147483648 := q3218
                refine x_aload (np := 123) (x := 0) (by decide +kernel) rfl (x_nc_le (by decide)) ?_
                have q3220 : h3203 75 28 = 94 := by have z := jB (e := 28) 0 j3204 rg_75_28_0_1 (by decide) (by decide); omega
                refine x_getR (np := 126) (x := 732) (f := 28) (q := 94) (by decide +kernel) (by decide) (by decide +kernel) q3220 ?_
                refine x_iload (np := 127) (x := 2) (by decide +kernel) rfl (by decide) ?_
                have b3221 := jB (e := 2) 2 j3204 rg_94_0_1_6 (by first | decide | omega) (by first | decide | omega)
                refine x_aldC (np := 128) (x := 0) (n := 6) (i := 2) (q := (h3203 94 2)) (by decide +kernel) (by decide +kernel) (by first | decide | omega) (by first | decide | omega) (by decide) rfl (fun l3222 => ?_)
                refine x_ifz (k := 3) (tg := 135) (np := 131) (by decide +kernel) (by decide) l3222 (fun q3223 => ?_) (fun q3224 => ?_)
                · have q3223 : 2147483648 ≤ (h3203 94 2) := q3223
                  refine x_aload (np := 136) (x := 0) (by decide +kernel) rfl (x_nc_le (by decide)) ?_
                  refine x_iload (np := 137) (x := 2) (by decide +kernel) rfl (by decide) ?_
                  refine x_cP (t := 6) (mj := 257) (n := 2) (rc := 12) (ml := 3) (nr := 0) (np := 140) (as := [x_r 75, iv_c 2147483650]) (rest := []) (lo1 := [x_r 75, iv_c 2147483650, 147573952589676412928]) (by decide +kernel) (by decide) (by decide +kernel) (x_rb_of (by decide +kernel)) rfl rfl (x_wr (by decide) (x_wi (by decide) x_wn)) x_wn (by decide) rfl (c257_75_c2 j3204   (by first | decide | omega)) (fun v3225 l3226 q3227 => ?_)
                  refine x_istore (np := 142) (x := 5) (lo' := [x_r 75, iv_c 2147483651, iv_c 2147483650, iv_c v3200, iv_c 2147483649, iv_c v3225]) (by decide +kernel) l3226 (Nat.le_of_ble_eq_true rfl) rfl ?_
                  refine x_iload (np := 144) (x := 5) (by decide +kernel) rfl l3226 ?_
                  refine x_ifz (k := 2) (tg := 151) (np := 147) (by decide +kernel) (by decide) l3226 (fun q3228 => ?_) (fun q3229 => ?_)
                  · have q3228 : v3225 < 2147483648 := q3228
                    refine x_const (np := 152) (x := 9223372039002259456) (a := 2147483648) (by decide +kernel) (by decide) (by decide) ?_
                    refine x_istore (np := 154) (x := 4) (lo' := [x_r 75, iv_c 2147483651, iv_c 2147483650, iv_c v3200, iv_c 2147483648, iv_c v3225]) (by decide +kernel) (by decide) (Nat.le_of_ble_eq_true rfl) rfl ?_
                    refine x_iload (np := 156) (x := 4) (by decide +kernel) rfl (by decide) ?_
                    refine x_ifz (k := 0) (tg := 180) (np := 159) (by decide +kernel) (by decide) (by decide) (fun q3230 => ?_) (fun q3231 => ?_)
                    · have q3230 : 2147483648 = 2147483648 := q3230
                      refine x_iinc (np := 183) (i := 2) (j := 2147483647) (v := 2147483649) (lo' := [x_r 75, iv_c 2147483651, iv_c 2147483649, iv_c v3200, iv_c 2147483648, iv_c v3225]) (by decide +kernel) (by decide) (by decide) rfl (by decide) (by first | decide | omega) (by first | decide | omega) rfl ?_
                      refine x_goto (np := 186) (x := 12) (by decide +kernel) ?_
                      have q3232 : h3203 75 30 = h3191 75 30 := jK 0 f3205 rg_75_30_0_1 (by first | decide | omega) (by first | decide | omega) (by decide)
                      have q3233 : h3191 75 30 = (1 + (h2510 75 30)) := by rw [← e3193]; exact x_up_at
                      exact i2550 (iv_c v3200) (iv_c v3225) h3203 (by first | decide | omega) j3204 f3208 (by first | decide | omega)
                    have q3231 : ¬ (2147483648 = 2147483648) := q3231
                    exfalso; omega
                  have q3229 : ¬ (v3225 < 2147483648) := q3229
                  refine x_const (np := 148) (x := 9223372043297226753) (a := 2147483649) (by decide +kernel) (by decide) (by decide) ?_
                  refine x_goto (np := 151) (x := 152) (by decide +kernel) ?_
                  refine x_istore (np := 154) (x := 4) (lo' := [x_r 75, iv_c 2147483651, iv_c 2147483650, iv_c v3200, iv_c 2147483649, iv_c v3225]) (by decide +kernel) (by decide) (Nat.le_of_ble_eq_true rfl) rfl ?_
                  refine x_iload (np := 156) (x := 4) (by decide +kernel) rfl (by decide) ?_
                  refine x_ifz (k := 0) (tg := 180) (np := 159) (by decide +kernel) (by decide) (by decide) (fun q3234 => ?_) (fun q3235 => ?_)
                  · have q3234 : 2147483649 = 2147483648 := q3234
                    exfalso; omega
                  have q3235 : ¬ (2147483649 = 2147483648) := q3235
                  refine x_aload (np := 160) (x := 0) (by decide +kernel) rfl (x_nc_le (by decide)) ?_
                  have q3236 : h3203 75 27 = 93 := by have z := jB (e := 27) 0 j3204 rg_75_27_0_1 (by decide) (by decide); omega
                  refine x_getR (np := 163) (x := 731) (f := 27) (q := 93) (by decide +kernel) (by decide) (by decide +kernel) q3236 ?_
                  refine x_iload (np := 164) (x := 2) (by decide +kernel) rfl (by decide) ?_
                  refine x_iload (np := 166) (x := 5) (by decide +kernel) rfl l3226 ?_
                  refine x_ast (np := 167) (x := 0) (kd := 1) (n := 6) (i := 2) (by decide +kernel) (Or.inl rfl) (by decide +kernel) (by first | decide | omega) (by first | decide | omega) (by decide) l3226 (fun z => absurd z (by decide)) ?_
                  have j3238 := jU (e := 2) (v := v3225) 2 j3204 rg_93_0_1_6 (by first | decide | omega) (by first | decide | omega) (by first | decide | omega)
                  have f3240 := jF (e := 2) (v := v3225) 2 f3207 rg_93_0_1_6 (by first | decide | omega) (by first | decide | omega) (by decide)
                  have f3241 := jF (e := 2) (v := v3225) 2 f3208 rg_93_0_1_6 (by first | decide | omega) (by first | decide | omega) (by decide)
                  generalize e3239 : x_up h3203 93 2 v3225 = h3237 at j3238 f3240 f3241 ⊢
                  refine x_aload (np := 168) (x := 0) (by decide +kernel) rfl (x_nc_le (by decide)) ?_
                  refine x_iload (np := 170) (x := 5) (by decide +kernel) rfl l3226 ?_
                  refine x_const (np := 171) (x := 9223372043297226753) (a := 2147483649) (by decide +kernel) (by decide) (by decide) ?_
                  refine x_cV (t := 6) (mj := 248) (n := 3) (rc := 12) (ml := 4) (nr := 0) (np := 174) (as := [x_r 75, iv_c v3225, iv_c 2147483649]) (rest := []) (lo1 := [x_r 75, iv_c v3225, iv_c 2147483649, 147573952589676412928]) (by decide +kernel) (by decide) (by decide +kernel) (x_rb_of (by decide +kernel)) rfl rfl (x_wr (by decide) (x_wi l3226 (x_wi (by decide) x_wn))) x_wn (by decide) rfl (c248_75 j3238  (by first | decide | omega) (by first | decide | omega)) (fun h3245 q3244 => ?_)
                  obtain ⟨j3246, f3247⟩ := q3244
                  have f3250 := Fr.trans f3240 f3247 (by decide)
                  have f3251 := Fr.trans f3241 f3247 (by decide)
                  refine x_iinc (np := 177) (i := 2) (j := 2147483649) (v := 2147483651) (lo' := [x_r 75, iv_c 2147483651, iv_c 2147483651, iv_c v3200, iv_c 2147483649, iv_c v3225]) (by decide +kernel) (by decide) (by decide) rfl (by decide) (by first | decide | omega) (by first | decide | omega) rfl ?_
                  refine x_goto (np := 180) (x := 183) (by decide +kernel) ?_
                  refine x_goto (np := 186) (x := 12) (by decide +kernel) ?_
                  have q3252 : h3245 75 30 = h3237 75 30 := jK 0 f3247 rg_75_30_0_1 (by first | decide | omega) (by first | decide | omega) (by decide)
                  have q3253 : h3237 75 30 = h3203 75 30 := by rw [← e3239]; exact x_up_k (by decide)
                  have q3254 : h3203 75 30 = h3191 75 30 := jK 0 f3205 rg_75_30_0_1 (by first | decide | omega) (by first | decide | omega) (by decide)
                  have q3255 : h3191 75 30 = (1 + (h2510 75 30)) := by rw [← e3193]; exact x_up_at
                  exact i2547 (iv_c v3200) (iv_c v3225) h3245 (by first | decide | omega) j3246 f3251 (by first | decide | omega)
                have q3224 : ¬ (2147483648 ≤ (h3203 94 2)) := q3224
                refine x_const (np := 132) (x := 9223372034707292159) (a := 2147483647) (by decide +kernel) (by decide) (by decide) ?_
                refine x_goto (np := 135) (x := 140) (by decide +kernel) ?_
                refine x_istore (np := 142) (x := 5) (lo' := [x_r 75, iv_c 2147483651, iv_c 2147483650, iv_c v3200, iv_c 2147483649, iv_c 2147483647]) (by decide +kernel) (by decide) (Nat.le_of_ble_eq_true rfl) rfl ?_
                refine x_iload (np := 144) (x := 5) (by decide +kernel) rfl (by decide) ?_
                refine x_ifz (k := 2) (tg := 151) (np := 147) (by decide +kernel) (by decide) (by decide) (fun q3256 => ?_) (fun q3257 => ?_)
                · have q3256 : 2147483647 < 2147483648 := q3256
                  refine x_const (np := 152) (x := 9223372039002259456) (a := 2147483648) (by decide +kernel) (by decide) (by decide) ?_
                  refine x_istore (np := 154) (x := 4) (lo' := [x_r 75, iv_c 2147483651, iv_c 2147483650, iv_c v3200, iv_c 2147483648, iv_c 2147483647]) (by decide +kernel) (by decide) (Nat.le_of_ble_eq_true rfl) rfl ?_
                  refine x_iload (np := 156) (x := 4) (by decide +kernel) rfl (by decide) ?_
                  refine x_ifz (k := 0) (tg := 180) (np := 159) (by decide +kernel) (by decide) (by decide) (fun q3258 => ?_) (fun q3259 => ?_)
                  · have q3258 : 2147483648 = 2147483648 := q3258
                    refine x_iinc (np := 183) (i := 2) (j := 2147483647) (v := 2147483649) (lo' := [x_r 75, iv_c 2147483651, iv_c 2147483649, iv_c v3200, iv_c 2147483648, iv_c 2147483647]) (by decide +kernel) (by decide) (by decide) rfl (by decide) (by first | decide | omega) (by first | decide | omega) rfl ?_
                    refine x_goto (np := 186) (x := 12) (by decide +kernel) ?_
                    have q3260 : h3203 75 30 = h3191 75 30 := jK 0 f3205 rg_75_30_0_1 (by first | decide | omega) (by first | decide | omega) (by decide)
                    have q3261 : h3191 75 30 = (1 + (h2510 75 30)) := by rw [← e3193]; exact x_up_at
                    exact i2550 (iv_c v3200) (iv_c 2147483647) h3203 (by first | decide | omega) j3204 f3208 (by first | decide | omega)
                  have q3259 : ¬ (2147483648 = 2147483648) := q3259
                  exfalso; omega
                have q3257 : ¬ (2147483647 < 2147483648) := q3257
                exfalso; omega
              have q3219 : ¬ ((h3203 93 2) < 2147483648) := q3219
              refine x_aload (np := 112) (x := 0) (by decide +kernel) rfl (x_nc_le (by decide)) ?_
              refine x_aload (np := 113) (x := 0) (by decide +kernel) rfl (x_nc_le (by decide)) ?_
              have q3262 : h3203 75 27 = 93 := by have z := jB (e := 27) 0 j3204 rg_75_27_0_1 (by decide) (by decide); omega
              refine x_getR (np := 116) (x := 731) (f := 27) (q := 93) (by decide +kernel) (by decide) (by decide +kernel) q3262 ?_
              refine x_iload (np := 117) (x := 2) (by decide +kernel) rfl (by decide) ?_
              refine x_aldC (np := 118) (x := 0) (n := 6) (i := 2) (q := (h3203 93 2)) (by decide +kernel) (by decide +kernel) (by first | decide | omega) (by first | decide | omega) (by decide) rfl (fun l3263 => ?_)
              refine x_const (np := 119) (x := 9223372039002259456) (a := 2147483648) (by decide +kernel) (by decide) (by decide) ?_
              refine x_cV (t := 6) (mj := 248) (n := 3) (rc := 12) (ml := 4) (nr := 0) (np := 122) (as := [x_r 75, iv_c (h3203 93 2), iv_c 2147483648]) (rest := []) (lo1 := [x_r 75, iv_c (h3203 93 2), iv_c 2147483648, 147573952589676412928]) (by decide +kernel) (by decide) (by decide +kernel) (x_rb_of (by decide +kernel)) rfl rfl (x_wr (by decide) (x_wi l3217 (x_wi (by decide) x_wn))) x_wn (by decide) rfl (c248_75 j3204  (by first | decide | omega) (by first | decide | omega)) (fun h3267 q3266 => ?_)
              obtain ⟨j3268, f3269⟩ := q3266
              have f3272 := Fr.trans f3207 f3269 (by decide)
              have f3273 := Fr.trans f3208 f3269 (by decide)
              refine x_aload (np := 123) (x := 0) (by decide +kernel) rfl (x_nc_le (by decide)) ?_
              have q3274 : h3267 75 28 = 94 := by have z := jB (e := 28) 0 j3268 rg_75_28_0_1 (by decide) (by decide); omega
              refine x_getR (np := 126) (x := 732) (f := 28) (q := 94) (by decide +kernel) (by decide) (by decide +kernel) q3274 ?_
              refine x_iload (np := 127) (x := 2) (by decide +kernel) rfl (by decide) ?_
              have q3275 : h3267 94 2 = h3203 94 2 := jK 2 f3269 rg_94_0_1_6 (by first | decide | omega) (by first | decide | omega) (by decide)
              have b3276 := jB (e := 2) 2 j3204 rg_94_0_1_6 (by first | decide | omega) (by first | decide | omega)
              refine x_aldC (np := 128) (x := 0) (n := 6) (i := 2) (q := (h3203 94 2)) (by decide +kernel) (by decide +kernel) (by first | decide | omega) (by first | decide | omega) (by decide) q3275 (fun l3277 => ?_)
              refine x_ifz (k := 3) (tg := 135) (np := 131) (by decide +kernel) (by decide) l3277 (fun q3278 => ?_) (fun q3279 => ?_)
              · have q3278 : 2147483648 ≤ (h3203 94 2) := q3278
                refine x_aload (np := 136) (x := 0) (by decide +kernel) rfl (x_nc_le (by decide)) ?_
                refine x_iload (np := 137) (x := 2) (by decide +kernel) rfl (by decide) ?_
                have q3280 : h3267 94 2 = h3203 94 2 := jK 2 f3269 rg_94_0_1_6 (by first | decide | omega) (by first | decide | omega) (by decide)
                refine x_cP (t := 6) (mj := 257) (n := 2) (rc := 12) (ml := 3) (nr := 0) (np := 140) (as := [x_r 75, iv_c 2147483650]) (rest := []) (lo1 := [x_r 75, iv_c 2147483650, 147573952589676412928]) (by decide +kernel) (by decide) (by decide +kernel) (x_rb_of (by decide +kernel)) rfl rfl (x_wr (by decide) (x_wi (by decide) x_wn)) x_wn (by decide) rfl (c257_75_c2 j3268   (by first | decide | omega)) (fun v3281 l3282 q3283 => ?_)
                refine x_istore (np := 142) (x := 5) (lo' := [x_r 75, iv_c 2147483651, iv_c 2147483650, iv_c v3200, iv_c 2147483649, iv_c v3281]) (by decide +kernel) l3282 (Nat.le_of_ble_eq_true rfl) rfl ?_
                refine x_iload (np := 144) (x := 5) (by decide +kernel) rfl l3282 ?_
                refine x_ifz (k := 2) (tg := 151) (np := 147) (by decide +kernel) (by decide) l3282 (fun q3284 => ?_) (fun q3285 => ?_)
                · have q3284 : v3281 < 2147483648 := q3284
                  refine x_const (np := 152) (x := 9223372039002259456) (a := 2147483648) (by decide +kernel) (by decide) (by decide) ?_
                  refine x_istore (np := 154) (x := 4) (lo' := [x_r 75, iv_c 2147483651, iv_c 2147483650, iv_c v3200, iv_c 2147483648, iv_c v3281]) (by decide +kernel) (by decide) (Nat.le_of_ble_eq_true rfl) rfl ?_
                  refine x_iload (np := 156) (x := 4) (by decide +kernel) rfl (by decide) ?_
                  refine x_ifz (k := 0) (tg := 180) (np := 159) (by decide +kernel) (by decide) (by decide) (fun q3286 => ?_) (fun q3287 => ?_)
                  · have q3286 : 2147483648 = 2147483648 := q3286
                    refine x_iinc (np := 183) (i := 2) (j := 2147483647) (v := 2147483649) (lo' := [x_r 75, iv_c 2147483651, iv_c 2147483649, iv_c v3200, iv_c 2147483648, iv_c v3281]) (by decide +kernel) (by decide) (by decide) rfl (by decide) (by first | decide | omega) (by first | decide | omega) rfl ?_
                    refine x_goto (np := 186) (x := 12) (by decide +kernel) ?_
                    have q3288 : h3267 75 30 = h3203 75 30 := jK 0 f3269 rg_75_30_0_1 (by first | decide | omega) (by first | decide | omega) (by decide)
                    have q3289 : h3203 75 30 = h3191 75 30 := jK 0 f3205 rg_75_30_0_1 (by first | decide | omega) (by first | decide | omega) (by decide)
                    have q3290 : h3191 75 30 = (1 + (h2510 75 30)) := by rw [← e3193]; exact x_up_at
                    exact i2550 (iv_c v3200) (iv_c v3281) h3267 (by first | decide | omega) j3268 f3273 (by first | decide | omega)
                  have q3287 : ¬ (2147483648 = 2147483648) := q3287
                  exfalso; omega
                have q3285 : ¬ (v3281 < 2147483648) := q3285
                refine x_const (np := 148) (x := 9223372043297226753) (a := 2147483649) (by decide +kernel) (by decide) (by decide) ?_
                refine x_goto (np := 151) (x := 152) (by decide +kernel) ?_
                refine x_istore (np := 154) (x := 4) (lo' := [x_r 75, iv_c 2147483651, iv_c 2147483650, iv_c v3200, iv_c 2147483649, iv_c v3281]) (by decide +kernel) (by decide) (Nat.le_of_ble_eq_true rfl) rfl ?_
                refine x_iload (np := 156) (x := 4) (by decide +kernel) rfl (by decide) ?_
                refine x_ifz (k := 0) (tg := 180) (np := 159) (by decide +kernel) (by decide) (by decide) (fun q3291 => ?_) (fun q3292 => ?_)
                · have q3291 : 2147483649 = 2147483648 := q3291
                  exfalso; omega
                have q3292 : ¬ (2147483649 = 2147483648) := q3292
                refine x_aload (np := 160) (x := 0) (by decide +kernel) rfl (x_nc_le (by decide)) ?_
                have q3293 : h3267 75 27 = 93 := by have z := jB (e := 27) 0 j3268 rg_75_27_0_1 (by decide) (by decide); omega
                refine x_getR (np := 163) (x := 731) (f := 27) (q := 93) (by decide +kernel) (by decide) (by decide +kernel) q3293 ?_
                refine x_iload (np := 164) (x := 2) (by decide +kernel) rfl (by decide) ?_
                refine x_iload (np := 166) (x := 5) (by decide +kernel) rfl l3282 ?_
                refine x_ast (np := 167) (x := 0) (kd := 1) (n := 6) (i := 2) (by decide +kernel) (Or.inl rfl) (by decide +kernel) (by first | decide | omega) (by first | decide | omega) (by decide) l3282 (fun z => absurd z (by decide)) ?_
                have j3295 := jU (e := 2) (v := v3281) 2 j3268 rg_93_0_1_6 (by first | decide | omega) (by first | decide | omega) (by first | decide | omega)
                have f3297 := jF (e := 2) (v := v3281) 2 f3272 rg_93_0_1_6 (by first | decide | omega) (by first | decide | omega) (by decide)
                have f3298 := jF (e := 2) (v := v3281) 2 f3273 rg_93_0_1_6 (by first | decide | omega) (by first | decide | omega) (by decide)
                generalize e3296 : x_up h3267 93 2 v3281 = h3294 at j3295 f3297 f3298 ⊢
                refine x_aload (np := 168) (x := 0) (by decide +kernel) rfl (x_nc_le (by decide)) ?_
                refine x_iload (np := 170) (x := 5) (by decide +kernel) rfl l3282 ?_
                refine x_const (np := 171) (x := 9223372043297226753) (a := 2147483649) (by decide +kernel) (by decide) (by decide) ?_
                refine x_cV (t := 6) (mj := 248) (n := 3) (rc := 12) (ml := 4) (nr := 0) (np := 174) (as := [x_r 75, iv_c v3281, iv_c 2147483649]) (rest := []) (lo1 := [x_r 75, iv_c v3281, iv_c 2147483649, 147573952589676412928]) (by decide +kernel) (by decide) (by decide +kernel) (x_rb_of (by decide +kernel)) rfl rfl (x_wr (by decide) (x_wi l3282 (x_wi (by decide) x_wn))) x_wn (by decide) rfl (c248_75 j3295  (by first | decide | omega) (by first | decide | omega)) (fun h3302 q3301 => ?_)
                obtain ⟨j3303, f3304⟩ := q3301
                have f3307 := Fr.trans f3297 f3304 (by decide)
                have f3308 := Fr.trans f3298 f3304 (by decide)
                refine x_iinc (np := 177) (i := 2) (j := 2147483649) (v := 2147483651) (lo' := [x_r 75, iv_c 2147483651, iv_c 2147483651, iv_c v3200, iv_c 2147483649, iv_c v3281]) (by decide +kernel) (by decide) (by decide) rfl (by decide) (by first | decide | omega) (by first | decide | omega) rfl ?_
                refine x_goto (np := 180) (x := 183) (by decide +kernel) ?_
                refine x_goto (np := 186) (x := 12) (by decide +kernel) ?_
                have q3309 : h3302 75 30 = h3294 75 30 := jK 0 f3304 rg_75_30_0_1 (by first | decide | omega) (by first | decide | omega) (by decide)
                have q3310 : h3294 75 30 = h3267 75 30 := by rw [← e3296]; exact x_up_k (by decide)
                have q3311 : h3267 75 30 = h3203 75 30 := jK 0 f3269 rg_75_30_0_1 (by first | decide | omega) (by first | decide | omega) (by decide)
                have q3312 : h3203 75 30 = h3191 75 30 := jK 0 f3205 rg_75_30_0_1 (by first | decide | omega) (by first | decide | omega) (by decide)
                have q3313 : h3191 75 30 = (1 + (h2510 75 30)) := by rw [← e3193]; exact x_up_at
                exact i2547 (iv_c v3200) (iv_c v3281) h3302 (by first | decide | omega) j3303 f3308 (by first | decide | omega)
              have q3279 : ¬ (2147483648 ≤ (h3203 94 2)) := q3279
              refine x_const (np := 132) (x := 9223372034707292159) (a := 2147483647) (by decide +kernel) (by decide) (by decide) ?_
              refine x_goto (np := 135) (x := 140) (by decide +kernel) ?_
              refine x_istore (np := 142) (x := 5) (lo' := [x_r 75, iv_c 2147483651, iv_c 2147483650, iv_c v3200, iv_c 2147483649, iv_c 2147483647]) (by decide +kernel) (by decide) (Nat.le_of_ble_eq_true rfl) rfl ?_
              refine x_iload (np := 144) (x := 5) (by decide +kernel) rfl (by decide) ?_
              refine x_ifz (k := 2) (tg := 151) (np := 147) (by decide +kernel) (by decide) (by decide) (fun q3314 => ?_) (fun q3315 => ?_)
              · have q3314 : 2147483647 < 2147483648 := q3314
                refine x_const (np := 152) (x := 9223372039002259456) (a := 2147483648) (by decide +kernel) (by decide) (by decide) ?_
                refine x_istore (np := 154) (x := 4) (lo' := [x_r 75, iv_c 2147483651, iv_c 2147483650, iv_c v3200, iv_c 2147483648, iv_c 2147483647]) (by decide +kernel) (by decide) (Nat.le_of_ble_eq_true rfl) rfl ?_
                refine x_iload (np := 156) (x := 4) (by decide +kernel) rfl (by decide) ?_
                refine x_ifz (k := 0) (tg := 180) (np := 159) (by decide +kernel) (by decide) (by decide) (fun q3316 => ?_) (fun q3317 => ?_)
                · have q3316 : 2147483648 = 2147483648 := q3316
                  refine x_iinc (np := 183) (i := 2) (j := 2147483647) (v := 2147483649) (lo' := [x_r 75, iv_c 2147483651, iv_c 2147483649, iv_c v3200, iv_c 2147483648, iv_c 2147483647]) (by decide +kernel) (by decide) (by decide) rfl (by decide) (by first | decide | omega) (by first | decide | omega) rfl ?_
                  refine x_goto (np := 186) (x := 12) (by decide +kernel) ?_
                  have q3318 : h3267 75 30 = h3203 75 30 := jK 0 f3269 rg_75_30_0_1 (by first | decide | omega) (by first | decide | omega) (by decide)
                  have q3319 : h3203 75 30 = h3191 75 30 := jK 0 f3205 rg_75_30_0_1 (by first | decide | omega) (by first | decide | omega) (by decide)
                  have q3320 : h3191 75 30 = (1 + (h2510 75 30)) := by rw [← e3193]; exact x_up_at
                  exact i2550 (iv_c v3200) (iv_c 2147483647) h3267 (by first | decide | omega) j3268 f3273 (by first | decide | omega)
                have q3317 : ¬ (2147483648 = 2147483648) := q3317
                exfalso; omega
              have q3315 : ¬ (2147483647 < 2147483648) := q3315
              exfalso; omega
            have q3214 : ¬ (2147483650 ≠ 2147483651) := q3214
            exfalso; omega
          have q3210 : ¬ (v3200 ≠ 2147483649) := q3210
          refine x_aload (np := 55) (x := 0) (by decide +kernel) rfl (x_nc_le (by decide)) ?_
          have q3321 : h3203 75 34 = h3191 75 34 := jK 0 f3205 rg_75_34_0_1 (by first | decide | omega) (by first | decide | omega) (by decide)
          have q3322 : h3191 75 34 = h2510 75 34 := by rw [← e3193]; exact x_up_i (by first | decide | omega)
          refine x_getC (np := 58) (x := 738) (f := 34) (q := (h2510 75 34)) (by decide +kernel) (by decide) (by decide +kernel) (q3321.trans q3322) (fun l3323 => ?_)
          refine x_ifz (k := 1) (tg := 66) (np := 61) (by decide +kernel) (by decide) l3323 (fun q3324 => ?_) (fun q3325 => ?_)
          · have q3324 : (h2510 75 34) ≠ 2147483648 := q3324
            refine x_aload (np := 67) (x := 0) (by decide +kernel) rfl (x_nc_le (by decide)) ?_
            refine x_dup (np := 68) (x := 0) (by decide +kernel) (by have z := x_nc_le (k := 75) (by decide); unfold x_r; omega) ?_
            have q3326 : h3203 75 34 = h3191 75 34 := jK 0 f3205 rg_75_34_0_1 (by first | decide | omega) (by first | decide | omega) (by decide)
            have q3327 : h3191 75 34 = h2510 75 34 := by rw [← e3193]; exact x_up_i (by first | decide | omega)
            refine x_getC (np := 71) (x := 738) (f := 34) (q := (h2510 75 34)) (by decide +kernel) (by decide) (by decide +kernel) (q3326.trans q3327) (fun l3328 => ?_)
            refine x_const (np := 72) (x := 9223372043297226753) (a := 2147483649) (by decide +kernel) (by decide) (by decide) ?_
            refine x_addA (by rw [tb_b259]; decide +kernel) l3323 (by decide) (fun v3329 l3330 => ?_)
            refine x_putI (np := 76) (x := 738) (f := 34) (by decide +kernel) (by decide +kernel) l3330 (Or.inl (by decide)) ?_
            have j3332 := jU (e := 34) (v := v3329) 0 j3204 rg_75_34_0_1 (by first | decide | omega) (by first | decide | omega) (by first | decide | omega)
            have f3334 := jF (e := 34) (v := v3329) 0 f3207 rg_75_34_0_1 (by first | decide | omega) (by first | decide | omega) (by decide)
            have f3335 := jF (e := 34) (v := v3329) 0 f3208 rg_75_34_0_1 (by first | decide | omega) (by first | decide | omega) (by decide)
            generalize e3333 : x_up h3203 75 34 v3329 = h3331 at j3332 f3334 f3335 ⊢
            refine x_aload (np := 77) (x := 0) (by decide +kernel) rfl (x_nc_le (by decide)) ?_
            have q3336 : h3331 75 33 = h3203 75 33 := by rw [← e3333]; exact x_up_i (by first | decide | omega)
            have q3337 : h3203 75 33 = h3191 75 33 := jK 0 f3205 rg_75_33_0_1 (by first | decide | omega) (by first | decide | omega) (by decide)
            have q3338 : h3191 75 33 = h2510 75 33 := by rw [← e3193]; exact x_up_i (by first | decide | omega)
            have q3339 : h2510 75 33 = h2 75 33 := jK 0 f2512 rg_75_33_0_1 (by first | decide | omega) (by first | decide | omega) (by decide)
            have q3340 : h2 75 33 = h 75 33 := by rw [← e4]; exact x_up_i (by first | decide | omega)
            have b3341 := jB (e := 33) 0 hJ rg_75_33_0_1 (by first | decide | omega) (by first | decide | omega)
            refine x_getC (np := 80) (x := 737) (f := 33) (q := (h 75 33)) (by decide +kernel) (by decide) (by decide +kernel) ((((q3336.trans q3337).trans q3338).trans q3339).trans q3340) (fun l3342 => ?_)
            refine x_ifz (k := 0) (tg := 85) (np := 83) (by decide +kernel) (by decide) l3342 (fun q3343 => ?_) (fun q3344 => ?_)
            · have q3343 : (h 75 33) = 2147483648 := q3343
              refine x_iload (np := 86) (x := 3) (by decide +kernel) rfl l3201 ?_
              refine x_const (np := 87) (x := 9223372043297226753) (a := 2147483649) (by decide +kernel) (by decide) (by decide) ?_
              refine x_icmp (k := 0) (tg := 95) (np := 90) (by decide +kernel) (by decide) l3201 (by decide) (fun q3345 => ?_) (fun q3346 => ?_)
              · have q3345 : v3200 = 2147483649 := q3345
                refine x_aload (np := 96) (x := 0) (by decide +kernel) rfl (x_nc_le (by decide)) ?_
                have q3347 : h3331 75 28 = 94 := by have z := jB (e := 28) 0 j3332 rg_75_28_0_1 (by decide) (by decide); omega
                refine x_getR (np := 99) (x := 732) (f := 28) (q := 94) (by decide +kernel) (by decide) (by decide +kernel) q3347 ?_
                refine x_iload (np := 100) (x := 2) (by decide +kernel) rfl (by decide) ?_
                refine x_const (np := 101) (x := 9223372034707292159) (a := 2147483647) (by decide +kernel) (by decide) (by decide) ?_
                refine x_ast (np := 102) (x := 0) (kd := 1) (n := 6) (i := 2) (by decide +kernel) (Or.inl rfl) (by decide +kernel) (by first | decide | omega) (by first | decide | omega) (by decide) (by decide) (fun z => absurd z (by decide)) ?_
                have j3349 := jU (e := 2) (v := 2147483647) 2 j3332 rg_94_0_1_6 (by first | decide | omega) (by first | decide | omega) (by first | decide | omega)
                have f3351 := jF (e := 2) (v := 2147483647) 2 f3334 rg_94_0_1_6 (by first | decide | omega) (by first | decide | omega) (by decide)
                have f3352 := jF (e := 2) (v := 2147483647) 2 f3335 rg_94_0_1_6 (by first | decide | omega) (by first | decide | omega) (by decide)
                generalize e3350 : x_up h3331 94 2 2147483647 = h3348 at j3349 f3351 f3352 ⊢
                refine x_aload (np := 103) (x := 0) (by decide +kernel) rfl (x_nc_le (by decide)) ?_
                have q3353 : h3348 75 27 = 93 := by have z := jB (e := 27) 0 j3349 rg_75_27_0_1 (by decide) (by decide); omega
                refine x_getR (np := 106) (x := 731) (f := 27) (q := 93) (by decide +kernel) (by decide) (by decide +kernel) q3353 ?_
                refine x_iload (np := 107) (x := 2) (by decide +kernel) rfl (by decide) ?_
                have q3354 : h3348 93 2 = h3331 93 2 := by rw [← e3350]; exact x_up_k (by decide)
                have q3355 : h3331 93 2 = h3203 93 2 := by rw [← e3333]; exact x_up_k (by decide)
                have b3356 := jB (e := 2) 2 j3204 rg_93_0_1_6 (by first | decide | omega) (by first | decide | omega)
                refine x_aldC (np := 108) (x := 0) (n := 6) (i := 2) (q := (h3203 93 2)) (by decide +kernel) (by decide +kernel) (by first | decide | omega) (by first | decide | omega) (by decide) (q3354.trans q3355) (fun l3357 => ?_)
                refine x_ifz (k := 2) (tg := 122) (np := 111) (by decide +kernel) (by decide) l3357 (fun q3358 => ?_) (fun q3359 => ?_)
                · have q3358 : (h3203 93 2) < 2147483648 := q3358
                  refine x_aload (np := 123) (x := 0) (by decide +kernel) rfl (x_nc_le (by decide)) ?_
                  have q3360 : h3348 75 28 = 94 := by have z := jB (e := 28) 0 j3349 rg_75_28_0_1 (by decide) (by decide); omega
                  refine x_getR (np := 126) (x := 732) (f := 28) (q := 94) (by decide +kernel) (by decide) (by decide +kernel) q3360 ?_
                  refine x_iload (np := 127) (x := 2) (by decide +kernel) rfl (by decide) ?_
                  have q3361 : h3348 94 2 = 2147483647 := by rw [← e3350]; exact x_up_at
                  refine x_aldC (np := 128) (x := 0) (n := 6) (i := 2) (q := 2147483647) (by decide +kernel) (by decide +kernel) (by first | decide | omega) (by first | decide | omega) (by decide) q3361 (fun l3362 => ?_)
                  refine x_ifz (k := 3) (tg := 135) (np := 131) (by decide +kernel) (by decide) (by decide) (fun q3363 => ?_) (fun q3364 => ?_)
                  · have q3363 : 2147483648 ≤ 2147483647 := q3363
                    exfalso; omega
                  have q3364 : ¬ (2147483648 ≤ 2147483647) := q3364
                  refine x_const (np := 132) (x := 9223372034707292159) (a := 2147483647) (by decide +kernel) (by decide) (by decide) ?_
                  refine x_goto (np := 135) (x := 140) (by decide +kernel) ?_
                  refine x_istore (np := 142) (x := 5) (lo' := [x_r 75, iv_c 2147483651, iv_c 2147483650, iv_c v3200, iv_c 2147483649, iv_c 2147483647]) (by decide +kernel) (by decide) (Nat.le_of_ble_eq_true rfl) rfl ?_
                  refine x_iload (np := 144) (x := 5) (by decide +kernel) rfl (by decide) ?_
                  refine x_ifz (k := 2) (tg := 151) (np := 147) (by decide +kernel) (by decide) (by decide) (fun q3365 => ?_) (fun q3366 => ?_)
                  · have q3365 : 2147483647 < 2147483648 := q3365
                    refine x_const (np := 152) (x := 9223372039002259456) (a := 2147483648) (by decide +kernel) (by decide) (by decide) ?_
                    refine x_istore (np := 154) (x := 4) (lo' := [x_r 75, iv_c 2147483651, iv_c 2147483650, iv_c v3200, iv_c 2147483648, iv_c 2147483647]) (by decide +kernel) (by decide) (Nat.le_of_ble_eq_true rfl) rfl ?_
                    refine x_iload (np := 156) (x := 4) (by decide +kernel) rfl (by decide) ?_
                    refine x_ifz (k := 0) (tg := 180) (np := 159) (by decide +kernel) (by decide) (by decide) (fun q3367 => ?_) (fun q3368 => ?_)
                    · have q3367 : 2147483648 = 2147483648 := q3367
                      refine x_iinc (np := 183) (i := 2) (j := 2147483647) (v := 2147483649) (lo' := [x_r 75, iv_c 2147483651, iv_c 2147483649, iv_c v3200, iv_c 2147483648, iv_c 2147483647]) (by decide +kernel) (by decide) (by decide) rfl (by decide) (by first | decide | omega) (by first | decide | omega) rfl ?_
                      refine x_goto (np := 186) (x := 12) (by decide +kernel) ?_
                      have q3369 : h3348 75 30 = h3331 75 30 := by rw [← e3350]; exact x_up_k (by decide)
                      have q3370 : h3331 75 30 = h3203 75 30 := by rw [← e3333]; exact x_up_i (by first | decide | omega)
                      have q3371 : h3203 75 30 = h3191 75 30 := jK 0 f3205 rg_75_30_0_1 (by first | decide | omega) (by first | decide | omega) (by decide)
                      have q3372 : h3191 75 30 = (1 + (h2510 75 30)) := by rw [← e3193]; exact x_up_at
                      exact i2550 (iv_c v3200) (iv_c 2147483647) h3348 (by first | decide | omega) j3349 f3352 (by first | decide | omega)
                    have q3368 : ¬ (2147483648 = 2147483648) := q3368
                    exfalso; omega
                  have q3366 : ¬ (2147483647 < 2147483648) := q3366
                  exfalso; omega
                have q3359 : ¬ ((h3203 93 2) < 2147483648) := q3359
                refine x_aload (np := 112) (x := 0) (by decide +kernel) rfl (x_nc_le (by decide)) ?_
                refine x_aload (np := 113) (x := 0) (by decide +kernel) rfl (x_nc_le (by decide)) ?_
                have q3373 : h3348 75 27 = 93 := by have z := jB (e := 27) 0 j3349 rg_75_27_0_1 (by decide) (by decide); omega
                refine x_getR (np := 116) (x := 731) (f := 27) (q := 93) (by decide +kernel) (by decide) (by decide +kernel) q3373 ?_
                refine x_iload (np := 117) (x := 2) (by decide +kernel) rfl (by decide) ?_
                have q3374 : h3348 93 2 = h3331 93 2 := by rw [← e3350]; exact x_up_k (by decide)
                have q3375 : h3331 93 2 = h3203 93 2 := by rw [← e3333]; exact x_up_k (by decide)
                refine x_aldC (np := 118) (x := 0) (n := 6) (i := 2) (q := (h3203 93 2)) (by decide +kernel) (by decide +kernel) (by first | decide | omega) (by first | decide | omega) (by decide) (q3374.trans q3375) (fun l3376 => ?_)
                refine x_const (np := 119) (x := 9223372039002259456) (a := 2147483648) (by decide +kernel) (by decide) (by decide) ?_
                refine x_cV (t := 6) (mj := 248) (n := 3) (rc := 12) (ml := 4) (nr := 0) (np := 122) (as := [x_r 75, iv_c (h3203 93 2), iv_c 2147483648]) (rest := []) (lo1 := [x_r 75, iv_c (h3203 93 2), iv_c 2147483648, 147573952589676412928]) (by decide +kernel) (by decide) (by decide +kernel) (x_rb_of (by decide +kernel)) rfl rfl (x_wr (by decide) (x_wi l3357 (x_wi (by decide) x_wn))) x_wn (by decide) rfl (c248_75 j3349  (by first | decide | omega) (by first | decide | omega)) (fun h3380 q3379 => ?_)
                obtain ⟨j3381, f3382⟩ := q3379
                have f3385 := Fr.trans f3351 f3382 (by decide)
                have f3386 := Fr.trans f3352 f3382 (by decide)
                refine x_aload (np := 123) (x := 0) (by decide +kernel) rfl (x_nc_le (by decide)) ?_
                have q3387 : h3380 75 28 = 94 := by have z := jB (e := 28) 0 j3381 rg_75_28_0_1 (by decide) (by decide); omega
                refine x_getR (np := 126) (x := 732) (f := 28) (q := 94) (by decide +kernel) (by decide) (by decide +kernel) q3387 ?_
                refine x_iload (np := 127) (x := 2) (by decide +kernel) rfl (by decide) ?_
                have q3388 : h3380 94 2 = h3348 94 2 := jK 2 f3382 rg_94_0_1_6 (by first | decide | omega) (by first | decide | omega) (by decide)
                have q3389 : h3348 94 2 = 2147483647 := by rw [← e3350]; exact x_up_at
                refine x_aldC (np := 128) (x := 0) (n := 6) (i := 2) (q := 2147483647) (by decide +kernel) (by decide +kernel) (by first | decide | omega) (by first | decide | omega) (by decide) (q3388.trans q3389) (fun l3390 => ?_)
                refine x_ifz (k := 3) (tg := 135) (np := 131) (by decide +kernel) (by decide) (by decide) (fun q3391 => ?_) (fun q3392 => ?_)
                · have q3391 : 2147483648 ≤ 2147483647 := q3391
                  exfalso; omega
                have q3392 : ¬ (2147483648 ≤ 2147483647) := q3392
                refine x_const (np := 132) (x := 9223372034707292159) (a := 2147483647) (by decide +kernel) (by decide) (by decide) ?_
                refine x_goto (np := 135) (x := 140) (by decide +kernel) ?_
                refine x_istore (np := 142) (x := 5) (lo' := [x_r 75, iv_c 2147483651, iv_c 2147483650, iv_c v3200, iv_c 2147483649, iv_c 2147483647]) (by decide +kernel) (by decide) (Nat.le_of_ble_eq_true rfl) rfl ?_
                refine x_iload (np := 144) (x := 5) (by decide +kernel) rfl (by decide) ?_
                refine x_ifz (k := 2) (tg := 151) (np := 147) (by decide +kernel) (by decide) (by decide) (fun q3393 => ?_) (fun q3394 => ?_)
                · have q3393 : 2147483647 < 2147483648 := q3393
                  refine x_const (np := 152) (x := 9223372039002259456) (a := 2147483648) (by decide +kernel) (by decide) (by decide) ?_
                  refine x_istore (np := 154) (x := 4) (lo' := [x_r 75, iv_c 2147483651, iv_c 2147483650, iv_c v3200, iv_c 2147483648, iv_c 2147483647]) (by decide +kernel) (by decide) (Nat.le_of_ble_eq_true rfl) rfl ?_
                  refine x_iload (np := 156) (x := 4) (by decide +kernel) rfl (by decide) ?_
                  refine x_ifz (k := 0) (tg := 180) (np := 159) (by decide +kernel) (by decide) (by decide) (fun q3395 => ?_) (fun q3396 => ?_)
                  · have q3395 : 2147483648 = 2147483648 := q3395
                    refine x_iinc (np := 183) (i := 2) (j := 2147483647) (v := 2147483649) (lo' := [x_r 75, iv_c 2147483651, iv_c 2147483649, iv_c v3200, iv_c 2147483648, iv_c 2147483647]) (by decide +kernel) (by decide) (by decide) rfl (by decide) (by first | decide | omega) (by first | decide | omega) rfl ?_
                    refine x_goto (np := 186) (x := 12) (by decide +kernel) ?_
                    have q3397 : h3380 75 30 = h3348 75 30 := jK 0 f3382 rg_75_30_0_1 (by first | decide | omega) (by first | decide | omega) (by decide)
                    have q3398 : h3348 75 30 = h3331 75 30 := by rw [← e3350]; exact x_up_k (by decide)
                    have q3399 : h3331 75 30 = h3203 75 30 := by rw [← e3333]; exact x_up_i (by first | decide | omega)
                    have q3400 : h3203 75 30 = h3191 75 30 := jK 0 f3205 rg_75_30_0_1 (by first | decide | omega) (by first | decide | omega) (by decide)
                    have q3401 : h3191 75 30 = (1 + (h2510 75 30)) := by rw [← e3193]; exact x_up_at
                    exact i2550 (iv_c v3200) (iv_c 2147483647) h3380 (by first | decide | omega) j3381 f3386 (by first | decide | omega)
                  have q3396 : ¬ (2147483648 = 2147483648) := q3396
                  exfalso; omega
                have q3394 : ¬ (2147483647 < 2147483648) := q3394
                exfalso; omega
              have q3346 : ¬ (v3200 = 2147483649) := q3346
              exfalso; omega
            have q3344 : ¬ ((h 75 33) = 2147483648) := q3344
            refine x_const (np := 84) (x := 9223372043297226753) (a := 2147483649) (by decide +kernel) (by decide) (by decide) ?_
            have q3402 : h3331 75 30 = h3203 75 30 := by rw [← e3333]; exact x_up_i (by first | decide | omega)
            have q3403 : h3203 75 30 = h3191 75 30 := jK 0 f3205 rg_75_30_0_1 (by first | decide | omega) (by first | decide | omega) (by decide)
            have q3404 : h3191 75 30 = (1 + (h2510 75 30)) := by rw [← e3193]; exact x_up_at
            refine x_retI (np := 85) (x := 0) (by decide +kernel) (by decide) (Or.inr ⟨by decide +kernel, by first | decide | omega, by first | decide | omega⟩) ⟨_, rfl, (by decide), ?_⟩
            exact ⟨j3332, f3334, (by first | decide | omega), (fun z => by first | decide | omega)⟩
          have q3325 : ¬ ((h2510 75 34) ≠ 2147483648) := q3325
          refine x_aload (np := 62) (x := 0) (by decide +kernel) rfl (x_nc_le (by decide)) ?_
          refine x_iload (np := 63) (x := 2) (by decide +kernel) rfl (by decide) ?_
          refine x_cV (t := 6) (mj := 258) (n := 2) (rc := 12) (ml := 4) (nr := 0) (np := 66) (as := [x_r 75, iv_c 2147483650]) (rest := []) (lo1 := [x_r 75, iv_c 2147483650, 147573952589676412928, 147573952589676412928]) (by decide +kernel) (by decide) (by decide +kernel) (x_rb_of (by decide +kernel)) rfl rfl (x_wr (by decide) (x_wi (by decide) x_wn)) x_wn (by decide) rfl (c258_75 j3204  (by first | decide | omega)) (fun h3408 q3407 => ?_)
          obtain ⟨j3409, f3410⟩ := q3407
          have f3413 := Fr.trans f3207 f3410 (by decide)
          have f3414 := Fr.trans f3208 f3410 (by decide)
          refine x_aload (np := 67) (x := 0) (by decide +kernel) rfl (x_nc_le (by decide)) ?_
          refine x_dup (np := 68) (x := 0) (by decide +kernel) (by have z := x_nc_le (k := 75) (by decide); unfold x_r; omega) ?_
          have q3415 : h3408 75 34 = h3203 75 34 := jK 0 f3410 rg_75_34_0_1 (by first | decide | omega) (by first | decide | omega) (by decide)
          have q3416 : h3203 75 34 = h3191 75 34 := jK 0 f3205 rg_75_34_0_1 (by first | decide | omega) (by first | decide | omega) (by decide)
          have q3417 : h3191 75 34 = h2510 75 34 := by rw [← e3193]; exact x_up_i (by first | decide | omega)
          refine x_getC (np := 71) (x := 738) (f := 34) (q := (h2510 75 34)) (by decide +kernel) (by decide) (by decide +kernel) ((q3415.trans q3416).trans q3417) (fun l3418 => ?_)
          refine x_const (np := 72) (x := 9223372043297226753) (a := 2147483649) (by decide +kernel) (by decide) (by decide) ?_
          refine x_iadd (np := 73) (x := 0) (v := (1 + (h2510 75 34))) (by decide +kernel) l3323 (by decide) (by first | decide | omega) (by first | decide | omega) ?_
          refine x_putI (np := 76) (x := 738) (f := 34) (by decide +kernel) (by decide +kernel) (by first | decide | omega) (Or.inl (by decide)) ?_
          have j3420 := jU (e := 34) (v := (1 + (h2510 75 34))) 0 j3409 rg_75_34_0_1 (by first | decide | omega) (by first | decide | omega) (by first | decide | omega)
          have f3422 := jF (e := 34) (v := (1 + (h2510 75 34))) 0 f3413 rg_75_34_0_1 (by first | decide | omega) (by first | decide | omega) (by decide)
          have f3423 := jF (e := 34) (v := (1 + (h2510 75 34))) 0 f3414 rg_75_34_0_1 (by first | decide | omega) (by first | decide | omega) (by decide)
          generalize e3421 : x_up h3408 75 34 (1 + (h2510 75 34)) = h3419 at j3420 f3422 f3423 ⊢
          refine x_aload (np := 77) (x := 0) (by decide +kernel) rfl (x_nc_le (by decide)) ?_
          have q3424 : h3419 75 33 = h3408 75 33 := by rw [← e3421]; exact x_up_i (by first | decide | omega)
          have q3425 : h3408 75 33 = h3203 75 33 := jK 0 f3410 rg_75_33_0_1 (by first | decide | omega) (by first | decide | omega) (by decide)
          have q3426 : h3203 75 33 = h3191 75 33 := jK 0 f3205 rg_75_33_0_1 (by first | decide | omega) (by first | decide | omega) (by decide)
          have q3427 : h3191 75 33 = h2510 75 33 := by rw [← e3193]; exact x_up_i (by first | decide | omega)
          have q3428 : h2510 75 33 = h2 75 33 := jK 0 f2512 rg_75_33_0_1 (by first | decide | omega) (by first | decide | omega) (by decide)
          have q3429 : h2 75 33 = h 75 33 := by rw [← e4]; exact x_up_i (by first | decide | omega)
          have b3430 := jB (e := 33) 0 hJ rg_75_33_0_1 (by first | decide | omega) (by first | decide | omega)
          refine x_getC (np := 80) (x := 737) (f := 33) (q := (h 75 33)) (by decide +kernel) (by decide) (by decide +kernel) (((((q3424.trans q3425).trans q3426).trans q3427).trans q3428).trans q3429) (fun l3431 => ?_)
          refine x_ifz (k := 0) (tg := 85) (np := 83) (by decide +kernel) (by decide) l3431 (fun q3432 => ?_) (fun q3433 => ?_)
          · have q3432 : (h 75 33) = 2147483648 := q3432
            refine x_iload (np := 86) (x := 3) (by decide +kernel) rfl l3201 ?_
            refine x_const (np := 87) (x := 9223372043297226753) (a := 2147483649) (by decide +kernel) (by decide) (by decide) ?_
            refine x_icmp (k := 0) (tg := 95) (np := 90) (by decide +kernel) (by decide) l3201 (by decide) (fun q3434 => ?_) (fun q3435 => ?_)
            · have q3434 : v3200 = 2147483649 := q3434
              refine x_aload (np := 96) (x := 0) (by decide +kernel) rfl (x_nc_le (by decide)) ?_
              have q3436 : h3419 75 28 = 94 := by have z := jB (e := 28) 0 j3420 rg_75_28_0_1 (by decide) (by decide); omega
              refine x_getR (np := 99) (x := 732) (f := 28) (q := 94) (by decide +kernel) (by decide) (by decide +kernel) q3436 ?_
              refine x_iload (np := 100) (x := 2) (by decide +kernel) rfl (by decide) ?_
              refine x_const (np := 101) (x := 9223372034707292159) (a := 2147483647) (by decide +kernel) (by decide) (by decide) ?_
              refine x_ast (np := 102) (x := 0) (kd := 1) (n := 6) (i := 2) (by decide +kernel) (Or.inl rfl) (by decide +kernel) (by first | decide | omega) (by first | decide | omega) (by decide) (by decide) (fun z => absurd z (by decide)) ?_
              have j3438 := jU (e := 2) (v := 2147483647) 2 j3420 rg_94_0_1_6 (by first | decide | omega) (by first | decide | omega) (by first | decide | omega)
              have f3440 := jF (e := 2) (v := 2147483647) 2 f3422 rg_94_0_1_6 (by first | decide | omega) (by first | decide | omega) (by decide)
              have f3441 := jF (e := 2) (v := 2147483647) 2 f3423 rg_94_0_1_6 (by first | decide | omega) (by first | decide | omega) (by decide)
              generalize e3439 : x_up h3419 94 2 2147483647 = h3437 at j3438 f3440 f3441 ⊢
              refine x_aload (np := 103) (x := 0) (by decide +kernel) rfl (x_nc_le (by decide)) ?_
              have q3442 : h3437 75 27 = 93 := by have z := jB (e := 27) 0 j3438 rg_75_27_0_1 (by decide) (by decide); omega
              refine x_getR (np := 106) (x := 731) (f := 27) (q := 93) (by decide +kernel) (by decide) (by decide +kernel) q3442 ?_
              refine x_iload (np := 107) (x := 2) (by decide +kernel) rfl (by decide) ?_
              have q3443 : h3437 93 2 = h3419 93 2 := by rw [← e3439]; exact x_up_k (by decide)
              have q3444 : h3419 93 2 = h3408 93 2 := by rw [← e3421]; exact x_up_k (by decide)
              have q3445 : h3408 93 2 = h3203 93 2 := jK 2 f3410 rg_93_0_1_6 (by first | decide | omega) (by first | decide | omega) (by decide)
              have b3446 := jB (e := 2) 2 j3204 rg_93_0_1_6 (by first | decide | omega) (by first | decide | omega)
              refine x_aldC (np := 108) (x := 0) (n := 6) (i := 2) (q := (h3203 93 2)) (by decide +kernel) (by decide +kernel) (by first | decide | omega) (by first | decide | omega) (by decide) ((q3443.trans q3444).trans q3445) (fun l3447 => ?_)
              refine x_ifz (k := 2) (tg := 122) (np := 111) (by decide +kernel) (by decide) l3447 (fun q3448 => ?_) (fun q3449 => ?_)
              · have q3448 : (h3203 93 2) < 2147483648 := q3448
                refine x_aload (np := 123) (x := 0) (by decide +kernel) rfl (x_nc_le (by decide)) ?_
                have q3450 : h3437 75 28 = 94 := by have z := jB (e := 28) 0 j3438 rg_75_28_0_1 (by decide) (by decide); omega
                refine x_getR (np := 126) (x := 732) (f := 28) (q := 94) (by decide +kernel) (by decide) (by decide +kernel) q3450 ?_
                refine x_iload (np := 127) (x := 2) (by decide +kernel) rfl (by decide) ?_
                have q3451 : h3437 94 2 = 2147483647 := by rw [← e3439]; exact x_up_at
                refine x_aldC (np := 128) (x := 0) (n := 6) (i := 2) (q := 2147483647) (by decide +kernel) (by decide +kernel) (by first | decide | omega) (by first | decide | omega) (by decide) q3451 (fun l3452 => ?_)
                refine x_ifz (k := 3) (tg := 135) (np := 131) (by decide +kernel) (by decide) (by decide) (fun q3453 => ?_) (fun q3454 => ?_)
                · have q3453 : 2147483648 ≤ 2147483647 := q3453
                  exfalso; omega
                have q3454 : ¬ (2147483648 ≤ 2147483647) := q3454
                refine x_const (np := 132) (x := 9223372034707292159) (a := 2147483647) (by decide +kernel) (by decide) (by decide) ?_
                refine x_goto (np := 135) (x := 140) (by decide +kernel) ?_
                refine x_istore (np := 142) (x := 5) (lo' := [x_r 75, iv_c 2147483651, iv_c 2147483650, iv_c v3200, iv_c 2147483649, iv_c 2147483647]) (by decide +kernel) (by decide) (Nat.le_of_ble_eq_true rfl) rfl ?_
                refine x_iload (np := 144) (x := 5) (by decide +kernel) rfl (by decide) ?_
                refine x_ifz (k := 2) (tg := 151) (np := 147) (by decide +kernel) (by decide) (by decide) (fun q3455 => ?_) (fun q3456 => ?_)
                · have q3455 : 2147483647 < 2147483648 := q3455
                  refine x_const (np := 152) (x := 9223372039002259456) (a := 2147483648) (by decide +kernel) (by decide) (by decide) ?_
                  refine x_istore (np := 154) (x := 4) (lo' := [x_r 75, iv_c 2147483651, iv_c 2147483650, iv_c v3200, iv_c 2147483648, iv_c 2147483647]) (by decide +kernel) (by decide) (Nat.le_of_ble_eq_true rfl) rfl ?_
                  refine x_iload (np := 156) (x := 4) (by decide +kernel) rfl (by decide) ?_
                  refine x_ifz (k := 0) (tg := 180) (np := 159) (by decide +kernel) (by decide) (by decide) (fun q3457 => ?_) (fun q3458 => ?_)
                  · have q3457 : 2147483648 = 2147483648 := q3457
                    refine x_iinc (np := 183) (i := 2) (j := 2147483647) (v := 2147483649) (lo' := [x_r 75, iv_c 2147483651, iv_c 2147483649, iv_c v3200, iv_c 2147483648, iv_c 2147483647]) (by decide +kernel) (by decide) (by decide) rfl (by decide) (by first | decide | omega) (by first | decide | omega) rfl ?_
                    refine x_goto (np := 186) (x := 12) (by decide +kernel) ?_
                    have q3459 : h3437 75 30 = h3419 75 30 := by rw [← e3439]; exact x_up_k (by decide)
                    have q3460 : h3419 75 30 = h3408 75 30 := by rw [← e3421]; exact x_up_i (by first | decide | omega)
                    have q3461 : h3408 75 30 = h3203 75 30 := jK 0 f3410 rg_75_30_0_1 (by first | decide | omega) (by first | decide | omega) (by decide)
                    have q3462 : h3203 75 30 = h3191 75 30 := jK 0 f3205 rg_75_30_0_1 (by first | decide | omega) (by first | decide | omega) (by decide)
                    have q3463 : h3191 75 30 = (1 + (h2510 75 30)) := by rw [← e3193]; exact x_up_at
                    exact i2550 (iv_c v3200) (iv_c 2147483647) h3437 (by first | decide | omega) j3438 f3441 (by first | decide | omega)
                  have q3458 : ¬ (2147483648 = 2147483648) := q3458
                  exfalso; omega
                have q3456 : ¬ (2147483647 < 2147483648) := q3456
                exfalso; omega
              have q3449 : ¬ ((h3203 93 2) < 2147483648) := q3449
              refine x_aload (np := 112) (x := 0) (by decide +kernel) rfl (x_nc_le (by decide)) ?_
              refine x_aload (np := 113) (x := 0) (by decide +kernel) rfl (x_nc_le (by decide)) ?_
              have q3464 : h3437 75 27 = 93 := by have z := jB (e := 27) 0 j3438 rg_75_27_0_1 (by decide) (by decide); omega
              refine x_getR (np := 116) (x := 731) (f := 27) (q := 93) (by decide +kernel) (by decide) (by decide +kernel) q3464 ?_
              refine x_iload (np := 117) (x := 2) (by decide +kernel) rfl (by decide) ?_
              have q3465 : h3437 93 2 = h3419 93 2 := by rw [← e3439]; exact x_up_k (by decide)
              have q3466 : h3419 93 2 = h3408 93 2 := by rw [← e3421]; exact x_up_k (by decide)
              have q3467 : h3408 93 2 = h3203 93 2 := jK 2 f3410 rg_93_0_1_6 (by first | decide | omega) (by first | decide | omega) (by decide)
              refine x_aldC (np := 118) (x := 0) (n := 6) (i := 2) (q := (h3203 93 2)) (by decide +kernel) (by decide +kernel) (by first | decide | omega) (by first | decide | omega) (by decide) ((q3465.trans q3466).trans q3467) (fun l3468 => ?_)
              refine x_const (np := 119) (x := 9223372039002259456) (a := 2147483648) (by decide +kernel) (by decide) (by decide) ?_
              refine x_cV (t := 6) (mj := 248) (n := 3) (rc := 12) (ml := 4) (nr := 0) (np := 122) (as := [x_r 75, iv_c (h3203 93 2), iv_c 2147483648]) (rest := []) (lo1 := [x_r 75, iv_c (h3203 93 2), iv_c 2147483648, 147573952589676412928]) (by decide +kernel) (by decide) (by decide +kernel) (x_rb_of (by decide +kernel)) rfl rfl (x_wr (by decide) (x_wi l3447 (x_wi (by decide) x_wn))) x_wn (by decide) rfl (c248_75 j3438  (by first | decide | omega) (by first | decide | omega)) (fun h3472 q3471 => ?_)
              obtain ⟨j3473, f3474⟩ := q3471
              have f3477 := Fr.trans f3440 f3474 (by decide)
              have f3478 := Fr.trans f3441 f3474 (by decide)
              refine x_aload (np := 123) (x := 0) (by decide +kernel) rfl (x_nc_le (by decide)) ?_
              have q3479 : h3472 75 28 = 94 := by have z := jB (e := 28) 0 j3473 rg_75_28_0_1 (by decide) (by decide); omega
              refine x_getR (np := 126) (x := 732) (f := 28) (q := 94) (by decide +kernel) (by decide) (by decide +kernel) q3479 ?_
              refine x_iload (np := 127) (x := 2) (by decide +kernel) rfl (by decide) ?_
              have q3480 : h3472 94 2 = h3437 94 2 := jK 2 f3474 rg_94_0_1_6 (by first | decide | omega) (by first | decide | omega) (by decide)
              have q3481 : h3437 94 2 = 2147483647 := by rw [← e3439]; exact x_up_at
              refine x_aldC (np := 128) (x := 0) (n := 6) (i := 2) (q := 2147483647) (by decide +kernel) (by decide +kernel) (by first | decide | omega) (by first | decide | omega) (by decide) (q3480.trans q3481) (fun l3482 => ?_)
              refine x_ifz (k := 3) (tg := 135) (np := 131) (by decide +kernel) (by decide) (by decide) (fun q3483 => ?_) (fun q3484 => ?_)
              · have q3483 : 2147483648 ≤ 2147483647 := q3483
                exfalso; omega
              have q3484 : ¬ (2147483648 ≤ 2147483647) := q3484
              refine x_const (np := 132) (x := 9223372034707292159) (a := 2147483647) (by decide +kernel) (by decide) (by decide) ?_
              refine x_goto (np := 135) (x := 140) (by decide +kernel) ?_
              refine x_istore (np := 142) (x := 5) (lo' := [x_r 75, iv_c 2147483651, iv_c 2147483650, iv_c v3200, iv_c 2147483649, iv_c 2147483647]) (by decide +kernel) (by decide) (Nat.le_of_ble_eq_true rfl) rfl ?_
              refine x_iload (np := 144) (x := 5) (by decide +kernel) rfl (by decide) ?_
              refine x_ifz (k := 2) (tg := 151) (np := 147) (by decide +kernel) (by decide) (by decide) (fun q3485 => ?_) (fun q3486 => ?_)
              · have q3485 : 2147483647 < 2147483648 := q3485
                refine x_const (np := 152) (x := 9223372039002259456) (a := 2147483648) (by decide +kernel) (by decide) (by decide) ?_
                refine x_istore (np := 154) (x := 4) (lo' := [x_r 75, iv_c 2147483651, iv_c 2147483650, iv_c v3200, iv_c 2147483648, iv_c 2147483647]) (by decide +kernel) (by decide) (Nat.le_of_ble_eq_true rfl) rfl ?_
                refine x_iload (np := 156) (x := 4) (by decide +kernel) rfl (by decide) ?_
                refine x_ifz (k := 0) (tg := 180) (np := 159) (by decide +kernel) (by decide) (by decide) (fun q3487 => ?_) (fun q3488 => ?_)
                · have q3487 : 2147483648 = 2147483648 := q3487
                  refine x_iinc (np := 183) (i := 2) (j := 2147483647) (v := 2147483649) (lo' := [x_r 75, iv_c 2147483651, iv_c 2147483649, iv_c v3200, iv_c 2147483648, iv_c 2147483647]) (by decide +kernel) (by decide) (by decide) rfl (by decide) (by first | decide | omega) (by first | decide | omega) rfl ?_
                  refine x_goto (np := 186) (x := 12) (by decide +kernel) ?_
                  have q3489 : h3472 75 30 = h3437 75 30 := jK 0 f3474 rg_75_30_0_1 (by first | decide | omega) (by first | decide | omega) (by decide)
                  have q3490 : h3437 75 30 = h3419 75 30 := by rw [← e3439]; exact x_up_k (by decide)
                  have q3491 : h3419 75 30 = h3408 75 30 := by rw [← e3421]; exact x_up_i (by first | decide | omega)
                  have q3492 : h3408 75 30 = h3203 75 30 := jK 0 f3410 rg_75_30_0_1 (by first | decide | omega) (by first | decide | omega) (by decide)
                  have q3493 : h3203 75 30 = h3191 75 30 := jK 0 f3205 rg_75_30_0_1 (by first | decide | omega) (by first | decide | omega) (by decide)
                  have q3494 : h3191 75 30 = (1 + (h2510 75 30)) := by rw [← e3193]; exact x_up_at
                  exact i2550 (iv_c v3200) (iv_c 2147483647) h3472 (by first | decide | omega) j3473 f3478 (by first | decide | omega)
                have q3488 : ¬ (2147483648 = 2147483648) := q3488
                exfalso; omega
              have q3486 : ¬ (2147483647 < 2147483648) := q3486
              exfalso; omega
            have q3435 : ¬ (v3200 = 2147483649) := q3435
            exfalso; omega
          have q3433 : ¬ ((h 75 33) = 2147483648) := q3433
          refine x_const (np := 84) (x := 9223372043297226753) (a := 2147483649) (by decide +kernel) (by decide) (by decide) ?_
          have q3495 : h3419 75 30 = h3408 75 30 := by rw [← e3421]; exact x_up_i (by first | decide | omega)
          have q3496 : h3408 75 30 = h3203 75 30 := jK 0 f3410 rg_75_30_0_1 (by first | decide | omega) (by first | decide | omega) (by decide)
          have q3497 : h3203 75 30 = h3191 75 30 := jK 0 f3205 rg_75_30_0_1 (by first | decide | omega) (by first | decide | omega) (by decide)
          have q3498 : h3191 75 30 = (1 + (h2510 75 30)) := by rw [← e3193]; exact x_up_at
          refine x_retI (np := 85) (x := 0) (by decide +kernel) (by decide) (Or.inr ⟨by decide +kernel, by first | decide | omega, by first | decide | omega⟩) ⟨_, rfl, (by decide), ?_⟩
          exact ⟨j3420, f3422, (by first | decide | omega), (fun z => by first | decide | omega)⟩
        have q3199 : ¬ ((1 + (h2510 75 30)) ≤ 2147503648) := q3199
        refine x_const (np := 42) (x := 9223372039002259456) (a := 2147483648) (by decide +kernel) (by decide) (by decide) ?_
        have q3499 : h3191 75 30 = (1 + (h2510 75 30)) := by rw [← e3193]; exact x_up_at
        refine x_retI (np := 43) (x := 0) (by decide +kernel) (by decide) (Or.inr ⟨by decide +kernel, by first | decide | omega, by first | decide | omega⟩) ⟨_, rfl, (by decide), ?_⟩
        exact ⟨j3192, f3194, (by first | decide | omega), (fun z => by first | decide | omega)⟩
      · intro w2514 w2515 h2516 q3500 j2519 f2518 b2517
        have f3501 := Fr.trans f5 f2518 (by decide)
        refine x_iload (np := 13) (x := 2) (by decide +kernel) rfl (by decide) ?_
        refine x_ifz (k := 2) (tg := 186) (np := 16) (by decide +kernel) (by decide) (by decide) (fun q3502 => ?_) (fun q3503 => ?_)
        · have q3502 : 2147483651 < 2147483648 := q3502
          exfalso; omega
        have q3503 : ¬ (2147483651 < 2147483648) := q3503
        refine x_iload (np := 18) (x := 4) (by decide +kernel) rfl (by decide) ?_
        refine x_ifz (k := 0) (tg := 102) (np := 21) (by decide +kernel) (by decide) (by decide) (fun q3504 => ?_) (fun q3505 => ?_)
        · have q3504 : 2147483649 = 2147483648 := q3504
          exfalso; omega
        have q3505 : ¬ (2147483649 = 2147483648) := q3505
        refine x_aload (np := 22) (x := 0) (by decide +kernel) rfl (x_nc_le (by decide)) ?_
        refine x_dup (np := 23) (x := 0) (by decide +kernel) (by have z := x_nc_le (k := 75) (by decide); unfold x_r; omega) ?_
        refine x_getC (np := 26) (x := 734) (f := 30) (q := (h2516 75 30)) (by decide +kernel) (by decide) (by decide +kernel) rfl (fun l3506 => ?_)
        refine x_const (np := 27) (x := 9223372043297226753) (a := 2147483649) (by decide +kernel) (by decide) (by decide) ?_
        refine x_iadd (np := 28) (x := 0) (v := (1 + (h2516 75 30))) (by decide +kernel) l3506 (by decide) (by first | decide | omega) (by first | decide | omega) ?_
        refine x_putI (np := 31) (x := 734) (f := 30) (by decide +kernel) (by decide +kernel) (by first | decide | omega) (Or.inl (by decide)) ?_
        have j3508 := jU (e := 30) (v := (1 + (h2516 75 30))) 0 j2519 rg_75_30_0_1 (by first | decide | omega) (by first | decide | omega) (by first | decide | omega)
        have f3510 := jF (e := 30) (v := (1 + (h2516 75 30))) 0 f3501 rg_75_30_0_1 (by first | decide | omega) (by first | decide | omega) (by decide)
        have f3511 := jF (e := 30) (v := (1 + (h2516 75 30))) 0 f2518 rg_75_30_0_1 (by first | decide | omega) (by first | decide | omega) (by decide)
        generalize e3509 : x_up h2516 75 30 (1 + (h2516 75 30)) = h3507 at j3508 f3510 f3511 ⊢
        refine x_aload (np := 32) (x := 0) (by decide +kernel) rfl (x_nc_le (by decide)) ?_
        have q3512 : h3507 75 30 = (1 + (h2516 75 30)) := by rw [← e3509]; exact x_up_at
        refine x_getC (np := 35) (x := 734) (f := 30) (q := (1 + (h2516 75 30))) (by decide +kernel) (by decide) (by decide +kernel) q3512 (fun l3513 => ?_)
        refine x_const (np := 38) (x := 9223457938348199456) (a := 2147503648) (by decide +kernel) (by decide) (by decide) ?_
        refine x_icmp (k := 5) (tg := 43) (np := 41) (by decide +kernel) (by decide) (by first | decide | omega) (by decide) (fun q3514 => ?_) (fun q3515 => ?_)
        · have q3514 : (1 + (h2516 75 30)) ≤ 2147503648 := q3514
          refine x_aload (np := 44) (x := 0) (by decide +kernel) rfl (x_nc_le (by decide)) ?_
          refine x_iload (np := 45) (x := 2) (by decide +kernel) rfl (by decide) ?_
          refine x_cI (t := 6) (mj := 254) (n := 2) (rc := 12) (ml := 4) (nr := 0) (np := 48) (as := [x_r 75, iv_c 2147483651]) (rest := []) (lo1 := [x_r 75, iv_c 2147483651, 147573952589676412928, 147573952589676412928]) (by decide +kernel) (by decide) (by decide +kernel) (x_rb_of (by decide +kernel)) rfl rfl (x_wr (by decide) (x_wi (by decide) x_wn)) x_wn (by decide) rfl (c254_75 j3508  (by first | decide | omega)) (fun v3516 h3519 l3517 q3518 => ?_)
          obtain ⟨j3520, f3521, b3522⟩ := q3518
          have f3523 := Fr.trans f3510 f3521 (by decide)
          have f3524 := Fr.trans f3511 f3521 (by decide)
          refine x_istore (np := 49) (x := 3) (lo' := [x_r 75, iv_c 2147483651, iv_c 2147483651, iv_c v3516, iv_c 2147483649, w2515]) (by decide +kernel) l3517 (Nat.le_of_ble_eq_true rfl) rfl ?_
          refine x_iload (np := 50) (x := 3) (by decide +kernel) rfl l3517 ?_
          refine x_const (np := 51) (x := 9223372043297226753) (a := 2147483649) (by decide +kernel) (by decide) (by decide) ?_
          refine x_icmp (k := 1) (tg := 85) (np := 54) (by decide +kernel) (by decide) l3517 (by decide) (fun q3525 => ?_) (fun q3526 => ?_)
          · have q3525 : v3516 ≠ 2147483649 := q3525
            refine x_iload (np := 86) (x := 3) (by decide +kernel) rfl l3517 ?_
            refine x_const (np := 87) (x := 9223372043297226753) (a := 2147483649) (by decide +kernel) (by decide) (by decide) ?_
            refine x_icmp (k := 0) (tg := 95) (np := 90) (by decide +kernel) (by decide) l3517 (by decide) (fun q3527 => ?_) (fun q3528 => ?_)
            · have q3527 : v3516 = 2147483649 := q3527
              exfalso; omega
            have q3528 : ¬ (v3516 = 2147483649) := q3528
            refine x_iload (np := 91) (x := 2) (by decide +kernel) rfl (by decide) ?_
            refine x_iload (np := 92) (x := 1) (by decide +kernel) rfl (by decide) ?_
            refine x_icmp (k := 1) (tg := 102) (np := 95) (by decide +kernel) (by decide) (by decide) (by decide) (fun q3529 => ?_) (fun q3530 => ?_)
            · have q3529 : 2147483651 ≠ 2147483651 := q3529
              exfalso; omega
            have q3530 : ¬ (2147483651 ≠ 2147483651) := q3530
            refine x_aload (np := 96) (x := 0) (by decide +kernel) rfl (x_nc_le (by decide)) ?_
            have q3531 : h3519 75 28 = 94 := by have z := jB (e := 28) 0 j3520 rg_75_28_0_1 (by decide) (by decide); omega
            refine x_getR (np := 99) (x := 732) (f := 28) (q := 94) (by decide +kernel) (by decide) (by decide +kernel) q3531 ?_
            refine x_iload (np := 100) (x := 2) (by decide +kernel) rfl (by decide) ?_
            refine x_const (np := 101) (x := 9223372034707292159) (a := 2147483647) (by decide +kernel) (by decide) (by decide) ?_
            refine x_ast (np := 102) (x := 0) (kd := 1) (n := 6) (i := 3) (by decide +kernel) (Or.inl rfl) (by decide +kernel) (by first | decide | omega) (by first | decide | omega) (by decide) (by decide) (fun z => absurd z (by decide)) ?_
            have j3533 := jU (e := 3) (v := 2147483647) 3 j3520 rg_94_0_1_6 (by first | decide | omega) (by first | decide | omega) (by first | decide | omega)
            have f3535 := jF (e := 3) (v := 2147483647) 3 f3523 rg_94_0_1_6 (by first | decide | omega) (by first | decide | omega) (by decide)
            have f3536 := jF (e := 3) (v := 2147483647) 3 f3524 rg_94_0_1_6 (by first | decide | omega) (by first | decide | omega) (by decide)
            generalize e3534 : x_up h3519 94 3 2147483647 = h3532 at j3533 f3535 f3536 ⊢
            refine x_aload (np := 103) (x := 0) (by decide +kernel) rfl (x_nc_le (by decide)) ?_
            have q3537 : h3532 75 27 = 93 := by have z := jB (e := 27) 0 j3533 rg_75_27_0_1 (by decide) (by decide); omega
            refine x_getR (np := 106) (x := 731) (f := 27) (q := 93) (by decide +kernel) (by decide) (by decide +kernel) q3537 ?_
            refine x_iload (np := 107) (x := 2) (by decide +kernel) rfl (by decide) ?_
            have q3538 : h3532 93 3 = h3519 93 3 := by rw [← e3534]; exact x_up_k (by decide)
            have b3539 := jB (e := 3) 3 j3520 rg_93_0_1_6 (by first | decide | omega) (by first | decide | omega)
            refine x_aldC (np := 108) (x := 0) (n := 6) (i := 3) (q := (h3519 93 3)) (by decide +kernel) (by decide +kernel) (by first | decide | omega) (by first | decide | omega) (by decide) q3538 (fun l3540 => ?_)
            refine x_ifz (k := 2) (tg := 122) (np := 111) (by decide +kernel) (by decide) l3540 (fun q3541 => ?_) (fun q3542 => ?_)
            · have q3541 : (h3519 93 3) < 2147483648 := q3541
              refine x_aload (np := 123) (x := 0) (by decide +kernel) rfl (x_nc_le (by decide)) ?_
              have q3543 : h3532 75 28 = 94 := by have z := jB (e := 28) 0 j3533 rg_75_28_0_1 (by decide) (by decide); omega
              refine x_getR (np := 126) (x := 732) (f := 28) (q := 94) (by decide +kernel) (by decide) (by decide +kernel) q3543 ?_
              refine x_iload (np := 127) (x := 2) (by decide +kernel) rfl (by decide) ?_
              have q3544 : h3532 94 3 = 2147483647 := by rw [← e3534]; exact x_up_at
              refine x_aldC (np := 128) (x := 0) (n := 6) (i := 3) (q := 2147483647) (by decide +kernel) (by decide +kernel) (by first | decide | omega) (by first | decide | omega) (by decide) q3544 (fun l3545 => ?_)
              refine x_ifz (k := 3) (tg := 135) (np := 131) (by decide +kernel) (by decide) (by decide) (fun q3546 => ?_) (fun q3547 => ?_)
              · have q3546 : 2147483648 ≤ 2147483647 := q3546
                exfalso; omega
              have q3547 : ¬ (2147483648 ≤ 2147483647) := q3547
              refine x_const (np := 132) (x := 9223372034707292159) (a := 2147483647) (by decide +kernel) (by decide) (by decide) ?_
              refine x_goto (np := 135) (x := 140) (by decide +kernel) ?_
              refine x_istore (np := 142) (x := 5) (lo' := [x_r 75, iv_c 2147483651, iv_c 2147483651, iv_c v3516, iv_c 2147483649, iv_c 2147483647]) (by decide +kernel) (by decide) (Nat.le_of_ble_eq_true rfl) rfl ?_
              refine x_iload (np := 144) (x := 5) (by decide +kernel) rfl (by decide) ?_
              refine x_ifz (k := 2) (tg := 151) (np := 147) (by decide +kernel) (by decide) (by decide) (fun q3548 => ?_) (fun q3549 => ?_)
              · have q3548 : 2147483647 < 2147483648 := q3548
                refine x_const (np := 152) (x := 9223372039002259456) (a := 2147483648) (by decide +kernel) (by decide) (by decide) ?_
                refine x_istore (np := 154) (x := 4) (lo' := [x_r 75, iv_c 2147483651, iv_c 2147483651, iv_c v3516, iv_c 2147483648, iv_c 2147483647]) (by decide +kernel) (by decide) (Nat.le_of_ble_eq_true rfl) rfl ?_
                refine x_iload (np := 156) (x := 4) (by decide +kernel) rfl (by decide) ?_
                refine x_ifz (k := 0) (tg := 180) (np := 159) (by decide +kernel) (by decide) (by decide) (fun q3550 => ?_) (fun q3551 => ?_)
                · have q3550 : 2147483648 = 2147483648 := q3550
                  refine x_iinc (np := 183) (i := 2) (j := 2147483647) (v := 2147483650) (lo' := [x_r 75, iv_c 2147483651, iv_c 2147483650, iv_c v3516, iv_c 2147483648, iv_c 2147483647]) (by decide +kernel) (by decide) (by decide) rfl (by decide) (by first | decide | omega) (by first | decide | omega) rfl ?_
                  refine x_goto (np := 186) (x := 12) (by decide +kernel) ?_
                  have q3552 : h3532 75 30 = h3519 75 30 := by rw [← e3534]; exact x_up_k (by decide)
                  have q3553 : h3519 75 30 = h3507 75 30 := jK 0 f3521 rg_75_30_0_1 (by first | decide | omega) (by first | decide | omega) (by decide)
                  have q3554 : h3507 75 30 = (1 + (h2516 75 30)) := by rw [← e3509]; exact x_up_at
                  exact i2551 (iv_c v3516) (iv_c 2147483647) h3532 (by first | decide | omega) j3533 f3536 (by first | decide | omega)
                have q3551 : ¬ (2147483648 = 2147483648) := q3551
                exfalso; omega
              have q3549 : ¬ (2147483647 < 2147483648) := q3549
              exfalso; omega
            have q3542 : ¬ ((h3519 93 3) < 2147483648) := q3542
            refine x_aload (np := 112) (x := 0) (by decide +kernel) rfl (x_nc_le (by decide)) ?_
            refine x_aload (np := 113) (x := 0) (by decide +kernel) rfl (x_nc_le (by decide)) ?_
            have q3555 : h3532 75 27 = 93 := by have z := jB (e := 27) 0 j3533 rg_75_27_0_1 (by decide) (by decide); omega
            refine x_getR (np := 116) (x := 731) (f := 27) (q := 93) (by decide +kernel) (by decide) (by decide +kernel) q3555 ?_
            refine x_iload (np := 117) (x := 2) (by decide +kernel) rfl (by decide) ?_
            have q3556 : h3532 93 3 = h3519 93 3 := by rw [← e3534]; exact x_up_k (by decide)
            refine x_aldC (np := 118) (x := 0) (n := 6) (i := 3) (q := (h3519 93 3)) (by decide +kernel) (by decide +kernel) (by first | decide | omega) (by first | decide | omega) (by decide) q3556 (fun l3557 => ?_)
            refine x_const (np := 119) (x := 9223372039002259456) (a := 2147483648) (by decide +kernel) (by decide) (by decide) ?_
            refine x_cV (t := 6) (mj := 248) (n := 3) (rc := 12) (ml := 4) (nr := 0) (np := 122) (as := [x_r 75, iv_c (h3519 93 3), iv_c 2147483648]) (rest := []) (lo1 := [x_r 75, iv_c (h3519 93 3), iv_c 2147483648, 147573952589676412928]) (by decide +kernel) (by decide) (by decide +kernel) (x_rb_of (by decide +kernel)) rfl rfl (x_wr (by decide) (x_wi l3540 (x_wi (by decide) x_wn))) x_wn (by decide) rfl (c248_75 j3533  (by first | decide | omega) (by first | decide | omega)) (fun h3561 q3560 => ?_)
            obtain ⟨j3562, f3563⟩ := q3560
            have f3566 := Fr.trans f3535 f3563 (by decide)
            have f3567 := Fr.trans f3536 f3563 (by decide)
            refine x_aload (np := 123) (x := 0) (by decide +kernel) rfl (x_nc_le (by decide)) ?_
            have q3568 : h3561 75 28 = 94 := by have z := jB (e := 28) 0 j3562 rg_75_28_0_1 (by decide) (by decide); omega
            refine x_getR (np := 126) (x := 732) (f := 28) (q := 94) (by decide +kernel) (by decide) (by decide +kernel) q3568 ?_
            refine x_iload (np := 127) (x := 2) (by decide +kernel) rfl (by decide) ?_
            have q3569 : h3561 94 3 = h3532 94 3 := jK 3 f3563 rg_94_0_1_6 (by first | decide | omega) (by first | decide | omega) (by decide)
            have q3570 : h3532 94 3 = 2147483647 := by rw [← e3534]; exact x_up_at
            refine x_aldC (np := 128) (x := 0) (n := 6) (i := 3) (q := 2147483647) (by decide +kernel) (by decide +kernel) (by first | decide | omega) (by first | decide | omega) (by decide) (q3569.trans q3570) (fun l3571 => ?_)
            refine x_ifz (k := 3) (tg := 135) (np := 131) (by decide +kernel) (by decide) (by decide) (fun q3572 => ?_) (fun q3573 => ?_)
            · have q3572 : 2147483648 ≤ 2147483647 := q3572
              exfalso; omega
            have q3573 : ¬ (2147483648 ≤ 2147483647) := q3573
            refine x_const (np := 132) (x := 9223372034707292159) (a := 2147483647) (by decide +kernel) (by decide) (by decide) ?_
            refine x_goto (np := 135) (x := 140) (by decide +kernel) ?_
            refine x_istore (np := 142) (x := 5) (lo' := [x_r 75, iv_c 2147483651, iv_c 2147483651, iv_c v3516, iv_c 2147483649, iv_c 2147483647]) (by decide +kernel) (by decide) (Nat.le_of_ble_eq_true rfl) rfl ?_
            refine x_iload (np := 144) (x := 5) (by decide +kernel) rfl (by decide) ?_
            refine x_ifz (k := 2) (tg := 151) (np := 147) (by decide +kernel) (by decide) (by decide) (fun q3574 => ?_) (fun q3575 => ?_)
            · have q3574 : 2147483647 < 2147483648 := q3574
              refine x_const (np := 152) (x := 9223372039002259456) (a := 2147483648) (by decide +kernel) (by decide) (by decide) ?_
              refine x_istore (np := 154) (x := 4) (lo' := [x_r 75, iv_c 2147483651, iv_c 2147483651, iv_c v3516, iv_c 2147483648, iv_c 2147483647]) (by decide +kernel) (by decide) (Nat.le_of_ble_eq_true rfl) rfl ?_
              refine x_iload (np := 156) (x := 4) (by decide +kernel) rfl (by decide) ?_
              refine x_ifz (k := 0) (tg := 180) (np := 159) (by decide +kernel) (by decide) (by decide) (fun q3576 => ?_) (fun q3577 => ?_)
              · have q3576 : 2147483648 = 2147483648 := q3576
                refine x_iinc (np := 183) (i := 2) (j := 2147483647) (v := 2147483650) (lo' := [x_r 75, iv_c 2147483651, iv_c 2147483650, iv_c v3516, iv_c 2147483648, iv_c 2147483647]) (by decide +kernel) (by decide) (by decide) rfl (by decide) (by first | decide | omega) (by first | decide | omega) rfl ?_
                refine x_goto (np := 186) (x := 12) (by decide +kernel) ?_
                have q3578 : h3561 75 30 = h3532 75 30 := jK 0 f3563 rg_75_30_0_1 (by first | decide | omega) (by first | decide | omega) (by decide)
                have q3579 : h3532 75 30 = h3519 75 30 := by rw [← e3534]; exact x_up_k (by decide)
                have q3580 : h3519 75 30 = h3507 75 30 := jK 0 f3521 rg_75_30_0_1 (by first | decide | omega) (by first | decide | omega) (by decide)
                have q3581 : h3507 75 30 = (1 + (h2516 75 30)) := by rw [← e3509]; exact x_up_at
                exact i2551 (iv_c v3516) (iv_c 2147483647) h3561 (by first | decide | omega) j3562 f3567 (by first | decide | omega)
              have q3577 : ¬ (2147483648 = 2147483648) := q3577
              exfalso; omega
            have q3575 : ¬ (2147483647 < 2147483648) := q3575
            exfalso; omega
          have q3526 : ¬ (v3516 ≠ 2147483649) := q3526
          refine x_aload (np := 55) (x := 0) (by decide +kernel) rfl (x_nc_le (by decide)) ?_
          have q3582 : h3519 75 34 = h3507 75 34 := jK 0 f3521 rg_75_34_0_1 (by first | decide | omega) (by first | decide | omega) (by decide)
          have q3583 : h3507 75 34 = h2516 75 34 := by rw [← e3509]; exact x_up_i (by first | decide | omega)
          refine x_getC (np := 58) (x := 738) (f := 34) (q := (h2516 75 34)) (by decide +kernel) (by decide) (by decide +kernel) (q3582.trans q3583) (fun l3584 => ?_)
          refine x_ifz (k := 1) (tg := 66) (np := 61) (by decide +kernel) (by decide) l3584 (fun q3585 => ?_) (fun q3586 => ?_)
          · have q3585 : (h2516 75 34) ≠ 2147483648 := q3585
            refine x_aload (np := 67) (x := 0) (by decide +kernel) rfl (x_nc_le (by decide)) ?_
            refine x_dup (np := 68) (x := 0) (by decide +kernel) (by have z := x_nc_le (k := 75) (by decide); unfold x_r; omega) ?_
            have q3587 : h3519 75 34 = h3507 75 34 := jK 0 f3521 rg_75_34_0_1 (by first | decide | omega) (by first | decide | omega) (by decide)
            have q3588 : h3507 75 34 = h2516 75 34 := by rw [← e3509]; exact x_up_i (by first | decide | omega)
            refine x_getC (np := 71) (x := 738) (f := 34) (q := (h2516 75 34)) (by decide +kernel) (by decide) (by decide +kernel) (q3587.trans q3588) (fun l3589 => ?_)
            refine x_const (np := 72) (x := 9223372043297226753) (a := 2147483649) (by decide +kernel) (by decide) (by decide) ?_
            refine x_addA (by rw [tb_b259]; decide +kernel) l3584 (by decide) (fun v3590 l3591 => ?_)
            refine x_putI (np := 76) (x := 738) (f := 34) (by decide +kernel) (by decide +kernel) l3591 (Or.inl (by decide)) ?_
            have j3593 := jU (e := 34) (v := v3590) 0 j3520 rg_75_34_0_1 (by first | decide | omega) (by first | decide | omega) (by first | decide | omega)
            have f3595 := jF (e := 34) (v := v3590) 0 f3523 rg_75_34_0_1 (by first | decide | omega) (by first | decide | omega) (by decide)
            have f3596 := jF (e := 34) (v := v3590) 0 f3524 rg_75_34_0_1 (by first | decide | omega) (by first | decide | omega) (by decide)
            generalize e3594 : x_up h3519 75 34 v3590 = h3592 at j3593 f3595 f3596 ⊢
            refine x_aload (np := 77) (x := 0) (by decide +kernel) rfl (x_nc_le (by decide)) ?_
            have q3597 : h3592 75 33 = h3519 75 33 := by rw [← e3594]; exact x_up_i (by first | decide | omega)
            have q3598 : h3519 75 33 = h3507 75 33 := jK 0 f3521 rg_75_33_0_1 (by first | decide | omega) (by first | decide | omega) (by decide)
            have q3599 : h3507 75 33 = h2516 75 33 := by rw [← e3509]; exact x_up_i (by first | decide | omega)
            have q3600 : h2516 75 33 = h2 75 33 := jK 0 f2518 rg_75_33_0_1 (by first | decide | omega) (by first | decide | omega) (by decide)
            have q3601 : h2 75 33 = h 75 33 := by rw [← e4]; exact x_up_i (by first | decide | omega)
            have b3602 := jB (e := 33) 0 hJ rg_75_33_0_1 (by first | decide | omega) (by first | decide | omega)
            refine x_getC (np := 80) (x := 737) (f := 33) (q := (h 75 33)) (by decide +kernel) (by decide) (by decide +kernel) ((((q3597.trans q3598).trans q3599).trans q3600).trans q3601) (fun l3603 => ?_)
            refine x_ifz (k := 0) (tg := 85) (np := 83) (by decide +kernel) (by decide) l3603 (fun q3604 => ?_) (fun q3605 => ?_)
            · have q3604 : (h 75 33) = 2147483648 := q3604
              refine x_iload (np := 86) (x := 3) (by decide +kernel) rfl l3517 ?_
              refine x_const (np := 87) (x := 9223372043297226753) (a := 2147483649) (by decide +kernel) (by decide) (by decide) ?_
              refine x_icmp (k := 0) (tg := 95) (np := 90) (by decide +kernel) (by decide) l3517 (by decide) (fun q3606 => ?_) (fun q3607 => ?_)
              · have q3606 : v3516 = 2147483649 := q3606
                refine x_aload (np := 96) (x := 0) (by decide +kernel) rfl (x_nc_le (by decide)) ?_
                have q3608 : h3592 75 28 = 94 := by have z := jB (e := 28) 0 j3593 rg_75_28_0_1 (by decide) (by decide); omega
                refine x_getR (np := 99) (x := 732) (f := 28) (q := 94) (by decide +kernel) (by decide) (by decide +kernel) q3608 ?_
                refine x_iload (np := 100) (x := 2) (by decide +kernel) rfl (by decide) ?_
                refine x_const (np := 101) (x := 9223372034707292159) (a := 2147483647) (by decide +kernel) (by decide) (by decide) ?_
                refine x_ast (np := 102) (x := 0) (kd := 1) (n := 6) (i := 3) (by decide +kernel) (Or.inl rfl) (by decide +kernel) (by first | decide | omega) (by first | decide | omega) (by decide) (by decide) (fun z => absurd z (by decide)) ?_
                have j3610 := jU (e := 3) (v := 2147483647) 3 j3593 rg_94_0_1_6 (by first | decide | omega) (by first | decide | omega) (by first | decide | omega)
                have f3612 := jF (e := 3) (v := 2147483647) 3 f3595 rg_94_0_1_6 (by first | decide | omega) (by first | decide | omega) (by decide)
                have f3613 := jF (e := 3) (v := 2147483647) 3 f3596 rg_94_0_1_6 (by first | decide | omega) (by first | decide | omega) (by decide)
                generalize e3611 : x_up h3592 94 3 2147483647 = h3609 at j3610 f3612 f3613 ⊢
                refine x_aload (np := 103) (x := 0) (by decide +kernel) rfl (x_nc_le (by decide)) ?_
                have q3614 : h3609 75 27 = 93 := by have z := jB (e := 27) 0 j3610 rg_75_27_0_1 (by decide) (by decide); omega
                refine x_getR (np := 106) (x := 731) (f := 27) (q := 93) (by decide +kernel) (by decide) (by decide +kernel) q3614 ?_
                refine x_iload (np := 107) (x := 2) (by decide +kernel) rfl (by decide) ?_
                have q3615 : h3609 93 3 = h3592 93 3 := by rw [← e3611]; exact x_up_k (by decide)
                have q3616 : h3592 93 3 = h3519 93 3 := by rw [← e3594]; exact x_up_k (by decide)
                have b3617 := jB (e := 3) 3 j3520 rg_93_0_1_6 (by first | decide | omega) (by first | decide | omega)
                refine x_aldC (np := 108) (x := 0) (n := 6) (i := 3) (q := (h3519 93 3)) (by decide +kernel) (by decide +kernel) (by first | decide | omega) (by first | decide | omega) (by decide) (q3615.trans q3616) (fun l3618 => ?_)
                refine x_ifz (k := 2) (tg := 122) (np := 111) (by decide +kernel) (by decide) l3618 (fun q3619 => ?_) (fun q3620 => ?_)
                · have q3619 : (h3519 93 3) < 2147483648 := q3619
                  refine x_aload (np := 123) (x := 0) (by decide +kernel) rfl (x_nc_le (by decide)) ?_
                  have q3621 : h3609 75 28 = 94 := by have z := jB (e := 28) 0 j3610 rg_75_28_0_1 (by decide) (by decide); omega
                  refine x_getR (np := 126) (x := 732) (f := 28) (q := 94) (by decide +kernel) (by decide) (by decide +kernel) q3621 ?_
                  refine x_iload (np := 127) (x := 2) (by decide +kernel) rfl (by decide) ?_
                  have q3622 : h3609 94 3 = 2147483647 := by rw [← e3611]; exact x_up_at
                  refine x_aldC (np := 128) (x := 0) (n := 6) (i := 3) (q := 2147483647) (by decide +kernel) (by decide +kernel) (by first | decide | omega) (by first | decide | omega) (by decide) q3622 (fun l3623 => ?_)
                  refine x_ifz (k := 3) (tg := 135) (np := 131) (by decide +kernel) (by decide) (by decide) (fun q3624 => ?_) (fun q3625 => ?_)
                  · have q3624 : 2147483648 ≤ 2147483647 := q3624
                    exfalso; omega
                  have q3625 : ¬ (2147483648 ≤ 2147483647) := q3625
                  refine x_const (np := 132) (x := 9223372034707292159) (a := 2147483647) (by decide +kernel) (by decide) (by decide) ?_
                  refine x_goto (np := 135) (x := 140) (by decide +kernel) ?_
                  refine x_istore (np := 142) (x := 5) (lo' := [x_r 75, iv_c 2147483651, iv_c 2147483651, iv_c v3516, iv_c 2147483649, iv_c 2147483647]) (by decide +kernel) (by decide) (Nat.le_of_ble_eq_true rfl) rfl ?_
                  refine x_iload (np := 144) (x := 5) (by decide +kernel) rfl (by decide) ?_
                  refine x_ifz (k := 2) (tg := 151) (np := 147) (by decide +kernel) (by decide) (by decide) (fun q3626 => ?_) (fun q3627 => ?_)
                  · have q3626 : 2147483647 < 2147483648 := q3626
                    refine x_const (np := 152) (x := 9223372039002259456) (a := 2147483648) (by decide +kernel) (by decide) (by decide) ?_
                    refine x_istore (np := 154) (x := 4) (lo' := [x_r 75, iv_c 2147483651, iv_c 2147483651, iv_c v3516, iv_c 2147483648, iv_c 2147483647]) (by decide +kernel) (by decide) (Nat.le_of_ble_eq_true rfl) rfl ?_
                    refine x_iload (np := 156) (x := 4) (by decide +kernel) rfl (by decide) ?_
                    refine x_ifz (k := 0) (tg := 180) (np := 159) (by decide +kernel) (by decide) (by decide) (fun q3628 => ?_) (fun q3629 => ?_)
                    · have q3628 : 2147483648 = 2147483648 := q3628
                      refine x_iinc (np := 183) (i := 2) (j := 2147483647) (v := 2147483650) (lo' := [x_r 75, iv_c 2147483651, iv_c 2147483650, iv_c v3516, iv_c 2147483648, iv_c 2147483647]) (by decide +kernel) (by decide) (by decide) rfl (by decide) (by first | decide | omega) (by first | decide | omega) rfl ?_
                      refine x_goto (np := 186) (x := 12) (by decide +kernel) ?_
                      have q3630 : h3609 75 30 = h3592 75 30 := by rw [← e3611]; exact x_up_k (by decide)
                      have q3631 : h3592 75 30 = h3519 75 30 := by rw [← e3594]; exact x_up_i (by first | decide | omega)
                      have q3632 : h3519 75 30 = h3507 75 30 := jK 0 f3521 rg_75_30_0_1 (by first | decide | omega) (by first | decide | omega) (by decide)
                      have q3633 : h3507 75 30 = (1 + (h2516 75 30)) := by rw [← e3509]; exact x_up_at
                      exact i2551 (iv_c v3516) (iv_c 2147483647) h3609 (by first | decide | omega) j3610 f3613 (by first | decide | omega)
                    have q3629 : ¬ (2147483648 = 2147483648) := q3629
                    exfalso; omega
                  have q3627 : ¬ (2147483647 < 2147483648) := q3627
                  exfalso; omega
                have q3620 : ¬ ((h3519 93 3) < 2147483648) := q3620
                refine x_aload (np := 112) (x := 0) (by decide +kernel) rfl (x_nc_le (by decide)) ?_
                refine x_aload (np := 113) (x := 0) (by decide +kernel) rfl (x_nc_le (by decide)) ?_
                have q3634 : h3609 75 27 = 93 := by have z := jB (e := 27) 0 j3610 rg_75_27_0_1 (by decide) (by decide); omega
                refine x_getR (np := 116) (x := 731) (f := 27) (q := 93) (by decide +kernel) (by decide) (by decide +kernel) q3634 ?_
                refine x_iload (np := 117) (x := 2) (by decide +kernel) rfl (by decide) ?_
                have q3635 : h3609 93 3 = h3592 93 3 := by rw [← e3611]; exact x_up_k (by decide)
                have q3636 : h3592 93 3 = h3519 93 3 := by rw [← e3594]; exact x_up_k (by decide)
                refine x_aldC (np := 118) (x := 0) (n := 6) (i := 3) (q := (h3519 93 3)) (by decide +kernel) (by decide +kernel) (by first | decide | omega) (by first | decide | omega) (by decide) (q3635.trans q3636) (fun l3637 => ?_)
                refine x_const (np := 119) (x := 9223372039002259456) (a := 2147483648) (by decide +kernel) (by decide) (by decide) ?_
                refine x_cV (t := 6) (mj := 248) (n := 3) (rc := 12) (ml := 4) (nr := 0) (np := 122) (as := [x_r 75, iv_c (h3519 93 3), iv_c 2147483648]) (rest := []) (lo1 := [x_r 75, iv_c (h3519 93 3), iv_c 2147483648, 147573952589676412928]) (by decide +kernel) (by decide) (by decide +kernel) (x_rb_of (by decide +kernel)) rfl rfl (x_wr (by decide) (x_wi l3618 (x_wi (by decide) x_wn))) x_wn (by decide) rfl (c248_75 j3610  (by first | decide | omega) (by first | decide | omega)) (fun h3641 q3640 => ?_)
                obtain ⟨j3642, f3643⟩ := q3640
                have f3646 := Fr.trans f3612 f3643 (by decide)
                have f3647 := Fr.trans f3613 f3643 (by decide)
                refine x_aload (np := 123) (x := 0) (by decide +kernel) rfl (x_nc_le (by decide)) ?_
                have q3648 : h3641 75 28 = 94 := by have z := jB (e := 28) 0 j3642 rg_75_28_0_1 (by decide) (by decide); omega
                refine x_getR (np := 126) (x := 732) (f := 28) (q := 94) (by decide +kernel) (by decide) (by decide +kernel) q3648 ?_
                refine x_iload (np := 127) (x := 2) (by decide +kernel) rfl (by decide) ?_
                have q3649 : h3641 94 3 = h3609 94 3 := jK 3 f3643 rg_94_0_1_6 (by first | decide | omega) (by first | decide | omega) (by decide)
                have q3650 : h3609 94 3 = 2147483647 := by rw [← e3611]; exact x_up_at
                refine x_aldC (np := 128) (x := 0) (n := 6) (i := 3) (q := 2147483647) (by decide +kernel) (by decide +kernel) (by first | decide | omega) (by first | decide | omega) (by decide) (q3649.trans q3650) (fun l3651 => ?_)
                refine x_ifz (k := 3) (tg := 135) (np := 131) (by decide +kernel) (by decide) (by decide) (fun q3652 => ?_) (fun q3653 => ?_)
                · have q3652 : 2147483648 ≤ 2147483647 := q3652
                  exfalso; omega
                have q3653 : ¬ (2147483648 ≤ 2147483647) := q3653
                refine x_const (np := 132) (x := 9223372034707292159) (a := 2147483647) (by decide +kernel) (by decide) (by decide) ?_
                refine x_goto (np := 135) (x := 140) (by decide +kernel) ?_
                refine x_istore (np := 142) (x := 5) (lo' := [x_r 75, iv_c 2147483651, iv_c 2147483651, iv_c v3516, iv_c 2147483649, iv_c 2147483647]) (by decide +kernel) (by decide) (Nat.le_of_ble_eq_true rfl) rfl ?_
                refine x_iload (np := 144) (x := 5) (by decide +kernel) rfl (by decide) ?_
                refine x_ifz (k := 2) (tg := 151) (np := 147) (by decide +kernel) (by decide) (by decide) (fun q3654 => ?_) (fun q3655 => ?_)
                · have q3654 : 2147483647 < 2147483648 := q3654
                  refine x_const (np := 152) (x := 9223372039002259456) (a := 2147483648) (by decide +kernel) (by decide) (by decide) ?_
                  refine x_istore (np := 154) (x := 4) (lo' := [x_r 75, iv_c 2147483651, iv_c 2147483651, iv_c v3516, iv_c 2147483648, iv_c 2147483647]) (by decide +kernel) (by decide) (Nat.le_of_ble_eq_true rfl) rfl ?_
                  refine x_iload (np := 156) (x := 4) (by decide +kernel) rfl (by decide) ?_
                  refine x_ifz (k := 0) (tg := 180) (np := 159) (by decide +kernel) (by decide) (by decide) (fun q3656 => ?_) (fun q3657 => ?_)
                  · have q3656 : 2147483648 = 2147483648 := q3656
                    refine x_iinc (np := 183) (i := 2) (j := 2147483647) (v := 2147483650) (lo' := [x_r 75, iv_c 2147483651, iv_c 2147483650, iv_c v3516, iv_c 2147483648, iv_c 2147483647]) (by decide +kernel) (by decide) (by decide) rfl (by decide) (by first | decide | omega) (by first | decide | omega) rfl ?_
                    refine x_goto (np := 186) (x := 12) (by decide +kernel) ?_
                    have q3658 : h3641 75 30 = h3609 75 30 := jK 0 f3643 rg_75_30_0_1 (by first | decide | omega) (by first | decide | omega) (by decide)
                    have q3659 : h3609 75 30 = h3592 75 30 := by rw [← e3611]; exact x_up_k (by decide)
                    have q3660 : h3592 75 30 = h3519 75 30 := by rw [← e3594]; exact x_up_i (by first | decide | omega)
                    have q3661 : h3519 75 30 = h3507 75 30 := jK 0 f3521 rg_75_30_0_1 (by first | decide | omega) (by first | decide | omega) (by decide)
                    have q3662 : h3507 75 30 = (1 + (h2516 75 30)) := by rw [← e3509]; exact x_up_at
                    exact i2551 (iv_c v3516) (iv_c 2147483647) h3641 (by first | decide | omega) j3642 f3647 (by first | decide | omega)
                  have q3657 : ¬ (2147483648 = 2147483648) := q3657
                  exfalso; omega
                have q3655 : ¬ (2147483647 < 2147483648) := q3655
                exfalso; omega
              have q3607 : ¬ (v3516 = 2147483649) := q3607
              exfalso; omega
            have q3605 : ¬ ((h 75 33) = 2147483648) := q3605
            refine x_const (np := 84) (x := 9223372043297226753) (a := 2147483649) (by decide +kernel) (by decide) (by decide) ?_
            have q3663 : h3592 75 30 = h3519 75 30 := by rw [← e3594]; exact x_up_i (by first | decide | omega)
            have q3664 : h3519 75 30 = h3507 75 30 := jK 0 f3521 rg_75_30_0_1 (by first | decide | omega) (by first | decide | omega) (by decide)
            have q3665 : h3507 75 30 = (1 + (h2516 75 30)) := by rw [← e3509]; exact x_up_at
            refine x_retI (np := 85) (x := 0) (by decide +kernel) (by decide) (Or.inr ⟨by decide +kernel, by first | decide | omega, by first | decide | omega⟩) ⟨_, rfl, (by decide), ?_⟩
            exact ⟨j3593, f3595, (by first | decide | omega), (fun z => by first | decide | omega)⟩
          have q3586 : ¬ ((h2516 75 34) ≠ 2147483648) := q3586
          refine x_aload (np := 62) (x := 0) (by decide +kernel) rfl (x_nc_le (by decide)) ?_
          refine x_iload (np := 63) (x := 2) (by decide +kernel) rfl (by decide) ?_
          refine x_cV (t := 6) (mj := 258) (n := 2) (rc := 12) (ml := 4) (nr := 0) (np := 66) (as := [x_r 75, iv_c 2147483651]) (rest := []) (lo1 := [x_r 75, iv_c 2147483651, 147573952589676412928, 147573952589676412928]) (by decide +kernel) (by decide) (by decide +kernel) (x_rb_of (by decide +kernel)) rfl rfl (x_wr (by decide) (x_wi (by decide) x_wn)) x_wn (by decide) rfl (c258_75 j3520  (by first | decide | omega)) (fun h3669 q3668 => ?_)
          obtain ⟨j3670, f3671⟩ := q3668
          have f3674 := Fr.trans f3523 f3671 (by decide)
          have f3675 := Fr.trans f3524 f3671 (by decide)
          refine x_aload (np := 67) (x := 0) (by decide +kernel) rfl (x_nc_le (by decide)) ?_
          refine x_dup (np := 68) (x := 0) (by decide +kernel) (by have z := x_nc_le (k := 75) (by decide); unfold x_r; omega) ?_
          have q3676 : h3669 75 34 = h3519 75 34 := jK 0 f3671 rg_75_34_0_1 (by first | decide | omega) (by first | decide | omega) (by decide)
          have q3677 : h3519 75 34 = h3507 75 34 := jK 0 f3521 rg_75_34_0_1 (by first | decide | omega) (by first | decide | omega) (by decide)
          have q3678 : h3507 75 34 = h2516 75 34 := by rw [← e3509]; exact x_up_i (by first | decide | omega)
          refine x_getC (np := 71) (x := 738) (f := 34) (q := (h2516 75 34)) (by decide +kernel) (by decide) (by decide +kernel) ((q3676.trans q3677).trans q3678) (fun l3679 => ?_)
          refine x_const (np := 72) (x := 9223372043297226753) (a := 2147483649) (by decide +kernel) (by decide) (by decide) ?_
          refine x_iadd (np := 73) (x := 0) (v := (1 + (h2516 75 34))) (by decide +kernel) l3584 (by decide) (by first | decide | omega) (by first | decide | omega) ?_
          refine x_putI (np := 76) (x := 738) (f := 34) (by decide +kernel) (by decide +kernel) (by first | decide | omega) (Or.inl (by decide)) ?_
          have j3681 := jU (e := 34) (v := (1 + (h2516 75 34))) 0 j3670 rg_75_34_0_1 (by first | decide | omega) (by first | decide | omega) (by first | decide | omega)
          have f3683 := jF (e := 34) (v := (1 + (h2516 75 34))) 0 f3674 rg_75_34_0_1 (by first | decide | omega) (by first | decide | omega) (by decide)
          have f3684 := jF (e := 34) (v := (1 + (h2516 75 34))) 0 f3675 rg_75_34_0_1 (by first | decide | omega) (by first | decide | omega) (by decide)
          generalize e3682 : x_up h3669 75 34 (1 + (h2516 75 34)) = h3680 at j3681 f3683 f3684 ⊢
          refine x_aload (np := 77) (x := 0) (by decide +kernel) rfl (x_nc_le (by decide)) ?_
          have q3685 : h3680 75 33 = h3669 75 33 := by rw [← e3682]; exact x_up_i (by first | decide | omega)
          have q3686 : h3669 75 33 = h3519 75 33 := jK 0 f3671 rg_75_33_0_1 (by first | decide | omega) (by first | decide | omega) (by decide)
          have q3687 : h3519 75 33 = h3507 75 33 := jK 0 f3521 rg_75_33_0_1 (by first | decide | omega) (by first | decide | omega) (by decide)
          have q3688 : h3507 75 33 = h2516 75 33 := by rw [← e3509]; exact x_up_i (by first | decide | omega)
          have q3689 : h2516 75 33 = h2 75 33 := jK 0 f2518 rg_75_33_0_1 (by first | decide | omega) (by first | decide | omega) (by decide)
          have q3690 : h2 75 33 = h 75 33 := by rw [← e4]; exact x_up_i (by first | decide | omega)
          have b3691 := jB (e := 33) 0 hJ rg_75_33_0_1 (by first | decide | omega) (by first | decide | omega)
          refine x_getC (np := 80) (x := 737) (f := 33) (q := (h 75 33)) (by decide +kernel) (by decide) (by decide +kernel) (((((q3685.trans q3686).trans q3687).trans q3688).trans q3689).trans q3690) (fun l3692 => ?_)
          refine x_ifz (k := 0) (tg := 85) (np := 83) (by decide +kernel) (by decide) l3692 (fun q3693 => ?_) (fun q3694 => ?_)
          · have q3693 : (h 75 33) = 2147483648 := q3693
            refine x_iload (np := 86) (x := 3) (by decide +kernel) rfl l3517 ?_
            refine x_const (np := 87) (x := 9223372043297226753) (a := 2147483649) (by decide +kernel) (by decide) (by decide) ?_
            refine x_icmp (k := 0) (tg := 95) (np := 90) (by decide +kernel) (by decide) l3517 (by decide) (fun q3695 => ?_) (fun q3696 => ?_)
            · have q3695 : v3516 = 2147483649 := q3695
              refine x_aload (np := 96) (x := 0) (by decide +kernel) rfl (x_nc_le (by decide)) ?_
              have q3697 : h3680 75 28 = 94 := by have z := jB (e := 28) 0 j3681 rg_75_28_0_1 (by decide) (by decide); omega
              refine x_getR (np := 99) (x := 732) (f := 28) (q := 94) (by decide +kernel) (by decide) (by decide +kernel) q3697 ?_
              refine x_iload (np := 100) (x := 2) (by decide +kernel) rfl (by decide) ?_
              refine x_const (np := 101) (x := 9223372034707292159) (a := 2147483647) (by decide +kernel) (by decide) (by decide) ?_
              refine x_ast (np := 102) (x := 0) (kd := 1) (n := 6) (i := 3) (by decide +kernel) (Or.inl rfl) (by decide +kernel) (by first | decide | omega) (by first | decide | omega) (by decide) (by decide) (fun z => absurd z (by decide)) ?_
              have j3699 := jU (e := 3) (v := 2147483647) 3 j3681 rg_94_0_1_6 (by first | decide | omega) (by first | decide | omega) (by first | decide | omega)
              have f3701 := jF (e := 3) (v := 2147483647) 3 f3683 rg_94_0_1_6 (by first | decide | omega) (by first | decide | omega) (by decide)
              have f3702 := jF (e := 3) (v := 2147483647) 3 f3684 rg_94_0_1_6 (by first | decide | omega) (by first | decide | omega) (by decide)
              generalize e3700 : x_up h3680 94 3 2147483647 = h3698 at j3699 f3701 f3702 ⊢
              refine x_aload (np := 103) (x := 0) (by decide +kernel) rfl (x_nc_le (by decide)) ?_
              have q3703 : h3698 75 27 = 93 := by have z := jB (e := 27) 0 j3699 rg_75_27_0_1 (by decide) (by decide); omega
              refine x_getR (np := 106) (x := 731) (f := 27) (q := 93) (by decide +kernel) (by decide) (by decide +kernel) q3703 ?_
              refine x_iload (np := 107) (x := 2) (by decide +kernel) rfl (by decide) ?_
              have q3704 : h3698 93 3 = h3680 93 3 := by rw [← e3700]; exact x_up_k (by decide)
              have q3705 : h3680 93 3 = h3669 93 3 := by rw [← e3682]; exact x_up_k (by decide)
              have q3706 : h3669 93 3 = h3519 93 3 := jK 3 f3671 rg_93_0_1_6 (by first | decide | omega) (by first | decide | omega) (by decide)
              have b3707 := jB (e := 3) 3 j3520 rg_93_0_1_6 (by first | decide | omega) (by first | decide | omega)
              refine x_aldC (np := 108) (x := 0) (n := 6) (i := 3) (q := (h3519 93 3)) (by decide +kernel) (by decide +kernel) (by first | decide | omega) (by first | decide | omega) (by decide) ((q3704.trans q3705).trans q3706) (fun l3708 => ?_)
              refine x_ifz (k := 2) (tg := 122) (np := 111) (by decide +kernel) (by decide) l3708 (fun q3709 => ?_) (fun q3710 => ?_)
              · have q3709 : (h3519 93 3) < 2147483648 := q3709
                refine x_aload (np := 123) (x := 0) (by decide +kernel) rfl (x_nc_le (by decide)) ?_
                have q3711 : h3698 75 28 = 94 := by have z := jB (e := 28) 0 j3699 rg_75_28_0_1 (by decide) (by decide); omega
                refine x_getR (np := 126) (x := 732) (f := 28) (q := 94) (by decide +kernel) (by decide) (by decide +kernel) q3711 ?_
                refine x_iload (np := 127) (x := 2) (by decide +kernel) rfl (by decide) ?_
                have q3712 : h3698 94 3 = 2147483647 := by rw [← e3700]; exact x_up_at
                refine x_aldC (np := 128) (x := 0) (n := 6) (i := 3) (q := 2147483647) (by decide +kernel) (by decide +kernel) (by first | decide | omega) (by first | decide | omega) (by decide) q3712 (fun l3713 => ?_)
                refine x_ifz (k := 3) (tg := 135) (np := 131) (by decide +kernel) (by decide) (by decide) (fun q3714 => ?_) (fun q3715 => ?_)
                · have q3714 : 2147483648 ≤ 2147483647 := q3714
                  exfalso; omega
                have q3715 : ¬ (2147483648 ≤ 2147483647) := q3715
                refine x_const (np := 132) (x := 9223372034707292159) (a := 2147483647) (by decide +kernel) (by decide) (by decide) ?_
                refine x_goto (np := 135) (x := 140) (by decide +kernel) ?_
                refine x_istore (np := 142) (x := 5) (lo' := [x_r 75, iv_c 2147483651, iv_c 2147483651, iv_c v3516, iv_c 2147483649, iv_c 2147483647]) (by decide +kernel) (by decide) (Nat.le_of_ble_eq_true rfl) rfl ?_
                refine x_iload (np := 144) (x := 5) (by decide +kernel) rfl (by decide) ?_
                refine x_ifz (k := 2) (tg := 151) (np := 147) (by decide +kernel) (by decide) (by decide) (fun q3716 => ?_) (fun q3717 => ?_)
                · have q3716 : 2147483647 < 2147483648 := q3716
                  refine x_const (np := 152) (x := 9223372039002259456) (a := 2147483648) (by decide +kernel) (by decide) (by decide) ?_
                  refine x_istore (np := 154) (x := 4) (lo' := [x_r 75, iv_c 2147483651, iv_c 2147483651, iv_c v3516, iv_c 2147483648, iv_c 2147483647]) (by decide +kernel) (by decide) (Nat.le_of_ble_eq_true rfl) rfl ?_
                  refine x_iload (np := 156) (x := 4) (by decide +kernel) rfl (by decide) ?_
                  refine x_ifz (k := 0) (tg := 180) (np := 159) (by decide +kernel) (by decide) (by decide) (fun q3718 => ?_) (fun q3719 => ?_)
                  · have q3718 : 2147483648 = 2147483648 := q3718
                    refine x_iinc (np := 183) (i := 2) (j := 2147483647) (v := 2147483650) (lo' := [x_r 75, iv_c 2147483651, iv_c 2147483650, iv_c v3516, iv_c 2147483648, iv_c 2147483647]) (by decide +kernel) (by decide) (by decide) rfl (by decide) (by first | decide | omega) (by first | decide | omega) rfl ?_
                    refine x_goto (np := 186) (x := 12) (by decide +kernel) ?_
                    have q3720 : h3698 75 30 = h3680 75 30 := by rw [← e3700]; exact x_up_k (by decide)
                    have q3721 : h3680 75 30 = h3669 75 30 := by rw [← e3682]; exact x_up_i (by first | decide | omega)
                    have q3722 : h3669 75 30 = h3519 75 30 := jK 0 f3671 rg_75_30_0_1 (by first | decide | omega) (by first | decide | omega) (by decide)
                    have q3723 : h3519 75 30 = h3507 75 30 := jK 0 f3521 rg_75_30_0_1 (by first | decide | omega) (by first | decide | omega) (by decide)
                    have q3724 : h3507 75 30 = (1 + (h2516 75 30)) := by rw [← e3509]; exact x_up_at
                    exact i2551 (iv_c v3516) (iv_c 2147483647) h3698 (by first | decide | omega) j3699 f3702 (by first | decide | omega)
                  have q3719 : ¬ (2147483648 = 2147483648) := q3719
                  exfalso; omega
                have q3717 : ¬ (2147483647 < 2147483648) := q3717
                exfalso; omega
              have q3710 : ¬ ((h3519 93 3) < 2147483648) := q3710
              refine x_aload (np := 112) (x := 0) (by decide +kernel) rfl (x_nc_le (by decide)) ?_
              refine x_aload (np := 113) (x := 0) (by decide +kernel) rfl (x_nc_le (by decide)) ?_
              have q3725 : h3698 75 27 = 93 := by have z := jB (e := 27) 0 j3699 rg_75_27_0_1 (by decide) (by decide); omega
              refine x_getR (np := 116) (x := 731) (f := 27) (q := 93) (by decide +kernel) (by decide) (by decide +kernel) q3725 ?_
              refine x_iload (np := 117) (x := 2) (by decide +kernel) rfl (by decide) ?_
              have q3726 : h3698 93 3 = h3680 93 3 := by rw [← e3700]; exact x_up_k (by decide)
              have q3727 : h3680 93 3 = h3669 93 3 := by rw [← e3682]; exact x_up_k (by decide)
              have q3728 : h3669 93 3 = h3519 93 3 := jK 3 f3671 rg_93_0_1_6 (by first | decide | omega) (by first | decide | omega) (by decide)
              refine x_aldC (np := 118) (x := 0) (n := 6) (i := 3) (q := (h3519 93 3)) (by decide +kernel) (by decide +kernel) (by first | decide | omega) (by first | decide | omega) (by decide) ((q3726.trans q3727).trans q3728) (fun l3729 => ?_)
              refine x_const (np := 119) (x := 9223372039002259456) (a := 2147483648) (by decide +kernel) (by decide) (by decide) ?_
              refine x_cV (t := 6) (mj := 248) (n := 3) (rc := 12) (ml := 4) (nr := 0) (np := 122) (as := [x_r 75, iv_c (h3519 93 3), iv_c 2147483648]) (rest := []) (lo1 := [x_r 75, iv_c (h3519 93 3), iv_c 2147483648, 147573952589676412928]) (by decide +kernel) (by decide) (by decide +kernel) (x_rb_of (by decide +kernel)) rfl rfl (x_wr (by decide) (x_wi l3708 (x_wi (by decide) x_wn))) x_wn (by decide) rfl (c248_75 j3699  (by first | decide | omega) (by first | decide | omega)) (fun h3733 q3732 => ?_)
              obtain ⟨j3734, f3735⟩ := q3732
              have f3738 := Fr.trans f3701 f3735 (by decide)
              have f3739 := Fr.trans f3702 f3735 (by decide)
              refine x_aload (np := 123) (x := 0) (by decide +kernel) rfl (x_nc_le (by decide)) ?_
              have q3740 : h3733 75 28 = 94 := by have z := jB (e := 28) 0 j3734 rg_75_28_0_1 (by decide) (by decide); omega
              refine x_getR (np := 126) (x := 732) (f := 28) (q := 94) (by decide +kernel) (by decide) (by decide +kernel) q3740 ?_
              refine x_iload (np := 127) (x := 2) (by decide +kernel) rfl (by decide) ?_
              have q3741 : h3733 94 3 = h3698 94 3 := jK 3 f3735 rg_94_0_1_6 (by first | decide | omega) (by first | decide | omega) (by decide)
              have q3742 : h3698 94 3 = 2147483647 := by rw [← e3700]; exact x_up_at
              refine x_aldC (np := 128) (x := 0) (n := 6) (i := 3) (q := 2147483647) (by decide +kernel) (by decide +kernel) (by first | decide | omega) (by first | decide | omega) (by decide) (q3741.trans q3742) (fun l3743 => ?_)
              refine x_ifz (k := 3) (tg := 135) (np := 131) (by decide +kernel) (by decide) (by decide) (fun q3744 => ?_) (fun q3745 => ?_)
              · have q3744 : 2147483648 ≤ 2147483647 := q3744
                exfalso; omega
              have q3745 : ¬ (2147483648 ≤ 2147483647) := q3745
              refine x_const (np := 132) (x := 9223372034707292159) (a := 2147483647) (by decide +kernel) (by decide) (by decide) ?_
              refine x_goto (np := 135) (x := 140) (by decide +kernel) ?_
              refine x_istore (np := 142) (x := 5) (lo' := [x_r 75, iv_c 2147483651, iv_c 2147483651, iv_c v3516, iv_c 2147483649, iv_c 2147483647]) (by decide +kernel) (by decide) (Nat.le_of_ble_eq_true rfl) rfl ?_
              refine x_iload (np := 144) (x := 5) (by decide +kernel) rfl (by decide) ?_
              refine x_ifz (k := 2) (tg := 151) (np := 147) (by decide +kernel) (by decide) (by decide) (fun q3746 => ?_) (fun q3747 => ?_)
              · have q3746 : 2147483647 < 2147483648 := q3746
                refine x_const (np := 152) (x := 9223372039002259456) (a := 2147483648) (by decide +kernel) (by decide) (by decide) ?_
                refine x_istore (np := 154) (x := 4) (lo' := [x_r 75, iv_c 2147483651, iv_c 2147483651, iv_c v3516, iv_c 2147483648, iv_c 2147483647]) (by decide +kernel) (by decide) (Nat.le_of_ble_eq_true rfl) rfl ?_
                refine x_iload (np := 156) (x := 4) (by decide +kernel) rfl (by decide) ?_
                refine x_ifz (k := 0) (tg := 180) (np := 159) (by decide +kernel) (by decide) (by decide) (fun q3748 => ?_) (fun q3749 => ?_)
                · have q3748 : 2147483648 = 2147483648 := q3748
                  refine x_iinc (np := 183) (i := 2) (j := 2147483647) (v := 2147483650) (lo' := [x_r 75, iv_c 2147483651, iv_c 2147483650, iv_c v3516, iv_c 2147483648, iv_c 2147483647]) (by decide +kernel) (by decide) (by decide) rfl (by decide) (by first | decide | omega) (by first | decide | omega) rfl ?_
                  refine x_goto (np := 186) (x := 12) (by decide +kernel) ?_
                  have q3750 : h3733 75 30 = h3698 75 30 := jK 0 f3735 rg_75_30_0_1 (by first | decide | omega) (by first | decide | omega) (by decide)
                  have q3751 : h3698 75 30 = h3680 75 30 := by rw [← e3700]; exact x_up_k (by decide)
                  have q3752 : h3680 75 30 = h3669 75 30 := by rw [← e3682]; exact x_up_i (by first | decide | omega)
                  have q3753 : h3669 75 30 = h3519 75 30 := jK 0 f3671 rg_75_30_0_1 (by first | decide | omega) (by first | decide | omega) (by decide)
                  have q3754 : h3519 75 30 = h3507 75 30 := jK 0 f3521 rg_75_30_0_1 (by first | decide | omega) (by first | decide | omega) (by decide)
                  have q3755 : h3507 75 30 = (1 + (h2516 75 30)) := by rw [← e3509]; exact x_up_at
                  exact i2551 (iv_c v3516) (iv_c 2147483647) h3733 (by first | decide | omega) j3734 f3739 (by first | decide | omega)
                have q3749 : ¬ (2147483648 = 2147483648) := q3749
                exfalso; omega
              have q3747 : ¬ (2147483647 < 2147483648) := q3747
              exfalso; omega
            have q3696 : ¬ (v3516 = 2147483649) := q3696
            exfalso; omega
          have q3694 : ¬ ((h 75 33) = 2147483648) := q3694
          refine x_const (np := 84) (x := 9223372043297226753) (a := 2147483649) (by decide +kernel) (by decide) (by decide) ?_
          have q3756 : h3680 75 30 = h3669 75 30 := by rw [← e3682]; exact x_up_i (by first | decide | omega)
          have q3757 : h3669 75 30 = h3519 75 30 := jK 0 f3671 rg_75_30_0_1 (by first | decide | omega) (by first | decide | omega) (by decide)
          have q3758 : h3519 75 30 = h3507 75 30 := jK 0 f3521 rg_75_30_0_1 (by first | decide | omega) (by first | decide | omega) (by decide)
          have q3759 : h3507 75 30 = (1 + (h2516 75 30)) := by rw [← e3509]; exact x_up_at
          refine x_retI (np := 85) (x := 0) (by decide +kernel) (by decide) (Or.inr ⟨by decide +kernel, by first | decide | omega, by first | decide | omega⟩) ⟨_, rfl, (by decide), ?_⟩
          exact ⟨j3681, f3683, (by first | decide | omega), (fun z => by first | decide | omega)⟩
        have q3515 : ¬ ((1 + (h2516 75 30)) ≤ 2147503648) := q3515
        refine x_const (np := 42) (x := 9223372039002259456) (a := 2147483648) (by decide +kernel) (by decide) (by decide) ?_
        have q3760 : h3507 75 30 = (1 + (h2516 75 30)) := by rw [← e3509]; exact x_up_at
        refine x_retI (np := 43) (x := 0) (by decide +kernel) (by decide) (Or.inr ⟨by decide +kernel, by first | decide | omega, by first | decide | omega⟩) ⟨_, rfl, (by decide), ?_⟩
        exact ⟨j3508, f3510, (by first | decide | omega), (fun z => by first | decide | omega)⟩
      · intro w2520 w2521 h2522 q3761 j2525 f2524 b2523
        have f3762 := Fr.trans f5 f2524 (by decide)
        refine x_iload (np := 13) (x := 2) (by decide +kernel) rfl (by decide) ?_
        refine x_ifz (k := 2) (tg := 186) (np := 16) (by decide +kernel) (by decide) (by decide) (fun q3763 => ?_) (fun q3764 => ?_)
        · have q3763 : 2147483647 < 2147483648 := q3763
          refine x_const (np := 187) (x := 9223372043297226753) (a := 2147483649) (by decide +kernel) (by decide) (by decide) ?_
          refine x_retI (np := 188) (x := 0) (by decide +kernel) (by decide) (Or.inr ⟨by decide +kernel, by first | decide | omega, by first | decide | omega⟩) ⟨_, rfl, (by decide), ?_⟩
          exact ⟨j2525, f3762, (by first | decide | omega), (fun z => by first | decide | omega)⟩
        have q3764 : ¬ (2147483647 < 2147483648) := q3764
        exfalso; omega
      · intro w2526 w2527 h2528 q3765 j2531 f2530 b2529
        have f3766 := Fr.trans f5 f2530 (by decide)
        refine x_iload (np := 13) (x := 2) (by decide +kernel) rfl (by decide) ?_
        refine x_ifz (k := 2) (tg := 186) (np := 16) (by decide +kernel) (by decide) (by decide) (fun q3767 => ?_) (fun q3768 => ?_)
        · have q3767 : 2147483648 < 2147483648 := q3767
          exfalso; omega
        have q3768 : ¬ (2147483648 < 2147483648) := q3768
        refine x_iload (np := 18) (x := 4) (by decide +kernel) rfl (by decide) ?_
        refine x_ifz (k := 0) (tg := 102) (np := 21) (by decide +kernel) (by decide) (by decide) (fun q3769 => ?_) (fun q3770 => ?_)
        · have q3769 : 2147483648 = 2147483648 := q3769
          refine x_aload (np := 103) (x := 0) (by decide +kernel) rfl (x_nc_le (by decide)) ?_
          have q3771 : h2528 75 27 = 93 := by have z := jB (e := 27) 0 j2531 rg_75_27_0_1 (by decide) (by decide); omega
          refine x_getR (np := 106) (x := 731) (f := 27) (q := 93) (by decide +kernel) (by decide) (by decide +kernel) q3771 ?_
          refine x_iload (np := 107) (x := 2) (by decide +kernel) rfl (by decide) ?_
          have b3772 := jB (e := 0) 0 j2531 rg_93_0_1_6 (by first | decide | omega) (by first | decide | omega)
          refine x_aldC (np := 108) (x := 0) (n := 6) (i := 0) (q := (h2528 93 0)) (by decide +kernel) (by decide +kernel) (by first | decide | omega) (by first | decide | omega) (by decide) rfl (fun l3773 => ?_)
          refine x_ifz (k := 2) (tg := 122) (np := 111) (by decide +kernel) (by decide) l3773 (fun q3774 => ?_) (fun q3775 => ?_)
          · have q3774 : (h2528 93 0) < 2147483648 := q3774
            refine x_aload (np := 123) (x := 0) (by decide +kernel) rfl (x_nc_le (by decide)) ?_
            have q3776 : h2528 75 28 = 94 := by have z := jB (e := 28) 0 j2531 rg_75_28_0_1 (by decide) (by decide); omega
            refine x_getR (np := 126) (x := 732) (f := 28) (q := 94) (by decide +kernel) (by decide) (by decide +kernel) q3776 ?_
            refine x_iload (np := 127) (x := 2) (by decide +kernel) rfl (by decide) ?_
            have b3777 := jB (e := 0) 0 j2531 rg_94_0_1_6 (by first | decide | omega) (by first | decide | omega)
            refine x_aldC (np := 128) (x := 0) (n := 6) (i := 0) (q := (h2528 94 0)) (by decide +kernel) (by decide +kernel) (by first | decide | omega) (by first | decide | omega) (by decide) rfl (fun l3778 => ?_)
            refine x_ifz (k := 3) (tg := 135) (np := 131) (by decide +kernel) (by decide) l3778 (fun q3779 => ?_) (fun q3780 => ?_)
            · have q3779 : 2147483648 ≤ (h2528 94 0) := q3779
              refine x_aload (np := 136) (x := 0) (by decide +kernel) rfl (x_nc_le (by decide)) ?_
              refine x_iload (np := 137) (x := 2) (by decide +kernel) rfl (by decide) ?_
              refine x_cP (t := 6) (mj := 257) (n := 2) (rc := 12) (ml := 3) (nr := 0) (np := 140) (as := [x_r 75, iv_c 2147483648]) (rest := []) (lo1 := [x_r 75, iv_c 2147483648, 147573952589676412928]) (by decide +kernel) (by decide) (by decide +kernel) (x_rb_of (by decide +kernel)) rfl rfl (x_wr (by decide) (x_wi (by decide) x_wn)) x_wn (by decide) rfl (c257_75_c0 j2531   (by first | decide | omega)) (fun v3781 l3782 q3783 => ?_)
              refine x_istore (np := 142) (x := 5) (lo' := [x_r 75, iv_c 2147483651, iv_c 2147483648, w2526, iv_c 2147483648, iv_c v3781]) (by decide +kernel) l3782 (Nat.le_of_ble_eq_true rfl) rfl ?_
              refine x_iload (np := 144) (x := 5) (by decide +kernel) rfl l3782 ?_
              refine x_ifz (k := 2) (tg := 151) (np := 147) (by decide +kernel) (by decide) l3782 (fun q3784 => ?_) (fun q3785 => ?_)
              · have q3784 : v3781 < 2147483648 := q3784
                refine x_const (np := 152) (x := 9223372039002259456) (a := 2147483648) (by decide +kernel) (by decide) (by decide) ?_
                refine x_istore (np := 154) (x := 4) (lo' := [x_r 75, iv_c 2147483651, iv_c 2147483648, w2526, iv_c 2147483648, iv_c v3781]) (by decide +kernel) (by decide) (Nat.le_of_ble_eq_true rfl) rfl ?_
                refine x_iload (np := 156) (x := 4) (by decide +kernel) rfl (by decide) ?_
                refine x_ifz (k := 0) (tg := 180) (np := 159) (by decide +kernel) (by decide) (by decide) (fun q3786 => ?_) (fun q3787 => ?_)
                · have q3786 : 2147483648 = 2147483648 := q3786
                  refine x_iinc (np := 183) (i := 2) (j := 2147483647) (v := 2147483647) (lo' := [x_r 75, iv_c 2147483651, iv_c 2147483647, w2526, iv_c 2147483648, iv_c v3781]) (by decide +kernel) (by decide) (by decide) rfl (by decide) (by first | decide | omega) (by first | decide | omega) rfl ?_
                  refine x_goto (np := 186) (x := 12) (by decide +kernel) ?_
                  exact i2548 w2526 (iv_c v3781) h2528 (by first | decide | omega) j2531 f2530 (by first | decide | omega)
                have q3787 : ¬ (2147483648 = 2147483648) := q3787
                exfalso; omega
              have q3785 : ¬ (v3781 < 2147483648) := q3785
              refine x_const (np := 148) (x := 9223372043297226753) (a := 2147483649) (by decide +kernel) (by decide) (by decide) ?_
              refine x_goto (np := 151) (x := 152) (by decide +kernel) ?_
              refine x_istore (np := 154) (x := 4) (lo' := [x_r 75, iv_c 2147483651, iv_c 2147483648, w2526, iv_c 2147483649, iv_c v3781]) (by decide +kernel) (by decide) (Nat.le_of_ble_eq_true rfl) rfl ?_
              refine x_iload (np := 156) (x := 4) (by decide +kernel) rfl (by decide) ?_
              refine x_ifz (k := 0) (tg := 180) (np := 159) (by decide +kernel) (by decide) (by decide) (fun q3788 => ?_) (fun q3789 => ?_)
              · have q3788 : 2147483649 = 2147483648 := q3788
                exfalso; omega
              have q3789 : ¬ (2147483649 = 2147483648) := q3789
              refine x_aload (np := 160) (x := 0) (by decide +kernel) rfl (x_nc_le (by decide)) ?_
              have q3790 : h2528 75 27 = 93 := by have z := jB (e := 27) 0 j2531 rg_75_27_0_1 (by decide) (by decide); omega
              refine x_getR (np := 163) (x := 731) (f := 27) (q := 93) (by decide +kernel) (by decide) (by decide +kernel) q3790 ?_
              refine x_iload (np := 164) (x := 2) (by decide +kernel) rfl (by decide) ?_
              refine x_iload (np := 166) (x := 5) (by decide +kernel) rfl l3782 ?_
              refine x_ast (np := 167) (x := 0) (kd := 1) (n := 6) (i := 0) (by decide +kernel) (Or.inl rfl) (by decide +kernel) (by first | decide | omega) (by first | decide | omega) (by decide) l3782 (fun z => absurd z (by decide)) ?_
              have j3792 := jU (e := 0) (v := v3781) 0 j2531 rg_93_0_1_6 (by first | decide | omega) (by first | decide | omega) (by first | decide | omega)
              have f3794 := jF (e := 0) (v := v3781) 0 f3766 rg_93_0_1_6 (by first | decide | omega) (by first | decide | omega) (by decide)
              have f3795 := jF (e := 0) (v := v3781) 0 f2530 rg_93_0_1_6 (by first | decide | omega) (by first | decide | omega) (by decide)
              generalize e3793 : x_up h2528 93 0 v3781 = h3791 at j3792 f3794 f3795 ⊢
              refine x_aload (np := 168) (x := 0) (by decide +kernel) rfl (x_nc_le (by decide)) ?_
              refine x_iload (np := 170) (x := 5) (by decide +kernel) rfl l3782 ?_
              refine x_const (np := 171) (x := 9223372043297226753) (a := 2147483649) (by decide +kernel) (by decide) (by decide) ?_
              refine x_cV (t := 6) (mj := 248) (n := 3) (rc := 12) (ml := 4) (nr := 0) (np := 174) (as := [x_r 75, iv_c v3781, iv_c 2147483649]) (rest := []) (lo1 := [x_r 75, iv_c v3781, iv_c 2147483649, 147573952589676412928]) (by decide +kernel) (by decide) (by decide +kernel) (x_rb_of (by decide +kernel)) rfl rfl (x_wr (by decide) (x_wi l3782 (x_wi (by decide) x_wn))) x_wn (by decide) rfl (c248_75 j3792  (by first | decide | omega) (by first | decide | omega)) (fun h3799 q3798 => ?_)
              obtain ⟨j3800, f3801⟩ := q3798
              have f3804 := Fr.trans f3794 f3801 (by decide)
              have f3805 := Fr.trans f3795 f3801 (by decide)
              refine x_iinc (np := 177) (i := 2) (j := 2147483649) (v := 2147483649) (lo' := [x_r 75, iv_c 2147483651, iv_c 2147483649, w2526, iv_c 2147483649, iv_c v3781]) (by decide +kernel) (by decide) (by decide) rfl (by decide) (by first | decide | omega) (by first | decide | omega) rfl ?_
              refine x_goto (np := 180) (x := 183) (by decide +kernel) ?_
              refine x_goto (np := 186) (x := 12) (by decide +kernel) ?_
              have q3806 : h3799 75 30 = h3791 75 30 := jK 0 f3801 rg_75_30_0_1 (by first | decide | omega) (by first | decide | omega) (by decide)
              have q3807 : h3791 75 30 = h2528 75 30 := by rw [← e3793]; exact x_up_k (by decide)
              exact i2545 w2526 (iv_c v3781) h3799 (by first | decide | omega) j3800 f3805 (by first | decide | omega)
            have q3780 : ¬ (2147483648 ≤ (h2528 94 0)) := q3780
            refine x_const (np := 132) (x := 9223372034707292159) (a := 2147483647) (by decide +kernel) (by decide) (by decide) ?_
            refine x_goto (np := 135) (x := 140) (by decide +kernel) ?_
            refine x_istore (np := 142) (x := 5) (lo' := [x_r 75, iv_c 2147483651, iv_c 2147483648, w2526, iv_c 2147483648, iv_c 2147483647]) (by decide +kernel) (by decide) (Nat.le_of_ble_eq_true rfl) rfl ?_
            refine x_iload (np := 144) (x := 5) (by decide +kernel) rfl (by decide) ?_
            refine x_ifz (k := 2) (tg := 151) (np := 147) (by decide +kernel) (by decide) (by decide) (fun q3808 => ?_) (fun q3809 => ?_)
            · have q3808 : 2147483647 < 2147483648 := q3808
              refine x_const (np := 152) (x := 9223372039002259456) (a := 2147483648) (by decide +kernel) (by decide) (by decide) ?_
              refine x_istore (np := 154) (x := 4) (lo' := [x_r 75, iv_c 2147483651, iv_c 2147483648, w2526, iv_c 2147483648, iv_c 2147483647]) (by decide +kernel) (by decide) (Nat.le_of_ble_eq_true rfl) rfl ?_
              refine x_iload (np := 156) (x := 4) (by decide +kernel) rfl (by decide) ?_
              refine x_ifz (k := 0) (tg := 180) (np := 159) (by decide +kernel) (by decide) (by decide) (fun q3810 => ?_) (fun q3811 => ?_)
              · have q3810 : 2147483648 = 2147483648 := q3810
                refine x_iinc (np := 183) (i := 2) (j := 2147483647) (v := 2147483647) (lo' := [x_r 75, iv_c 2147483651, iv_c 2147483647, w2526, iv_c 2147483648, iv_c 2147483647]) (by decide +kernel) (by decide) (by decide) rfl (by decide) (by first | decide | omega) (by first | decide | omega) rfl ?_
                refine x_goto (np := 186) (x := 12) (by decide +kernel) ?_
                exact i2548 w2526 (iv_c 2147483647) h2528 (by first | decide | omega) j2531 f2530 (by first | decide | omega)
              have q3811 : ¬ (2147483648 = 2147483648) := q3811
              exfalso; omega
            have q3809 : ¬ (2147483647 < 2147483648) := q3809
            exfalso; omega
          have q3775 : ¬ ((h2528 93 0) < 2147483648) := q3775
          refine x_aload (np := 112) (x := 0) (by decide +kernel) rfl (x_nc_le (by decide)) ?_
          refine x_aload (np := 113) (x := 0) (by decide +kernel) rfl (x_nc_le (by decide)) ?_
          have q3812 : h2528 75 27 = 93 := by have z := jB (e := 27) 0 j2531 rg_75_27_0_1 (by decide) (by decide); omega
          refine x_getR (np := 116) (x := 731) (f := 27) (q := 93) (by decide +kernel) (by decide) (by decide +kernel) q3812 ?_
          refine x_iload (np := 117) (x := 2) (by decide +kernel) rfl (by decide) ?_
          refine x_aldC (np := 118) (x := 0) (n := 6) (i := 0) (q := (h2528 93 0)) (by decide +kernel) (by decide +kernel) (by first | decide | omega) (by first | decide | omega) (by decide) rfl (fun l3813 => ?_)
          refine x_const (np := 119) (x := 9223372039002259456) (a := 2147483648) (by decide +kernel) (by decide) (by decide) ?_
          refine x_cV (t := 6) (mj := 248) (n := 3) (rc := 12) (ml := 4) (nr := 0) (np := 122) (as := [x_r 75, iv_c (h2528 93 0), iv_c 2147483648]) (rest := []) (lo1 := [x_r 75, iv_c (h2528 93 0), iv_c 2147483648, 147573952589676412928]) (by decide +kernel) (by decide) (by decide +kernel) (x_rb_of (by decide +kernel)) rfl rfl (x_wr (by decide) (x_wi l3773 (x_wi (by decide) x_wn))) x_wn (by decide) rfl (c248_75 j2531  (by first | decide | omega) (by first | decide | omega)) (fun h3817 q3816 => ?_)
          obtain ⟨j3818, f3819⟩ := q3816
          have f3822 := Fr.trans f3766 f3819 (by decide)
          have f3823 := Fr.trans f2530 f3819 (by decide)
          refine x_aload (np := 123) (x := 0) (by decide +kernel) rfl (x_nc_le (by decide)) ?_
          have q3824 : h3817 75 28 = 94 := by have z := jB (e := 28) 0 j3818 rg_75_28_0_1 (by decide) (by decide); omega
          refine x_getR (np := 126) (x := 732) (f := 28) (q := 94) (by decide +kernel) (by decide) (by decide +kernel) q3824 ?_
          refine x_iload (np := 127) (x := 2) (by decide +kernel) rfl (by decide) ?_
          have q3825 : h3817 94 0 = h2528 94 0 := jK 0 f3819 rg_94_0_1_6 (by first | decide | omega) (by first | decide | omega) (by decide)
          have b3826 := jB (e := 0) 0 j2531 rg_94_0_1_6 (by first | decide | omega) (by first | decide | omega)
          refine x_aldC (np := 128) (x := 0) (n := 6) (i := 0) (q := (h2528 94 0)) (by decide +kernel) (by decide +kernel) (by first | decide | omega) (by first | decide | omega) (by decide) q3825 (fun l3827 => ?_)
          refine x_ifz (k := 3) (tg := 135) (np := 131) (by decide +kernel) (by decide) l3827 (fun q3828 => ?_) (fun q3829 => ?_)
          · have q3828 : 2147483648 ≤ (h2528 94 0) := q3828
            refine x_aload (np := 136) (x := 0) (by decide +kernel) rfl (x_nc_le (by decide)) ?_
            refine x_iload (np := 137) (x := 2) (by decide +kernel) rfl (by decide) ?_
            have q3830 : h3817 94 0 = h2528 94 0 := jK 0 f3819 rg_94_0_1_6 (by first | decide | omega) (by first | decide | omega) (by decide)
            refine x_cP (t := 6) (mj := 257) (n := 2) (rc := 12) (ml := 3) (nr := 0) (np := 140) (as := [x_r 75, iv_c 2147483648]) (rest := []) (lo1 := [x_r 75, iv_c 2147483648, 147573952589676412928]) (by decide +kernel) (by decide) (by decide +kernel) (x_rb_of (by decide +kernel)) rfl rfl (x_wr (by decide) (x_wi (by decide) x_wn)) x_wn (by decide) rfl (c257_75_c0 j3818   (by first | decide | omega)) (fun v3831 l3832 q3833 => ?_)
            refine x_istore (np := 142) (x := 5) (lo' := [x_r 75, iv_c 2147483651, iv_c 2147483648, w2526, iv_c 2147483648, iv_c v3831]) (by decide +kernel) l3832 (Nat.le_of_ble_eq_true rfl) rfl ?_
            refine x_iload (np := 144) (x := 5) (by decide +kernel) rfl l3832 ?_
            refine x_ifz (k := 2) (tg := 151) (np := 147) (by decide +kernel) (by decide) l3832 (fun q3834 => ?_) (fun q3835 => ?_)
            · have q3834 : v3831 < 2147483648 := q3834
              refine x_const (np := 152) (x := 9223372039002259456) (a := 2147483648) (by decide +kernel) (by decide) (by decide) ?_
              refine x_istore (np := 154) (x := 4) (lo' := [x_r 75, iv_c 2147483651, iv_c 2147483648, w2526, iv_c 2147483648, iv_c v3831]) (by decide +kernel) (by decide) (Nat.le_of_ble_eq_true rfl) rfl ?_
              refine x_iload (np := 156) (x := 4) (by decide +kernel) rfl (by decide) ?_
              refine x_ifz (k := 0) (tg := 180) (np := 159) (by decide +kernel) (by decide) (by decide) (fun q3836 => ?_) (fun q3837 => ?_)
              · have q3836 : 2147483648 = 2147483648 := q3836
                refine x_iinc (np := 183) (i := 2) (j := 2147483647) (v := 2147483647) (lo' := [x_r 75, iv_c 2147483651, iv_c 2147483647, w2526, iv_c 2147483648, iv_c v3831]) (by decide +kernel) (by decide) (by decide) rfl (by decide) (by first | decide | omega) (by first | decide | omega) rfl ?_
                refine x_goto (np := 186) (x := 12) (by decide +kernel) ?_
                have q3838 : h3817 75 30 = h2528 75 30 := jK 0 f3819 rg_75_30_0_1 (by first | decide | omega) (by first | decide | omega) (by decide)
                exact i2548 w2526 (iv_c v3831) h3817 (by first | decide | omega) j3818 f3823 (by first | decide | omega)
              have q3837 : ¬ (2147483648 = 2147483648) := q3837
              exfalso; omega
            have q3835 : ¬ (v3831 < 2147483648) := q3835
            refine x_const (np := 148) (x := 9223372043297226753) (a := 2147483649) (by decide +kernel) (by decide) (by decide) ?_
            refine x_goto (np := 151) (x := 152) (by decide +kernel) ?_
            refine x_istore (np := 154) (x := 4) (lo' := [x_r 75, iv_c 2147483651, iv_c 2147483648, w2526, iv_c 2147483649, iv_c v3831]) (by decide +kernel) (by decide) (Nat.le_of_ble_eq_true rfl) rfl ?_
            refine x_iload (np := 156) (x := 4) (by decide +kernel) rfl (by decide) ?_
            refine x_ifz (k := 0) (tg := 180) (np := 159) (by decide +kernel) (by decide) (by decide) (fun q3839 => ?_) (fun q3840 => ?_)
            · have q3839 : 2147483649 = 2147483648 := q3839
              exfalso; omega
            have q3840 : ¬ (2147483649 = 2147483648) := q3840
            refine x_aload (np := 160) (x := 0) (by decide +kernel) rfl (x_nc_le (by decide)) ?_
            have q3841 : h3817 75 27 = 93 := by have z := jB (e := 27) 0 j3818 rg_75_27_0_1 (by decide) (by decide); omega
            refine x_getR (np := 163) (x := 731) (f := 27) (q := 93) (by decide +kernel) (by decide) (by decide +kernel) q3841 ?_
            refine x_iload (np := 164) (x := 2) (by decide +kernel) rfl (by decide) ?_
            refine x_iload (np := 166) (x := 5) (by decide +kernel) rfl l3832 ?_
            refine x_ast (np := 167) (x := 0) (kd := 1) (n := 6) (i := 0) (by decide +kernel) (Or.inl rfl) (by decide +kernel) (by first | decide | omega) (by first | decide | omega) (by decide) l3832 (fun z => absurd z (by decide)) ?_
            have j3843 := jU (e := 0) (v := v3831) 0 j3818 rg_93_0_1_6 (by first | decide | omega) (by first | decide | omega) (by first | decide | omega)
            have f3845 := jF (e := 0) (v := v3831) 0 f3822 rg_93_0_1_6 (by first | decide | omega) (by first | decide | omega) (by decide)
            have f3846 := jF (e := 0) (v := v3831) 0 f3823 rg_93_0_1_6 (by first | decide | omega) (by first | decide | omega) (by decide)
            generalize e3844 : x_up h3817 93 0 v3831 = h3842 at j3843 f3845 f3846 ⊢
            refine x_aload (np := 168) (x := 0) (by decide +kernel) rfl (x_nc_le (by decide)) ?_
            refine x_iload (np := 170) (x := 5) (by decide +kernel) rfl l3832 ?_
            refine x_const (np := 171) (x := 9223372043297226753) (a := 2147483649) (by decide +kernel) (by decide) (by decide) ?_
            refine x_cV (t := 6) (mj := 248) (n := 3) (rc := 12) (ml := 4) (nr := 0) (np := 174) (as := [x_r 75, iv_c v3831, iv_c 2147483649]) (rest := []) (lo1 := [x_r 75, iv_c v3831, iv_c 2147483649, 147573952589676412928]) (by decide +kernel) (by decide) (by decide +kernel) (x_rb_of (by decide +kernel)) rfl rfl (x_wr (by decide) (x_wi l3832 (x_wi (by decide) x_wn))) x_wn (by decide) rfl (c248_75 j3843  (by first | decide | omega) (by first | decide | omega)) (fun h3850 q3849 => ?_)
            obtain ⟨j3851, f3852⟩ := q3849
            have f3855 := Fr.trans f3845 f3852 (by decide)
            have f3856 := Fr.trans f3846 f3852 (by decide)
            refine x_iinc (np := 177) (i := 2) (j := 2147483649) (v := 2147483649) (lo' := [x_r 75, iv_c 2147483651, iv_c 2147483649, w2526, iv_c 2147483649, iv_c v3831]) (by decide +kernel) (by decide) (by decide) rfl (by decide) (by first | decide | omega) (by first | decide | omega) rfl ?_
            refine x_goto (np := 180) (x := 183) (by decide +kernel) ?_
            refine x_goto (np := 186) (x := 12) (by decide +kernel) ?_
            have q3857 : h3850 75 30 = h3842 75 30 := jK 0 f3852 rg_75_30_0_1 (by first | decide | omega) (by first | decide | omega) (by decide)
            have q3858 : h3842 75 30 = h3817 75 30 := by rw [← e3844]; exact x_up_k (by decide)
            have q3859 : h3817 75 30 = h2528 75 30 := jK 0 f3819 rg_75_30_0_1 (by first | decide | omega) (by first | decide | omega) (by decide)
            exact i2545 w2526 (iv_c v3831) h3850 (by first | decide | omega) j3851 f3856 (by first | decide | omega)
          have q3829 : ¬ (2147483648 ≤ (h2528 94 0)) := q3829
          refine x_const (np := 132) (x := 9223372034707292159) (a := 2147483647) (by decide +kernel) (by decide) (by decide) ?_
          refine x_goto (np := 135) (x := 140) (by decide +kernel) ?_
          refine x_istore (np := 142) (x := 5) (lo' := [x_r 75, iv_c 2147483651, iv_c 2147483648, w2526, iv_c 2147483648, iv_c 2147483647]) (by decide +kernel) (by decide) (Nat.le_of_ble_eq_true rfl) rfl ?_
          refine x_iload (np := 144) (x := 5) (by decide +kernel) rfl (by decide) ?_
          refine x_ifz (k := 2) (tg := 151) (np := 147) (by decide +kernel) (by decide) (by decide) (fun q3860 => ?_) (fun q3861 => ?_)
          · have q3860 : 2147483647 < 2147483648 := q3860
            refine x_const (np := 152) (x := 9223372039002259456) (a := 2147483648) (by decide +kernel) (by decide) (by decide) ?_
            refine x_istore (np := 154) (x := 4) (lo' := [x_r 75, iv_c 2147483651, iv_c 2147483648, w2526, iv_c 2147483648, iv_c 2147483647]) (by decide +kernel) (by decide) (Nat.le_of_ble_eq_true rfl) rfl ?_
            refine x_iload (np := 156) (x := 4) (by decide +kernel) rfl (by decide) ?_
            refine x_ifz (k := 0) (tg := 180) (np := 159) (by decide +kernel) (by decide) (by decide) (fun q3862 => ?_) (fun q3863 => ?_)
            · have q3862 : 2147483648 = 2147483648 := q3862
              refine x_iinc (np := 183) (i := 2) (j := 2147483647) (v := 2147483647) (lo' := [x_r 75, iv_c 2147483651, iv_c 2147483647, w2526, iv_c 2147483648, iv_c 2147483647]) (by decide +kernel) (by decide) (by decide) rfl (by decide) (by first | decide | omega) (by first | decide | omega) rfl ?_
              refine x_goto (np := 186) (x := 12) (by decide +kernel) ?_
              have q3864 : h3817 75 30 = h2528 75 30 := jK 0 f3819 rg_75_30_0_1 (by first | decide | omega) (by first | decide | omega) (by decide)
              exact i2548 w2526 (iv_c 2147483647) h3817 (by first | decide | omega) j3818 f3823 (by first | decide | omega)
            have q3863 : ¬ (2147483648 = 2147483648) := q3863
            exfalso; omega
          have q3861 : ¬ (2147483647 < 2147483648) := q3861
          exfalso; omega
        have q3770 : ¬ (2147483648 = 2147483648) := q3770
        exfalso; omega
      · intro w2532 w2533 h2534 q3865 j2537 f2536 b2535
        have f3866 := Fr.trans f5 f2536 (by decide)
        refine x_iload (np := 13) (x := 2) (by decide +kernel) rfl (by decide) ?_
        refine x_ifz (k := 2) (tg := 186) (np := 16) (by decide +kernel) (by decide) (by decide) (fun q3867 => ?_) (fun q3868 => ?_)
        · have q3867 : 2147483649 < 2147483648 := q3867
          exfalso; omega
        have q3868 : ¬ (2147483649 < 2147483648) := q3868
        refine x_iload (np := 18) (x := 4) (by decide +kernel) rfl (by decide) ?_
        refine x_ifz (k := 0) (tg := 102) (np := 21) (by decide +kernel) (by decide) (by decide) (fun q3869 => ?_) (fun q3870 => ?_)
        · have q3869 : 2147483648 = 2147483648 := q3869
          refine x_aload (np := 103) (x := 0) (by decide +kernel) rfl (x_nc_le (by decide)) ?_
          have q3871 : h2534 75 27 = 93 := by have z := jB (e := 27) 0 j2537 rg_75_27_0_1 (by decide) (by decide); omega
          refine x_getR (np := 106) (x := 731) (f := 27) (q := 93) (by decide +kernel) (by decide) (by decide +kernel) q3871 ?_
          refine x_iload (np := 107) (x := 2) (by decide +kernel) rfl (by decide) ?_
          have b3872 := jB (e := 1) 1 j2537 rg_93_0_1_6 (by first | decide | omega) (by first | decide | omega)
          refine x_aldC (np := 108) (x := 0) (n := 6) (i := 1) (q := (h2534 93 1)) (by decide +kernel) (by decide +kernel) (by first | decide | omega) (by first | decide | omega) (by decide) rfl (fun l3873 => ?_)
          refine x_ifz (k := 2) (tg := 122) (np := 111) (by decide +kernel) (by decide) l3873 (fun q3874 => ?_) (fun q3875 => ?_)
          · have q3874 : (h2534 93 1) < 2147483648 := q3874
            refine x_aload (np := 123) (x := 0) (by decide +kernel) rfl (x_nc_le (by decide)) ?_
            have q3876 : h2534 75 28 = 94 := by have z := jB (e := 28) 0 j2537 rg_75_28_0_1 (by decide) (by decide); omega
            refine x_getR (np := 126) (x := 732) (f := 28) (q := 94) (by decide +kernel) (by decide) (by decide +kernel) q3876 ?_
            refine x_iload (np := 127) (x := 2) (by decide +kernel) rfl (by decide) ?_
            have b3877 := jB (e := 1) 1 j2537 rg_94_0_1_6 (by first | decide | omega) (by first | decide | omega)
            refine x_aldC (np := 128) (x := 0) (n := 6) (i := 1) (q := (h2534 94 1)) (by decide +kernel) (by decide +kernel) (by first | decide | omega) (by first | decide | omega) (by decide) rfl (fun l3878 => ?_)
            refine x_ifz (k := 3) (tg := 135) (np := 131) (by decide +kernel) (by decide) l3878 (fun q3879 => ?_) (fun q3880 => ?_)
            · have q3879 : 2147483648 ≤ (h2534 94 1) := q3879
              refine x_aload (np := 136) (x := 0) (by decide +kernel) rfl (x_nc_le (by decide)) ?_
              refine x_iload (np := 137) (x := 2) (by decide +kernel) rfl (by decide) ?_
              refine x_cP (t := 6) (mj := 257) (n := 2) (rc := 12) (ml := 3) (nr := 0) (np := 140) (as := [x_r 75, iv_c 2147483649]) (rest := []) (lo1 := [x_r 75, iv_c 2147483649, 147573952589676412928]) (by decide +kernel) (by decide) (by decide +kernel) (x_rb_of (by decide +kernel)) rfl rfl (x_wr (by decide) (x_wi (by decide) x_wn)) x_wn (by decide) rfl (c257_75_c1 j2537   (by first | decide | omega)) (fun v3881 l3882 q3883 => ?_)
              refine x_istore (np := 142) (x := 5) (lo' := [x_r 75, iv_c 2147483651, iv_c 2147483649, w2532, iv_c 2147483648, iv_c v3881]) (by decide +kernel) l3882 (Nat.le_of_ble_eq_true rfl) rfl ?_
              refine x_iload (np := 144) (x := 5) (by decide +kernel) rfl l3882 ?_
              refine x_ifz (k := 2) (tg := 151) (np := 147) (by decide +kernel) (by decide) l3882 (fun q3884 => ?_) (fun q3885 => ?_)
              · have q3884 : v3881 < 2147483648 := q3884
                refine x_const (np := 152) (x := 9223372039002259456) (a := 2147483648) (by decide +kernel) (by decide) (by decide) ?_
                refine x_istore (np := 154) (x := 4) (lo' := [x_r 75, iv_c 2147483651, iv_c 2147483649, w2532, iv_c 2147483648, iv_c v3881]) (by decide +kernel) (by decide) (Nat.le_of_ble_eq_true rfl) rfl ?_
                refine x_iload (np := 156) (x := 4) (by decide +kernel) rfl (by decide) ?_
                refine x_ifz (k := 0) (tg := 180) (np := 159) (by decide +kernel) (by decide) (by decide) (fun q3886 => ?_) (fun q3887 => ?_)
                · have q3886 : 2147483648 = 2147483648 := q3886
                  refine x_iinc (np := 183) (i := 2) (j := 2147483647) (v := 2147483648) (lo' := [x_r 75, iv_c 2147483651, iv_c 2147483648, w2532, iv_c 2147483648, iv_c v3881]) (by decide +kernel) (by decide) (by decide) rfl (by decide) (by first | decide | omega) (by first | decide | omega) rfl ?_
                  refine x_goto (np := 186) (x := 12) (by decide +kernel) ?_
                  exact i2549 w2532 (iv_c v3881) h2534 (by first | decide | omega) j2537 f2536 (by first | decide | omega)
                have q3887 : ¬ (2147483648 = 2147483648) := q3887
                exfalso; omega
              have q3885 : ¬ (v3881 < 2147483648) := q3885
              refine x_const (np := 148) (x := 9223372043297226753) (a := 2147483649) (by decide +kernel) (by decide) (by decide) ?_
              refine x_goto (np := 151) (x := 152) (by decide +kernel) ?_
              refine x_istore (np := 154) (x := 4) (lo' := [x_r 75, iv_c 2147483651, iv_c 2147483649, w2532, iv_c 2147483649, iv_c v3881]) (by decide +kernel) (by decide) (Nat.le_of_ble_eq_true rfl) rfl ?_
              refine x_iload (np := 156) (x := 4) (by decide +kernel) rfl (by decide) ?_
              refine x_ifz (k := 0) (tg := 180) (np := 159) (by decide +kernel) (by decide) (by decide) (fun q3888 => ?_) (fun q3889 => ?_)
              · have q3888 : 2147483649 = 2147483648 := q3888
                exfalso; omega
              have q3889 : ¬ (2147483649 = 2147483648) := q3889
              refine x_aload (np := 160) (x := 0) (by decide +kernel) rfl (x_nc_le (by decide)) ?_
              have q3890 : h2534 75 27 = 93 := by have z := jB (e := 27) 0 j2537 rg_75_27_0_1 (by decide) (by decide); omega
              refine x_getR (np := 163) (x := 731) (f := 27) (q := 93) (by decide +kernel) (by decide) (by decide +kernel) q3890 ?_
              refine x_iload (np := 164) (x := 2) (by decide +kernel) rfl (by decide) ?_
              refine x_iload (np := 166) (x := 5) (by decide +kernel) rfl l3882 ?_
              refine x_ast (np := 167) (x := 0) (kd := 1) (n := 6) (i := 1) (by decide +kernel) (Or.inl rfl) (by decide +kernel) (by first | decide | omega) (by first | decide | omega) (by decide) l3882 (fun z => absurd z (by decide)) ?_
              have j3892 := jU (e := 1) (v := v3881) 1 j2537 rg_93_0_1_6 (by first | decide | omega) (by first | decide | omega) (by first | decide | omega)
              have f3894 := jF (e := 1) (v := v3881) 1 f3866 rg_93_0_1_6 (by first | decide | omega) (by first | decide | omega) (by decide)
              have f3895 := jF (e := 1) (v := v3881) 1 f2536 rg_93_0_1_6 (by first | decide | omega) (by first | decide | omega) (by decide)
              generalize e3893 : x_up h2534 93 1 v3881 = h3891 at j3892 f3894 f3895 ⊢
              refine x_aload (np := 168) (x := 0) (by decide +kernel) rfl (x_nc_le (by decide)) ?_
              refine x_iload (np := 170) (x := 5) (by decide +kernel) rfl l3882 ?_
              refine x_const (np := 171) (x := 9223372043297226753) (a := 2147483649) (by decide +kernel) (by decide) (by decide) ?_
              refine x_cV (t := 6) (mj := 248) (n := 3) (rc := 12) (ml := 4) (nr := 0) (np := 174) (as := [x_r 75, iv_c v3881, iv_c 2147483649]) (rest := []) (lo1 := [x_r 75, iv_c v3881, iv_c 2147483649, 147573952589676412928]) (by decide +kernel) (by decide) (by decide +kernel) (x_rb_of (by decide +kernel)) rfl rfl (x_wr (by decide) (x_wi l3882 (x_wi (by decide) x_wn))) x_wn (by decide) rfl (c248_75 j3892  (by first | decide | omega) (by first | decide | omega)) (fun h3899 q3898 => ?_)
              obtain ⟨j3900, f3901⟩ := q3898
              have f3904 := Fr.trans f3894 f3901 (by decide)
              have f3905 := Fr.trans f3895 f3901 (by decide)
              refine x_iinc (np := 177) (i := 2) (j := 2147483649) (v := 2147483650) (lo' := [x_r 75, iv_c 2147483651, iv_c 2147483650, w2532, iv_c 2147483649, iv_c v3881]) (by decide +kernel) (by decide) (by decide) rfl (by decide) (by first | decide | omega) (by first | decide | omega) rfl ?_
              refine x_goto (np := 180) (x := 183) (by decide +kernel) ?_
              refine x_goto (np := 186) (x := 12) (by decide +kernel) ?_
              have q3906 : h3899 75 30 = h3891 75 30 := jK 0 f3901 rg_75_30_0_1 (by first | decide | omega) (by first | decide | omega) (by decide)
              have q3907 : h3891 75 30 = h2534 75 30 := by rw [← e3893]; exact x_up_k (by decide)
              exact i2546 w2532 (iv_c v3881) h3899 (by first | decide | omega) j3900 f3905 (by first | decide | omega)
            have q3880 : ¬ (2147483648 ≤ (h2534 94 1)) := q3880
            refine x_const (np := 132) (x := 9223372034707292159) (a := 2147483647) (by decide +kernel) (by decide) (by decide) ?_
            refine x_goto (np := 135) (x := 140) (by decide +kernel) ?_
            refine x_istore (np := 142) (x := 5) (lo' := [x_r 75, iv_c 2147483651, iv_c 2147483649, w2532, iv_c 2147483648, iv_c 2147483647]) (by decide +kernel) (by decide) (Nat.le_of_ble_eq_true rfl) rfl ?_
            refine x_iload (np := 144) (x := 5) (by decide +kernel) rfl (by decide) ?_
            refine x_ifz (k := 2) (tg := 151) (np := 147) (by decide +kernel) (by decide) (by decide) (fun q3908 => ?_) (fun q3909 => ?_)
            · have q3908 : 2147483647 < 2147483648 := q3908
              refine x_const (np := 152) (x := 9223372039002259456) (a := 2147483648) (by decide +kernel) (by decide) (by decide) ?_
              refine x_istore (np := 154) (x := 4) (lo' := [x_r 75, iv_c 2147483651, iv_c 2147483649, w2532, iv_c 2147483648, iv_c 2147483647]) (by decide +kernel) (by decide) (Nat.le_of_ble_eq_true rfl) rfl ?_
              refine x_iload (np := 156) (x := 4) (by decide +kernel) rfl (by decide) ?_
              refine x_ifz (k := 0) (tg := 180) (np := 159) (by decide +kernel) (by decide) (by decide) (fun q3910 => ?_) (fun q3911 => ?_)
              · have q3910 : 2147483648 = 2147483648 := q3910
                refine x_iinc (np := 183) (i := 2) (j := 2147483647) (v := 2147483648) (lo' := [x_r 75, iv_c 2147483651, iv_c 2147483648, w2532, iv_c 2147483648, iv_c 2147483647]) (by decide +kernel) (by decide) (by decide) rfl (by decide) (by first | decide | omega) (by first | decide | omega) rfl ?_
                refine x_goto (np := 186) (x := 12) (by decide +kernel) ?_
                exact i2549 w2532 (iv_c 2147483647) h2534 (by first | decide | omega) j2537 f2536 (by first | decide | omega)
              have q3911 : ¬ (2147483648 = 2147483648) := q3911
              exfalso; omega
            have q3909 : ¬ (2147483647 < 2147483648) := q3909
            exfalso; omega
          have q3875 : ¬ ((h2534 93 1) < 2147483648) := q3875
          refine x_aload (np := 112) (x := 0) (by decide +kernel) rfl (x_nc_le (by decide)) ?_
          refine x_aload (np := 113) (x := 0) (by decide +kernel) rfl (x_nc_le (by decide)) ?_
          have q3912 : h2534 75 27 = 93 := by have z := jB (e := 27) 0 j2537 rg_75_27_0_1 (by decide) (by decide); omega
          refine x_getR (np := 116) (x := 731) (f := 27) (q := 93) (by decide +kernel) (by decide) (by decide +kernel) q3912 ?_
          refine x_iload (np := 117) (x := 2) (by decide +kernel) rfl (by decide) ?_
          refine x_aldC (np := 118) (x := 0) (n := 6) (i := 1) (q := (h2534 93 1)) (by decide +kernel) (by decide +kernel) (by first | decide | omega) (by first | decide | omega) (by decide) rfl (fun l3913 => ?_)
          refine x_const (np := 119) (x := 9223372039002259456) (a := 2147483648) (by decide +kernel) (by decide) (by decide) ?_
          refine x_cV (t := 6) (mj := 248) (n := 3) (rc := 12) (ml := 4) (nr := 0) (np := 122) (as := [x_r 75, iv_c (h2534 93 1), iv_c 2147483648]) (rest := []) (lo1 := [x_r 75, iv_c (h2534 93 1), iv_c 2147483648, 147573952589676412928]) (by decide +kernel) (by decide) (by decide +kernel) (x_rb_of (by decide +kernel)) rfl rfl (x_wr (by decide) (x_wi l3873 (x_wi (by decide) x_wn))) x_wn (by decide) rfl (c248_75 j2537  (by first | decide | omega) (by first | decide | omega)) (fun h3917 q3916 => ?_)
          obtain ⟨j3918, f3919⟩ := q3916
          have f3922 := Fr.trans f3866 f3919 (by decide)
          have f3923 := Fr.trans f2536 f3919 (by decide)
          refine x_aload (np := 123) (x := 0) (by decide +kernel) rfl (x_nc_le (by decide)) ?_
          have q3924 : h3917 75 28 = 94 := by have z := jB (e := 28) 0 j3918 rg_75_28_0_1 (by decide) (by decide); omega
          refine x_getR (np := 126) (x := 732) (f := 28) (q := 94) (by decide +kernel) (by decide) (by decide +kernel) q3924 ?_
          refine x_iload (np := 127) (x := 2) (by decide +kernel) rfl (by decide) ?_
          have q3925 : h3917 94 1 = h2534 94 1 := jK 1 f3919 rg_94_0_1_6 (by first | decide | omega) (by first | decide | omega) (by decide)
          have b3926 := jB (e := 1) 1 j2537 rg_94_0_1_6 (by first | decide | omega) (by first | decide | omega)
          refine x_aldC (np := 128) (x := 0) (n := 6) (i := 1) (q := (h2534 94 1)) (by decide +kernel) (by decide +kernel) (by first | decide | omega) (by first | decide | omega) (by decide) q3925 (fun l3927 => ?_)
          refine x_ifz (k := 3) (tg := 135) (np := 131) (by decide +kernel) (by decide) l3927 (fun q3928 => ?_) (fun q3929 => ?_)
          · have q3928 : 2147483648 ≤ (h2534 94 1) := q3928
            refine x_aload (np := 136) (x := 0) (by decide +kernel) rfl (x_nc_le (by decide)) ?_
            refine x_iload (np := 137) (x := 2) (by decide +kernel) rfl (by decide) ?_
            have q3930 : h3917 94 1 = h2534 94 1 := jK 1 f3919 rg_94_0_1_6 (by first | decide | omega) (by first | decide | omega) (by decide)
            refine x_cP (t := 6) (mj := 257) (n := 2) (rc := 12) (ml := 3) (nr := 0) (np := 140) (as := [x_r 75, iv_c 2147483649]) (rest := []) (lo1 := [x_r 75, iv_c 2147483649, 147573952589676412928]) (by decide +kernel) (by decide) (by decide +kernel) (x_rb_of (by decide +kernel)) rfl rfl (x_wr (by decide) (x_wi (by decide) x_wn)) x_wn (by decide) rfl (c257_75_c1 j3918   (by first | decide | omega)) (fun v3931 l3932 q3933 => ?_)
            refine x_istore (np := 142) (x := 5) (lo' := [x_r 75, iv_c 2147483651, iv_c 2147483649, w2532, iv_c 2147483648, iv_c v3931]) (by decide +kernel) l3932 (Nat.le_of_ble_eq_true rfl) rfl ?_
            refine x_iload (np := 144) (x := 5) (by decide +kernel) rfl l3932 ?_
            refine x_ifz (k := 2) (tg := 151) (np := 147) (by decide +kernel) (by decide) l3932 (fun q3934 => ?_) (fun q3935 => ?_)
            · have q3934 : v3931 < 2147483648 := q3934
              refine x_const (np := 152) (x := 9223372039002259456) (a := 2147483648) (by decide +kernel) (by decide) (by decide) ?_
              refine x_istore (np := 154) (x := 4) (lo' := [x_r 75, iv_c 2147483651, iv_c 2147483649, w2532, iv_c 2147483648, iv_c v3931]) (by decide +kernel) (by decide) (Nat.le_of_ble_eq_true rfl) rfl ?_
              refine x_iload (np := 156) (x := 4) (by decide +kernel) rfl (by decide) ?_
              refine x_ifz (k := 0) (tg := 180) (np := 159) (by decide +kernel) (by decide) (by decide) (fun q3936 => ?_) (fun q3937 => ?_)
              · have q3936 : 2147483648 = 2147483648 := q3936
                refine x_iinc (np := 183) (i := 2) (j := 2147483647) (v := 2147483648) (lo' := [x_r 75, iv_c 2147483651, iv_c 2147483648, w2532, iv_c 2147483648, iv_c v3931]) (by decide +kernel) (by decide) (by decide) rfl (by decide) (by first | decide | omega) (by first | decide | omega) rfl ?_
                refine x_goto (np := 186) (x := 12) (by decide +kernel) ?_
                have q3938 : h3917 75 30 = h2534 75 30 := jK 0 f3919 rg_75_30_0_1 (by first | decide | omega) (by first | decide | omega) (by decide)
                exact i2549 w2532 (iv_c v3931) h3917 (by first | decide | omega) j3918 f3923 (by first | decide | omega)
              have q3937 : ¬ (2147483648 = 2147483648) := q3937
              exfalso; omega
            have q3935 : ¬ (v3931 < 2147483648) := q3935
            refine x_const (np := 148) (x := 9223372043297226753) (a := 2147483649) (by decide +kernel) (by decide) (by decide) ?_
            refine x_goto (np := 151) (x := 152) (by decide +kernel) ?_
            refine x_istore (np := 154) (x := 4) (lo' := [x_r 75, iv_c 2147483651, iv_c 2147483649, w2532, iv_c 2147483649, iv_c v3931]) (by decide +kernel) (by decide) (Nat.le_of_ble_eq_true rfl) rfl ?_
            refine x_iload (np := 156) (x := 4) (by decide +kernel) rfl (by decide) ?_
            refine x_ifz (k := 0) (tg := 180) (np := 159) (by decide +kernel) (by decide) (by decide) (fun q3939 => ?_) (fun q3940 => ?_)
            · have q3939 : 2147483649 = 2147483648 := q3939
              exfalso; omega
            have q3940 : ¬ (2147483649 = 2147483648) := q3940
            refine x_aload (np := 160) (x := 0) (by decide +kernel) rfl (x_nc_le (by decide)) ?_
            have q3941 : h3917 75 27 = 93 := by have z := jB (e := 27) 0 j3918 rg_75_27_0_1 (by decide) (by decide); omega
            refine x_getR (np := 163) (x := 731) (f := 27) (q := 93) (by decide +kernel) (by decide) (by decide +kernel) q3941 ?_
            refine x_iload (np := 164) (x := 2) (by decide +kernel) rfl (by decide) ?_
            refine x_iload (np := 166) (x := 5) (by decide +kernel) rfl l3932 ?_
            refine x_ast (np := 167) (x := 0) (kd := 1) (n := 6) (i := 1) (by decide +kernel) (Or.inl rfl) (by decide +kernel) (by first | decide | omega) (by first | decide | omega) (by decide) l3932 (fun z => absurd z (by decide)) ?_
            have j3943 := jU (e := 1) (v := v3931) 1 j3918 rg_93_0_1_6 (by first | decide | omega) (by first | decide | omega) (by first | decide | omega)
            have f3945 := jF (e := 1) (v := v3931) 1 f3922 rg_93_0_1_6 (by first | decide | omega) (by first | decide | omega) (by decide)
            have f3946 := jF (e := 1) (v := v3931) 1 f3923 rg_93_0_1_6 (by first | decide | omega) (by first | decide | omega) (by decide)
            generalize e3944 : x_up h3917 93 1 v3931 = h3942 at j3943 f3945 f3946 ⊢
            refine x_aload (np := 168) (x := 0) (by decide +kernel) rfl (x_nc_le (by decide)) ?_
            refine x_iload (np := 170) (x := 5) (by decide +kernel) rfl l3932 ?_
            refine x_const (np := 171) (x := 9223372043297226753) (a := 2147483649) (by decide +kernel) (by decide) (by decide) ?_
            refine x_cV (t := 6) (mj := 248) (n := 3) (rc := 12) (ml := 4) (nr := 0) (np := 174) (as := [x_r 75, iv_c v3931, iv_c 2147483649]) (rest := []) (lo1 := [x_r 75, iv_c v3931, iv_c 2147483649, 147573952589676412928]) (by decide +kernel) (by decide) (by decide +kernel) (x_rb_of (by decide +kernel)) rfl rfl (x_wr (by decide) (x_wi l3932 (x_wi (by decide) x_wn))) x_wn (by decide) rfl (c248_75 j3943  (by first | decide | omega) (by first | decide | omega)) (fun h3950 q3949 => ?_)
            obtain ⟨j3951, f3952⟩ := q3949
            have f3955 := Fr.trans f3945 f3952 (by decide)
            have f3956 := Fr.trans f3946 f3952 (by decide)
            refine x_iinc (np := 177) (i := 2) (j := 2147483649) (v := 2147483650) (lo' := [x_r 75, iv_c 2147483651, iv_c 2147483650, w2532, iv_c 2147483649, iv_c v3931]) (by decide +kernel) (by decide) (by decide) rfl (by decide) (by first | decide | omega) (by first | decide | omega) rfl ?_
            refine x_goto (np := 180) (x := 183) (by decide +kernel) ?_
            refine x_goto (np := 186) (x := 12) (by decide +kernel) ?_
            have q3957 : h3950 75 30 = h3942 75 30 := jK 0 f3952 rg_75_30_0_1 (by first | decide | omega) (by first | decide | omega) (by decide)
            have q3958 : h3942 75 30 = h3917 75 30 := by rw [← e3944]; exact x_up_k (by decide)
            have q3959 : h3917 75 30 = h2534 75 30 := jK 0 f3919 rg_75_30_0_1 (by first | decide | omega) (by first | decide | omega) (by decide)
            exact i2546 w2532 (iv_c v3931) h3950 (by first | decide | omega) j3951 f3956 (by first | decide | omega)
          have q3929 : ¬ (2147483648 ≤ (h2534 94 1)) := q3929
          refine x_const (np := 132) (x := 9223372034707292159) (a := 2147483647) (by decide +kernel) (by decide) (by decide) ?_
          refine x_goto (np := 135) (x := 140) (by decide +kernel) ?_
          refine x_istore (np := 142) (x := 5) (lo' := [x_r 75, iv_c 2147483651, iv_c 2147483649, w2532, iv_c 2147483648, iv_c 2147483647]) (by decide +kernel) (by decide) (Nat.le_of_ble_eq_true rfl) rfl ?_
          refine x_iload (np := 144) (x := 5) (by decide +kernel) rfl (by decide) ?_
          refine x_ifz (k := 2) (tg := 151) (np := 147) (by decide +kernel) (by decide) (by decide) (fun q3960 => ?_) (fun q3961 => ?_)
          · have q3960 : 2147483647 < 2147483648 := q3960
            refine x_const (np := 152) (x := 9223372039002259456) (a := 2147483648) (by decide +kernel) (by decide) (by decide) ?_
            refine x_istore (np := 154) (x := 4) (lo' := [x_r 75, iv_c 2147483651, iv_c 2147483649, w2532, iv_c 2147483648, iv_c 2147483647]) (by decide +kernel) (by decide) (Nat.le_of_ble_eq_true rfl) rfl ?_
            refine x_iload (np := 156) (x := 4) (by decide +kernel) rfl (by decide) ?_
            refine x_ifz (k := 0) (tg := 180) (np := 159) (by decide +kernel) (by decide) (by decide) (fun q3962 => ?_) (fun q3963 => ?_)
            · have q3962 : 2147483648 = 2147483648 := q3962
              refine x_iinc (np := 183) (i := 2) (j := 2147483647) (v := 2147483648) (lo' := [x_r 75, iv_c 2147483651, iv_c 2147483648, w2532, iv_c 2147483648, iv_c 2147483647]) (by decide +kernel) (by decide) (by decide) rfl (by decide) (by first | decide | omega) (by first | decide | omega) rfl ?_
              refine x_goto (np := 186) (x := 12) (by decide +kernel) ?_
              have q3964 : h3917 75 30 = h2534 75 30 := jK 0 f3919 rg_75_30_0_1 (by first | decide | omega) (by first | decide | omega) (by decide)
              exact i2549 w2532 (iv_c 2147483647) h3917 (by first | decide | omega) j3918 f3923 (by first | decide | omega)
            have q3963 : ¬ (2147483648 = 2147483648) := q3963
            exfalso; omega
          have q3961 : ¬ (2147483647 < 2147483648) := q3961
          exfalso; omega
        have q3870 : ¬ (2147483648 = 2147483648) := q3870
        exfalso; omega
      · intro w2538 w2539 h2540 q3965 j2543 f2542 b2541
        have f3966 := Fr.trans f5 f2542 (by decide)
        refine x_iload (np := 13) (x := 2) (by decide +kernel) rfl (by decide) ?_
        refine x_ifz (k := 2) (tg := 186) (np := 16) (by decide +kernel) (by decide) (by decide) (fun q3967 => ?_) (fun q3968 => ?_)
        · have q3967 : 2147483650 < 2147483648 := q3967
          exfalso; omega
        have q3968 : ¬ (2147483650 < 2147483648) := q3968
        refine x_iload (np := 18) (x := 4) (by decide +kernel) rfl (by decide) ?_
        refine x_ifz (k := 0) (tg := 102) (np := 21) (by decide +kernel) (by decide) (by decide) (fun q3969 => ?_) (fun q3970 => ?_)
        · have q3969 : 2147483648 = 2147483648 := q3969
          refine x_aload (np := 103) (x := 0) (by decide +kernel) rfl (x_nc_le (by decide)) ?_
          have q3971 : h2540 75 27 = 93 := by have z := jB (e := 27) 0 j2543 rg_75_27_0_1 (by decide) (by decide); omega
          refine x_getR (np := 106) (x := 731) (f := 27) (q := 93) (by decide +kernel) (by decide) (by decide +kernel) q3971 ?_
          refine x_iload (np := 107) (x := 2) (by decide +kernel) rfl (by decide) ?_
          have b3972 := jB (e := 2) 2 j2543 rg_93_0_1_6 (by first | decide | omega) (by first | decide | omega)
          refine x_aldC (np := 108) (x := 0) (n := 6) (i := 2) (q := (h2540 93 2)) (by decide +kernel) (by decide +kernel) (by first | decide | omega) (by first | decide | omega) (by decide) rfl (fun l3973 => ?_)
          refine x_ifz (k := 2) (tg := 122) (np := 111) (by decide +kernel) (by decide) l3973 (fun q3974 => ?_) (fun q3975 => ?_)
          · have q3974 : (h2540 93 2) < 2147483648 := q3974
            refine x_aload (np := 123) (x := 0) (by decide +kernel) rfl (x_nc_le (by decide)) ?_
            have q3976 : h2540 75 28 = 94 := by have z := jB (e := 28) 0 j2543 rg_75_28_0_1 (by decide) (by decide); omega
            refine x_getR (np := 126) (x := 732) (f := 28) (q := 94) (by decide +kernel) (by decide) (by decide +kernel) q3976 ?_
            refine x_iload (np := 127) (x := 2) (by decide +kernel) rfl (by decide) ?_
            have b3977 := jB (e := 2) 2 j2543 rg_94_0_1_6 (by first | decide | omega) (by first | decide | omega)
            refine x_aldC (np := 128) (x := 0) (n := 6) (i := 2) (q := (h2540 94 2)) (by decide +kernel) (by decide +kernel) (by first | decide | omega) (by first | decide | omega) (by decide) rfl (fun l3978 => ?_)
            refine x_ifz (k := 3) (tg := 135) (np := 131) (by decide +kernel) (by decide) l3978 (fun q3979 => ?_) (fun q3980 => ?_)
            · have q3979 : 2147483648 ≤ (h2540 94 2) := q3979
              refine x_aload (np := 136) (x := 0) (by decide +kernel) rfl (x_nc_le (by decide)) ?_
              refine x_iload (np := 137) (x := 2) (by decide +kernel) rfl (by decide) ?_
              refine x_cP (t := 6) (mj := 257) (n := 2) (rc := 12) (ml := 3) (nr := 0) (np := 140) (as := [x_r 75, iv_c 2147483650]) (rest := []) (lo1 := [x_r 75, iv_c 2147483650, 147573952589676412928]) (by decide +kernel) (by decide) (by decide +kernel) (x_rb_of (by decide +kernel)) rfl rfl (x_wr (by decide) (x_wi (by decide) x_wn)) x_wn (by decide) rfl (c257_75_c2 j2543   (by first | decide | omega)) (fun v3981 l3982 q3983 => ?_)
              refine x_istore (np := 142) (x := 5) (lo' := [x_r 75, iv_c 2147483651, iv_c 2147483650, w2538, iv_c 2147483648, iv_c v3981]) (by decide +kernel) l3982 (Nat.le_of_ble_eq_true rfl) rfl ?_
              refine x_iload (np := 144) (x := 5) (by decide +kernel) rfl l3982 ?_
              refine x_ifz (k := 2) (tg := 151) (np := 147) (by decide +kernel) (by decide) l3982 (fun q3984 => ?_) (fun q3985 => ?_)
              · have q3984 : v3981 < 2147483648 := q3984
                refine x_const (np := 152) (x := 9223372039002259456) (a := 2147483648) (by decide +kernel) (by decide) (by decide) ?_
                refine x_istore (np := 154) (x := 4) (lo' := [x_r 75, iv_c 2147483651, iv_c 2147483650, w2538, iv_c 2147483648, iv_c v3981]) (by decide +kernel) (by decide) (Nat.le_of_ble_eq_true rfl) rfl ?_
                refine x_iload (np := 156) (x := 4) (by decide +kernel) rfl (by decide) ?_
                refine x_ifz (k := 0) (tg := 180) (np := 159) (by decide +kernel) (by decide) (by decide) (fun q3986 => ?_) (fun q3987 => ?_)
                · have q3986 : 2147483648 = 2147483648 := q3986
                  refine x_iinc (np := 183) (i := 2) (j := 2147483647) (v := 2147483649) (lo' := [x_r 75, iv_c 2147483651, iv_c 2147483649, w2538, iv_c 2147483648, iv_c v3981]) (by decide +kernel) (by decide) (by decide) rfl (by decide) (by first | decide | omega) (by first | decide | omega) rfl ?_
                  refine x_goto (np := 186) (x := 12) (by decide +kernel) ?_
                  exact i2550 w2538 (iv_c v3981) h2540 (by first | decide | omega) j2543 f2542 (by first | decide | omega)
                have q3987 : ¬ (2147483648 = 2147483648) := q3987
                exfalso; omega
              have q3985 : ¬ (v3981 < 2147483648) := q3985
              refine x_const (np := 148) (x := 9223372043297226753) (a := 2147483649) (by decide +kernel) (by decide) (by decide) ?_
              refine x_goto (np := 151) (x := 152) (by decide +kernel) ?_
              refine x_istore (np := 154) (x := 4) (lo' := [x_r 75, iv_c 2147483651, iv_c 2147483650, w2538, iv_c 2147483649, iv_c v3981]) (by decide +kernel) (by decide) (Nat.le_of_ble_eq_true rfl) rfl ?_
              refine x_iload (np := 156) (x := 4) (by decide +kernel) rfl (by decide) ?_
              refine x_ifz (k := 0) (tg := 180) (np := 159) (by decide +kernel) (by decide) (by decide) (fun q3988 => ?_) (fun q3989 => ?_)
              · have q3988 : 2147483649 = 2147483648 := q3988
                exfalso; omega
              have q3989 : ¬ (2147483649 = 2147483648) := q3989
              refine x_aload (np := 160) (x := 0) (by decide +kernel) rfl (x_nc_le (by decide)) ?_
              have q3990 : h2540 75 27 = 93 := by have z := jB (e := 27) 0 j2543 rg_75_27_0_1 (by decide) (by decide); omega
              refine x_getR (np := 163) (x := 731) (f := 27) (q := 93) (by decide +kernel) (by decide) (by decide +kernel) q3990 ?_
              refine x_iload (np := 164) (x := 2) (by decide +kernel) rfl (by decide) ?_
              refine x_iload (np := 166) (x := 5) (by decide +kernel) rfl l3982 ?_
              refine x_ast (np := 167) (x := 0) (kd := 1) (n := 6) (i := 2) (by decide +kernel) (Or.inl rfl) (by decide +kernel) (by first | decide | omega) (by first | decide | omega) (by decide) l3982 (fun z => absurd z (by decide)) ?_
              have j3992 := jU (e := 2) (v := v3981) 2 j2543 rg_93_0_1_6 (by first | decide | omega) (by first | decide | omega) (by first | decide | omega)
              have f3994 := jF (e := 2) (v := v3981) 2 f3966 rg_93_0_1_6 (by first | decide | omega) (by first | decide | omega) (by decide)
              have f3995 := jF (e := 2) (v := v3981) 2 f2542 rg_93_0_1_6 (by first | decide | omega) (by first | decide | omega) (by decide)
              generalize e3993 : x_up h2540 93 2 v3981 = h3991 at j3992 f3994 f3995 ⊢
              refine x_aload (np := 168) (x := 0) (by decide +kernel) rfl (x_nc_le (by decide)) ?_
              refine x_iload (np := 170) (x := 5) (by decide +kernel) rfl l3982 ?_
              refine x_const (np := 171) (x := 9223372043297226753) (a := 2147483649) (by decide +kernel) (by decide) (by decide) ?_
              refine x_cV (t := 6) (mj := 248) (n := 3) (rc := 12) (ml := 4) (nr := 0) (np := 174) (as := [x_r 75, iv_c v3981, iv_c 2147483649]) (rest := []) (lo1 := [x_r 75, iv_c v3981, iv_c 2147483649, 147573952589676412928]) (by decide +kernel) (by decide) (by decide +kernel) (x_rb_of (by decide +kernel)) rfl rfl (x_wr (by decide) (x_wi l3982 (x_wi (by decide) x_wn))) x_wn (by decide) rfl (c248_75 j3992  (by first | decide | omega) (by first | decide | omega)) (fun h3999 q3998 => ?_)
              obtain ⟨j4000, f4001⟩ := q3998
              have f4004 := Fr.trans f3994 f4001 (by decide)
              have f4005 := Fr.trans f3995 f4001 (by decide)
              refine x_iinc (np := 177) (i := 2) (j := 2147483649) (v := 2147483651) (lo' := [x_r 75, iv_c 2147483651, iv_c 2147483651, w2538, iv_c 2147483649, iv_c v3981]) (by decide +kernel) (by decide) (by decide) rfl (by decide) (by first | decide | omega) (by first | decide | omega) rfl ?_
              refine x_goto (np := 180) (x := 183) (by decide +kernel) ?_
              refine x_goto (np := 186) (x := 12) (by decide +kernel) ?_
              have q4006 : h3999 75 30 = h3991 75 30 := jK 0 f4001 rg_75_30_0_1 (by first | decide | omega) (by first | decide | omega) (by decide)
              have q4007 : h3991 75 30 = h2540 75 30 := by rw [← e3993]; exact x_up_k (by decide)
              exact i2547 w2538 (iv_c v3981) h3999 (by first | decide | omega) j4000 f4005 (by first | decide | omega)
            have q3980 : ¬ (2147483648 ≤ (h2540 94 2)) := q3980
            refine x_const (np := 132) (x := 9223372034707292159) (a := 2147483647) (by decide +kernel) (by decide) (by decide) ?_
            refine x_goto (np := 135) (x := 140) (by decide +kernel) ?_
            refine x_istore (np := 142) (x := 5) (lo' := [x_r 75, iv_c 2147483651, iv_c 2147483650, w2538, iv_c 2147483648, iv_c 2147483647]) (by decide +kernel) (by decide) (Nat.le_of_ble_eq_true rfl) rfl ?_
            refine x_iload (np := 144) (x := 5) (by decide +kernel) rfl (by decide) ?_
            refine x_ifz (k := 2) (tg := 151) (np := 147) (by decide +kernel) (by decide) (by decide) (fun q4008 => ?_) (fun q4009 => ?_)
            · have q4008 : 2147483647 < 2147483648 := q4008
              refine x_const (np := 152) (x := 9223372039002259456) (a := 2147483648) (by decide +kernel) (by decide) (by decide) ?_
              refine x_istore (np := 154) (x := 4) (lo' := [x_r 75, iv_c 2147483651, iv_c 2147483650, w2538, iv_c 2147483648, iv_c 2147483647]) (by decide +kernel) (by decide) (Nat.le_of_ble_eq_true rfl) rfl ?_
              refine x_iload (np := 156) (x := 4) (by decide +kernel) rfl (by decide) ?_
              refine x_ifz (k := 0) (tg := 180) (np := 159) (by decide +kernel) (by decide) (by decide) (fun q4010 => ?_) (fun q4011 => ?_)
              · have q4010 : 2147483648 = 2147483648 := q4010
                refine x_iinc (np := 183) (i := 2) (j := 2147483647) (v := 2147483649) (lo' := [x_r 75, iv_c 2147483651, iv_c 2147483649, w2538, iv_c 2147483648, iv_c 2147483647]) (by decide +kernel) (by decide) (by decide) rfl (by decide) (by first | decide | omega) (by first | decide | omega) rfl ?_
                refine x_goto (np := 186) (x := 12) (by decide +kernel) ?_
                exact i2550 w2538 (iv_c 2147483647) h2540 (by first | decide | omega) j2543 f2542 (by first | decide | omega)
              have q4011 : ¬ (2147483648 = 2147483648) := q4011
              exfalso; omega
            have q4009 : ¬ (2147483647 < 2147483648) := q4009
            exfalso; omega
          have q3975 : ¬ ((h2540 93 2) < 2147483648) := q3975
          refine x_aload (np := 112) (x := 0) (by decide +kernel) rfl (x_nc_le (by decide)) ?_
          refine x_aload (np := 113) (x := 0) (by decide +kernel) rfl (x_nc_le (by decide)) ?_
          have q4012 : h2540 75 27 = 93 := by have z := jB (e := 27) 0 j2543 rg_75_27_0_1 (by decide) (by decide); omega
          refine x_getR (np := 116) (x := 731) (f := 27) (q := 93) (by decide +kernel) (by decide) (by decide +kernel) q4012 ?_
          refine x_iload (np := 117) (x := 2) (by decide +kernel) rfl (by decide) ?_
          refine x_aldC (np := 118) (x := 0) (n := 6) (i := 2) (q := (h2540 93 2)) (by decide +kernel) (by decide +kernel) (by first | decide | omega) (by first | decide | omega) (by decide) rfl (fun l4013 => ?_)
          refine x_const (np := 119) (x := 9223372039002259456) (a := 2147483648) (by decide +kernel) (by decide) (by decide) ?_
          refine x_cV (t := 6) (mj := 248) (n := 3) (rc := 12) (ml := 4) (nr := 0) (np := 122) (as := [x_r 75, iv_c (h2540 93 2), iv_c 2147483648]) (rest := []) (lo1 := [x_r 75, iv_c (h2540 93 2), iv_c 2147483648, 147573952589676412928]) (by decide +kernel) (by decide) (by decide +kernel) (x_rb_of (by decide +kernel)) rfl rfl (x_wr (by decide) (x_wi l3973 (x_wi (by decide) x_wn))) x_wn (by decide) rfl (c248_75 j2543  (by first | decide | omega) (by first | decide | omega)) (fun h4017 q4016 => ?_)
          obtain ⟨j4018, f4019⟩ := q4016
          have f4022 := Fr.trans f3966 f4019 (by decide)
          have f4023 := Fr.trans f2542 f4019 (by decide)
          refine x_aload (np := 123) (x := 0) (by decide +kernel) rfl (x_nc_le (by decide)) ?_
          have q4024 : h4017 75 28 = 94 := by have z := jB (e := 28) 0 j4018 rg_75_28_0_1 (by decide) (by decide); omega
          refine x_getR (np := 126) (x := 732) (f := 28) (q := 94) (by decide +kernel) (by decide) (by decide +kernel) q4024 ?_
          refine x_iload (np := 127) (x := 2) (by decide +kernel) rfl (by decide) ?_
          have q4025 : h4017 94 2 = h2540 94 2 := jK 2 f4019 rg_94_0_1_6 (by first | decide | omega) (by first | decide | omega) (by decide)
          have b4026 := jB (e := 2) 2 j2543 rg_94_0_1_6 (by first | decide | omega) (by first | decide | omega)
          refine x_aldC (np := 128) (x := 0) (n := 6) (i := 2) (q := (h2540 94 2)) (by decide +kernel) (by decide +kernel) (by first | decide | omega) (by first | decide | omega) (by decide) q4025 (fun l4027 => ?_)
          refine x_ifz (k := 3) (tg := 135) (np := 131) (by decide +kernel) (by decide) l4027 (fun q4028 => ?_) (fun q4029 => ?_)
          · have q4028 : 2147483648 ≤ (h2540 94 2) := q4028
            refine x_aload (np := 136) (x := 0) (by decide +kernel) rfl (x_nc_le (by decide)) ?_
            refine x_iload (np := 137) (x := 2) (by decide +kernel) rfl (by decide) ?_
            have q4030 : h4017 94 2 = h2540 94 2 := jK 2 f4019 rg_94_0_1_6 (by first | decide | omega) (by first | decide | omega) (by decide)
            refine x_cP (t := 6) (mj := 257) (n := 2) (rc := 12) (ml := 3) (nr := 0) (np := 140) (as := [x_r 75, iv_c 2147483650]) (rest := []) (lo1 := [x_r 75, iv_c 2147483650, 147573952589676412928]) (by decide +kernel) (by decide) (by decide +kernel) (x_rb_of (by decide +kernel)) rfl rfl (x_wr (by decide) (x_wi (by decide) x_wn)) x_wn (by decide) rfl (c257_75_c2 j4018   (by first | decide | omega)) (fun v4031 l4032 q4033 => ?_)
            refine x_istore (np := 142) (x := 5) (lo' := [x_r 75, iv_c 2147483651, iv_c 2147483650, w2538, iv_c 2147483648, iv_c v4031]) (by decide +kernel) l4032 (Nat.le_of_ble_eq_true rfl) rfl ?_
            refine x_iload (np := 144) (x := 5) (by decide +kernel) rfl l4032 ?_
            refine x_ifz (k := 2) (tg := 151) (np := 147) (by decide +kernel) (by decide) l4032 (fun q4034 => ?_) (fun q4035 => ?_)
            · have q4034 : v4031 < 2147483648 := q4034
              refine x_const (np := 152) (x := 9223372039002259456) (a := 2147483648) (by decide +kernel) (by decide) (by decide) ?_
              refine x_istore (np := 154) (x := 4) (lo' := [x_r 75, iv_c 2147483651, iv_c 2147483650, w2538, iv_c 2147483648, iv_c v4031]) (by decide +kernel) (by decide) (Nat.le_of_ble_eq_true rfl) rfl ?_
              refine x_iload (np := 156) (x := 4) (by decide +kernel) rfl (by decide) ?_
              refine x_ifz (k := 0) (tg := 180) (np := 159) (by decide +kernel) (by decide) (by decide) (fun q4036 => ?_) (fun q4037 => ?_)
              · have q4036 : 2147483648 = 2147483648 := q4036
                refine x_iinc (np := 183) (i := 2) (j := 2147483647) (v := 2147483649) (lo' := [x_r 75, iv_c 2147483651, iv_c 2147483649, w2538, iv_c 2147483648, iv_c v4031]) (by decide +kernel) (by decide) (by decide) rfl (by decide) (by first | decide | omega) (by first | decide | omega) rfl ?_
                refine x_goto (np := 186) (x := 12) (by decide +kernel) ?_
                have q4038 : h4017 75 30 = h2540 75 30 := jK 0 f4019 rg_75_30_0_1 (by first | decide | omega) (by first | decide | omega) (by decide)
                exact i2550 w2538 (iv_c v4031) h4017 (by first | decide | omega) j4018 f4023 (by first | decide | omega)
              have q4037 : ¬ (2147483648 = 2147483648) := q4037
              exfalso; omega
            have q4035 : ¬ (v4031 < 2147483648) := q4035
            refine x_const (np := 148) (x := 9223372043297226753) (a := 2147483649) (by decide +kernel) (by decide) (by decide) ?_
            refine x_goto (np := 151) (x := 152) (by decide +kernel) ?_
            refine x_istore (np := 154) (x := 4) (lo' := [x_r 75, iv_c 2147483651, iv_c 2147483650, w2538, iv_c 2147483649, iv_c v4031]) (by decide +kernel) (by decide) (Nat.le_of_ble_eq_true rfl) rfl ?_
            refine x_iload (np := 156) (x := 4) (by decide +kernel) rfl (by decide) ?_
            refine x_ifz (k := 0) (tg := 180) (np := 159) (by decide +kernel) (by decide) (by decide) (fun q4039 => ?_) (fun q4040 => ?_)
            · have q4039 : 2147483649 = 2147483648 := q4039
              exfalso; omega
            have q4040 : ¬ (2147483649 = 2147483648) := q4040
            refine x_aload (np := 160) (x := 0) (by decide +kernel) rfl (x_nc_le (by decide)) ?_
            have q4041 : h4017 75 27 = 93 := by have z := jB (e := 27) 0 j4018 rg_75_27_0_1 (by decide) (by decide); omega
            refine x_getR (np := 163) (x := 731) (f := 27) (q := 93) (by decide +kernel) (by decide) (by decide +kernel) q4041 ?_
            refine x_iload (np := 164) (x := 2) (by decide +kernel) rfl (by decide) ?_
            refine x_iload (np := 166) (x := 5) (by decide +kernel) rfl l4032 ?_
            refine x_ast (np := 167) (x := 0) (kd := 1) (n := 6) (i := 2) (by decide +kernel) (Or.inl rfl) (by decide +kernel) (by first | decide | omega) (by first | decide | omega) (by decide) l4032 (fun z => absurd z (by decide)) ?_
            have j4043 := jU (e := 2) (v := v4031) 2 j4018 rg_93_0_1_6 (by first | decide | omega) (by first | decide | omega) (by first | decide | omega)
            have f4045 := jF (e := 2) (v := v4031) 2 f4022 rg_93_0_1_6 (by first | decide | omega) (by first | decide | omega) (by decide)
            have f4046 := jF (e := 2) (v := v4031) 2 f4023 rg_93_0_1_6 (by first | decide | omega) (by first | decide | omega) (by decide)
            generalize e4044 : x_up h4017 93 2 v4031 = h4042 at j4043 f4045 f4046 ⊢
            refine x_aload (np := 168) (x := 0) (by decide +kernel) rfl (x_nc_le (by decide)) ?_
            refine x_iload (np := 170) (x := 5) (by decide +kernel) rfl l4032 ?_
            refine x_const (np := 171) (x := 9223372043297226753) (a := 2147483649) (by decide +kernel) (by decide) (by decide) ?_
            refine x_cV (t := 6) (mj := 248) (n := 3) (rc := 12) (ml := 4) (nr := 0) (np := 174) (as := [x_r 75, iv_c v4031, iv_c 2147483649]) (rest := []) (lo1 := [x_r 75, iv_c v4031, iv_c 2147483649, 147573952589676412928]) (by decide +kernel) (by decide) (by decide +kernel) (x_rb_of (by decide +kernel)) rfl rfl (x_wr (by decide) (x_wi l4032 (x_wi (by decide) x_wn))) x_wn (by decide) rfl (c248_75 j4043  (by first | decide | omega) (by first | decide | omega)) (fun h4050 q4049 => ?_)
            obtain ⟨j4051, f4052⟩ := q4049
            have f4055 := Fr.trans f4045 f4052 (by decide)
            have f4056 := Fr.trans f4046 f4052 (by decide)
            refine x_iinc (np := 177) (i := 2) (j := 2147483649) (v := 2147483651) (lo' := [x_r 75, iv_c 2147483651, iv_c 2147483651, w2538, iv_c 2147483649, iv_c v4031]) (by decide +kernel) (by decide) (by decide) rfl (by decide) (by first | decide | omega) (by first | decide | omega) rfl ?_
            refine x_goto (np := 180) (x := 183) (by decide +kernel) ?_
            refine x_goto (np := 186) (x := 12) (by decide +kernel) ?_
            have q4057 : h4050 75 30 = h4042 75 30 := jK 0 f4052 rg_75_30_0_1 (by first | decide | omega) (by first | decide | omega) (by decide)
            have q4058 : h4042 75 30 = h4017 75 30 := by rw [← e4044]; exact x_up_k (by decide)
            have q4059 : h4017 75 30 = h2540 75 30 := jK 0 f4019 rg_75_30_0_1 (by first | decide | omega) (by first | decide | omega) (by decide)
            exact i2547 w2538 (iv_c v4031) h4050 (by first | decide | omega) j4051 f4056 (by first | decide | omega)
          have q4029 : ¬ (2147483648 ≤ (h2540 94 2)) := q4029
          refine x_const (np := 132) (x := 9223372034707292159) (a := 2147483647) (by decide +kernel) (by decide) (by decide) ?_
          refine x_goto (np := 135) (x := 140) (by decide +kernel) ?_
          refine x_istore (np := 142) (x := 5) (lo' := [x_r 75, iv_c 2147483651, iv_c 2147483650, w2538, iv_c 2147483648, iv_c 2147483647]) (by decide +kernel) (by decide) (Nat.le_of_ble_eq_true rfl) rfl ?_
          refine x_iload (np := 144) (x := 5) (by decide +kernel) rfl (by decide) ?_
          refine x_ifz (k := 2) (tg := 151) (np := 147) (by decide +kernel) (by decide) (by decide) (fun q4060 => ?_) (fun q4061 => ?_)
          · have q4060 : 2147483647 < 2147483648 := q4060
            refine x_const (np := 152) (x := 9223372039002259456) (a := 2147483648) (by decide +kernel) (by decide) (by decide) ?_
            refine x_istore (np := 154) (x := 4) (lo' := [x_r 75, iv_c 2147483651, iv_c 2147483650, w2538, iv_c 2147483648, iv_c 2147483647]) (by decide +kernel) (by decide) (Nat.le_of_ble_eq_true rfl) rfl ?_
            refine x_iload (np := 156) (x := 4) (by decide +kernel) rfl (by decide) ?_
            refine x_ifz (k := 0) (tg := 180) (np := 159) (by decide +kernel) (by decide) (by decide) (fun q4062 => ?_) (fun q4063 => ?_)
            · have q4062 : 2147483648 = 2147483648 := q4062
              refine x_iinc (np := 183) (i := 2) (j := 2147483647) (v := 2147483649) (lo' := [x_r 75, iv_c 2147483651, iv_c 2147483649, w2538, iv_c 2147483648, iv_c 2147483647]) (by decide +kernel) (by decide) (by decide) rfl (by decide) (by first | decide | omega) (by first | decide | omega) rfl ?_
              refine x_goto (np := 186) (x := 12) (by decide +kernel) ?_
              have q4064 : h4017 75 30 = h2540 75 30 := jK 0 f4019 rg_75_30_0_1 (by first | decide | omega) (by first | decide | omega) (by decide)
              exact i2550 w2538 (iv_c 2147483647) h4017 (by first | decide | omega) j4018 f4023 (by first | decide | omega)
            have q4063 : ¬ (2147483648 = 2147483648) := q4063
            exfalso; omega
          have q4061 : ¬ (2147483647 < 2147483648) := q4061
          exfalso; omega
        have q3970 : ¬ (2147483648 = 2147483648) := q3970
        exfalso; omega
  have q4065 : h2 75 30 = h 75 30 := by rw [← e4]; exact x_up_i (by first | decide | omega)
  exact (p2494 _).1 (iv_c 2147483648) 147573952589676412928 h2 (Nat.lt_succ_self _) j3 (Fr.refl _ _) (by first | decide | omega)
