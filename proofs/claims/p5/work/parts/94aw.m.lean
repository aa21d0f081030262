/-! ===== methods ===== -/
theorem c259_75 {sc : Nat × Nat} {d a1  : Nat} {h : xh} (hJ : J h) (ba1 : 2147483648 ≤ a1 ∧ a1 ≤ 2147483653) (hr0 : (h 75 30) ≤ 2147503648) : X sc 259 (d + 5) (xI fun r h' => J h' ∧ Fr 39376260300801 h h' ∧ (2147483648 ≤ r ∧ r ≤ 2147483649) ∧ (r = 2147483649 → h' 75 30 ≤ 2147503648)) 0 0 0 [x_r 75, iv_c a1, 147573952589676412928, 147573952589676412928, 147573952589676412928, 147573952589676412928] [] h := by
  rcases (show a1 = 2147483648 ∨ a1 = 2147483649 ∨ a1 = 2147483650 ∨ a1 = 2147483651 ∨ a1 = 2147483652 ∨ a1 = 2147483653 by first | decide | omega) with rfl | rfl | rfl | rfl | rfl | rfl
  · exact c259_75_c0 (d := d + 0) hJ hr0
  · exact c259_75_c1 (d := d + 0) hJ hr0
  · exact c259_75_c2 (d := d + 0) hJ hr0
  · exact c259_75_c3 (d := d + 0) hJ hr0
  · exact c259_75_c4 (d := d + 0) hJ hr0
  · exact c259_75_c5 (d := d + 0) hJ hr0
set_option maxHeartbeats 0 in
/-- LentNamesModel.needed(I)I -/
theorem c260_75 {sc : Nat × Nat} {d a1 : Nat} {h : xh} (hJ : J h) (ba1 : 2147483652 ≤ a1 ∧ a1 ≤ 2147483653) (hW : WT 76 h) : X sc 260 (d + 6) (xI fun r h' => J h' ∧ Fr 39442832293889 h h' ∧ (2147483646 ≤ r ∧ r ≤ 2147483653)) 0 0 0 [x_r 75, iv_c a1, 147573952589676412928] [] h := by
  have la1 : a1 < 4294967296 := by first | decide | omega
  have hF := Fr.refl 39442832293889 h
  refine x_aload (np := 1) (x := 0) (by decide +kernel) rfl (x_nc_le (by decide)) ?_
  refine x_cV (t := 6) (mj := 210) (n := 1) (rc := 12) (ml := 5) (nr := 0) (np := 4) (as := [x_r 75]) (rest := []) (lo1 := [x_r 75, 147573952589676412928, 147573952589676412928, 147573952589676412928, 147573952589676412928]) (by decide +kernel) (by decide) (by decide +kernel) (x_rb_of (by decide +kernel)) rfl rfl (x_wr (by decide) x_wn) x_wn (by decide) rfl (c210_75 hJ  hW) (fun h4 q3 => ?_)
  obtain ⟨j5, f6⟩ := q3
  have f9 := Fr.trans hF f6 (by decide)
  refine x_aload (np := 5) (x := 0) (by decide +kernel) rfl (x_nc_le (by decide)) ?_
  refine x_const (np := 6) (x := 9223372039002259456) (a := 2147483648) (by decide +kernel) (by decide) (by decide) ?_
  refine x_putI (np := 9) (x := 734) (f := 30) (by decide +kernel) (by decide +kernel) (by decide) (Or.inl (by decide)) ?_
  have j11 := jU (e := 30) (v := 2147483648) 0 j5 rg_75_30_0_1 (by first | decide | omega) (by first | decide | omega) (by first | decide | omega)
  have f13 := jF (e := 30) (v := 2147483648) 0 f9 rg_75_30_0_1 (by first | decide | omega) (by first | decide | omega) (by decide)
  generalize e12 : x_up h4 75 30 2147483648 = h10 at j11 f13 ⊢
  refine x_const (np := 10) (x := 9223372039002259456) (a := 2147483648) (by decide +kernel) (by decide) (by decide) ?_
  refine x_istore (np := 11) (x := 2) (lo' := [x_r 75, iv_c a1, iv_c 2147483648]) (by decide +kernel) (by decide) (Nat.le_of_ble_eq_true rfl) rfl ?_
  have p172 : ∀ (n : Nat) (v166 : Nat) (h168 : xh), 4294967296 - v166 < n → (2147483648 ≤ v166 ∧ v166 ≤ 2147483654) → J h168 → Fr 39376260300801 h10 h168 → (2147483648 ≤ h168 75 30 ∧ h168 75 30 ≤ 2147503648) → X sc 260 (d + 6) (xI fun r h' => J h' ∧ Fr 39442832293889 h h' ∧ (2147483646 ≤ r ∧ r ≤ 2147483653)) 0 0 11 [x_r 75, iv_c a1, iv_c v166] [] h168 := by
    intro n
    induction n with
    | zero => intro v166 h168 q173; exact absurd q173 (Nat.not_lt_zero _)
    | succ n i174 =>
      intro v166 h168 q173 b167 j171 f170 b169
      have f175 := Fr.trans f13 f170 (by decide)
      refine x_iload (np := 12) (x := 2) (by decide +kernel) rfl (by first | decide | omega) ?_
      refine x_iload (np := 13) (x := 1) (by decide +kernel) rfl la1 ?_
      refine x_icmp (k := 4) (tg := 42) (np := 16) (by decide +kernel) (by decide) (by first | decide | omega) la1 (fun q176 => ?_) (fun q177 => ?_)
      · have q176 : a1 < v166 := q176
        refine x_const (np := 43) (x := 9223372034707292159) (a := 2147483647) (by decide +kernel) (by decide) (by decide) ?_
        refine x_retI (np := 44) (x := 0) (by decide +kernel) (by decide) (Or.inl (by decide +kernel)) ⟨_, rfl, (by decide), ?_⟩
        exact ⟨j171, f175, (by first | decide | omega)⟩
      have q177 : ¬ (a1 < v166) := q177
      refine x_aload (np := 17) (x := 0) (by decide +kernel) rfl (x_nc_le (by decide)) ?_
      refine x_iload (np := 18) (x := 2) (by decide +kernel) rfl (by first | decide | omega) ?_
      refine x_cI (t := 6) (mj := 259) (n := 2) (rc := 12) (ml := 6) (nr := 0) (np := 21) (as := [x_r 75, iv_c v166]) (rest := []) (lo1 := [x_r 75, iv_c v166, 147573952589676412928, 147573952589676412928, 147573952589676412928, 147573952589676412928]) (by decide +kernel) (by decide) (by decide +kernel) (x_rb_of (by decide +kernel)) rfl rfl (x_wr (by decide) (x_wi (by first | decide | omega) x_wn)) x_wn (by decide) rfl (c259_75 j171  (by first | decide | omega) (by first | decide | omega)) (fun v178 h181 l179 q180 => ?_)
      obtain ⟨j182, f183, b184, c185⟩ := q180
      have f186 := Fr.trans f175 f183 (by decide)
      have f187 := Fr.trans f170 f183 (by decide)
      refine x_ifz (k := 1) (tg := 27) (np := 24) (by decide +kernel) (by decide) l179 (fun q188 => ?_) (fun q189 => ?_)
      · have q188 : v178 ≠ 2147483648 := q188
        have b190 := c185 (by first | decide | omega)
        have b191 := jB (e := 30) 0 j182 rg_75_30_0_1 (by first | decide | omega) (by first | decide | omega)
        refine x_aload (np := 28) (x := 0) (by decide +kernel) rfl (x_nc_le (by decide)) ?_
        refine x_getC (np := 31) (x := 738) (f := 34) (q := (h181 75 34)) (by decide +kernel) (by decide) (by decide +kernel) rfl (fun l192 => ?_)
        refine x_ifz (k := 5) (tg := 36) (np := 34) (by decide +kernel) (by decide) l192 (fun q193 => ?_) (fun q194 => ?_)
        · have q193 : (h181 75 34) ≤ 2147483648 := q193
          refine x_iinc (np := 39) (i := 2) (j := 2147483649) (v := (1 + v166)) (lo' := [x_r 75, iv_c a1, iv_c (1 + v166)]) (by decide +kernel) (by decide) (by decide) rfl (by first | decide | omega) (by first | decide | omega) (by first | decide | omega) rfl ?_
          refine x_goto (np := 42) (x := 11) (by decide +kernel) ?_
          exact i174 (1 + v166) h181 (by first | decide | omega) (by first | decide | omega) j182 f187 (by first | decide | omega)
        have q194 : ¬ ((h181 75 34) ≤ 2147483648) := q194
        refine x_iload (np := 35) (x := 2) (by decide +kernel) rfl (by first | decide | omega) ?_
        refine x_retI (np := 36) (x := 0) (by decide +kernel) (by first | decide | omega) (Or.inl (by decide +kernel)) ⟨_, rfl, (by first | decide | omega), ?_⟩
        exact ⟨j182, f186, (by first | decide | omega)⟩
      have q189 : ¬ (v178 ≠ 2147483648) := q189
      refine x_const (np := 26) (x := 9223372030412324862) (a := 2147483646) (by decide +kernel) (by decide) (by decide) ?_
      refine x_retI (np := 27) (x := 0) (by decide +kernel) (by decide) (Or.inl (by decide +kernel)) ⟨_, rfl, (by decide), ?_⟩
      exact ⟨j182, f186, (by first | decide | omega)⟩
  have q195 : h10 75 30 = 2147483648 := by rw [← e12]; exact x_up_at
  exact p172 _ 2147483648 h10 (Nat.lt_succ_self _) (by first | decide | omega) j11 (Fr.refl _ _) (by first | decide | omega)
set_option maxHeartbeats 0 in
/-- LentNamesModel.plan(II)I -/
theorem c263_75 {sc : Nat × Nat} {d a1 a2 : Nat} {h : xh} (hJ : J h) (ba1 : 0 ≤ a1 ∧ a1 ≤ 4294967295) (ba2 : 0 ≤ a2 ∧ a2 ≤ 4294967295) (hW : WT 76 h) : X sc 263 (d + 7) (xI fun r h' => J h' ∧ Fr 61433064849409 h h' ∧ (0 ≤ r ∧ r ≤ 4294967295)) 0 0 0 [x_r 75, iv_c a1, iv_c a2, 147573952589676412928] [] h := by
  have la1 : a1 < 4294967296 := by first | decide | omega
  have la2 : a2 < 4294967296 := by first | decide | omega
  have hF := Fr.refl 61433064849409 h
  refine x_aload (np := 1) (x := 0) (by decide +kernel) rfl (x_nc_le (by decide)) ?_
  refine x_const (np := 2) (x := 9223372039002259456) (a := 2147483648) (by decide +kernel) (by decide) (by decide) ?_
  refine x_putI (np := 5) (x := 704) (f := 0) (by decide +kernel) (by decide +kernel) (by decide) (Or.inl (by decide)) ?_
  have j2 := jU (e := 0) (v := 2147483648) 0 hJ rg_75_0_0_1 (by first | decide | omega) (by first | decide | omega) (by first | decide | omega)
  have f4 := jF (e := 0) (v := 2147483648) 0 hF rg_75_0_0_1 (by first | decide | omega) (by first | decide | omega) (by decide)
  generalize e3 : x_up h 75 0 2147483648 = h1 at j2 f4 ⊢
  refine x_aload (np := 6) (x := 0) (by decide +kernel) rfl (x_nc_le (by decide)) ?_
  refine x_iload (np := 7) (x := 1) (by decide +kernel) rfl la1 ?_
  refine x_const (np := 8) (x := 9223372039002259456) (a := 2147483648) (by decide +kernel) (by decide) (by decide) ?_
  refine x_const (np := 10) (x := 9223372090541867020) (a := 2147483660) (by decide +kernel) (by decide) (by decide) ?_
  refine x_nI (t := 0) (mj := 153) (n := 3) (rc := 0) (ml := 3) (nr := 1) (np := 13) (as := [iv_c a1, iv_c 2147483648, iv_c 2147483660]) (rest := [x_r 75]) (lo1 := [iv_c a1, iv_c 2147483648, iv_c 2147483660]) (by decide +kernel) (by decide) (by decide +kernel) (Or.inl rfl) rfl rfl (x_wi la1 (x_wi (by decide) (x_wi (by decide) x_wn))) (x_wr (by decide) x_wn) (by decide) rfl ?_
  refine x_iload (np := 1) (x := 0) (by decide +kernel) rfl la1 ?_
  refine x_iload (np := 2) (x := 1) (by decide +kernel) rfl (by decide) ?_
  refine x_icmp (k := 2) (tg := 14) (np := 5) (by decide +kernel) (by decide) la1 (by decide) (fun q5 => ?_) (fun q6 => ?_)
  · have q5 : a1 < 2147483648 := q5
    refine x_const (np := 15) (x := 9223372039002259456) (a := 2147483648) (by decide +kernel) (by decide) (by decide) ?_
    refine x_retI (np := 16) (x := 0) (by decide +kernel) (by decide) (Or.inr ⟨by decide +kernel, by first | decide | omega, by first | decide | omega⟩) ⟨_, rfl, (by decide), ?_⟩
    refine x_ifz (k := 0) (tg := 21) (np := 16) (by decide +kernel) (by decide) (by decide) (fun q7 => ?_) (fun q8 => ?_)
    · have q7 : 2147483648 = 2147483648 := q7
      refine x_const (np := 22) (x := 9223372043297226753) (a := 2147483649) (by decide +kernel) (by decide) (by decide) ?_
      refine x_goto (np := 25) (x := 26) (by decide +kernel) ?_
      refine x_const (np := 27) (x := 9223372043297226753) (a := 2147483649) (by decide +kernel) (by decide) (by decide) ?_
      refine x_nI (t := 6) (mj := 152) (n := 3) (rc := 12) (ml := 3) (nr := 0) (np := 30) (as := [x_r 75, iv_c 2147483649, iv_c 2147483649]) (rest := []) (lo1 := [x_r 75, iv_c 2147483649, iv_c 2147483649]) (by decide +kernel) (by decide) (by decide +kernel) (x_rb_of (by decide +kernel)) rfl rfl (x_wr (by decide) (x_wi (by decide) (x_wi (by decide) x_wn))) x_wn (by decide) rfl ?_
      refine x_iload (np := 1) (x := 1) (by decide +kernel) rfl (by decide) ?_
      refine x_ifz (k := 0) (tg := 9) (np := 4) (by decide +kernel) (by decide) (by decide) (fun q9 => ?_) (fun q10 => ?_)
      · have q9 : 2147483649 = 2147483648 := q9
        exfalso; omega
      have q10 : ¬ (2147483649 = 2147483648) := q10
      refine x_aload (np := 5) (x := 0) (by decide +kernel) rfl (x_nc_le (by decide)) ?_
      refine x_iload (np := 6) (x := 2) (by decide +kernel) rfl (by decide) ?_
      refine x_putI (np := 9) (x := 704) (f := 0) (by decide +kernel) (by decide +kernel) (by decide) (Or.inl (by decide)) ?_
      have j12 := jU (e := 0) (v := 2147483649) 0 j2 rg_75_0_0_1 (by first | decide | omega) (by first | decide | omega) (by first | decide | omega)
      have f14 := jF (e := 0) (v := 2147483649) 0 f4 rg_75_0_0_1 (by first | decide | omega) (by first | decide | omega) (by decide)
      generalize e13 : x_up h1 75 0 2147483649 = h11 at j12 f14 ⊢
      refine x_iload (np := 10) (x := 1) (by decide +kernel) rfl (by decide) ?_
      refine x_retI (np := 11) (x := 0) (by decide +kernel) (by decide) (Or.inr ⟨by decide +kernel, by first | decide | omega, by first | decide | omega⟩) ⟨_, rfl, (by decide), ?_⟩
      refine x_ifz (k := 0) (tg := 35) (np := 33) (by decide +kernel) (by decide) (by decide) (fun q15 => ?_) (fun q16 => ?_)
      · have q15 : 2147483649 = 2147483648 := q15
        exfalso; omega
      have q16 : ¬ (2147483649 = 2147483648) := q16
      refine x_const (np := 34) (x := 9223372039002259456) (a := 2147483648) (by decide +kernel) (by decide) (by decide) ?_
      refine x_retI (np := 35) (x := 0) (by decide +kernel) (by decide) (Or.inl (by decide +kernel)) ⟨_, rfl, (by decide), ?_⟩
      exact ⟨j12, f14, (by first | decide | omega)⟩
    have q8 : ¬ (2147483648 = 2147483648) := q8
    exfalso; omega
  have q6 : ¬ (a1 < 2147483648) := q6
  refine x_iload (np := 6) (x := 0) (by decide +kernel) rfl la1 ?_
  refine x_iload (np := 7) (x := 2) (by decide +kernel) rfl (by decide) ?_
  refine x_icmp (k := 4) (tg := 14) (np := 10) (by decide +kernel) (by decide) la1 (by decide) (fun q17 => ?_) (fun q18 => ?_)
  · have q17 : 2147483660 < a1 := q17
    refine x_const (np := 15) (x := 9223372039002259456) (a := 2147483648) (by decide +kernel) (by decide) (by decide) ?_
    refine x_retI (np := 16) (x := 0) (by decide +kernel) (by decide) (Or.inr ⟨by decide +kernel, by first | decide | omega, by first | decide | omega⟩) ⟨_, rfl, (by decide), ?_⟩
    refine x_ifz (k := 0) (tg := 21) (np := 16) (by decide +kernel) (by decide) (by decide) (fun q19 => ?_) (fun q20 => ?_)
    · have q19 : 2147483648 = 2147483648 := q19
      refine x_const (np := 22) (x := 9223372043297226753) (a := 2147483649) (by decide +kernel) (by decide) (by decide) ?_
      refine x_goto (np := 25) (x := 26) (by decide +kernel) ?_
      refine x_const (np := 27) (x := 9223372043297226753) (a := 2147483649) (by decide +kernel) (by decide) (by decide) ?_
      refine x_nI (t := 6) (mj := 152) (n := 3) (rc := 12) (ml := 3) (nr := 0) (np := 30) (as := [x_r 75, iv_c 2147483649, iv_c 2147483649]) (rest := []) (lo1 := [x_r 75, iv_c 2147483649, iv_c 2147483649]) (by decide +kernel) (by decide) (by decide +kernel) (x_rb_of (by decide +kernel)) rfl rfl (x_wr (by decide) (x_wi (by decide) (x_wi (by decide) x_wn))) x_wn (by decide) rfl ?_
      refine x_iload (np := 1) (x := 1) (by decide +kernel) rfl (by decide) ?_
      refine x_ifz (k := 0) (tg := 9) (np := 4) (by decide +kernel) (by decide) (by decide) (fun q21 => ?_) (fun q22 => ?_)
      · have q21 : 2147483649 = 2147483648 := q21
        exfalso; omega
      have q22 : ¬ (2147483649 = 2147483648) := q22
      refine x_aload (np := 5) (x := 0) (by decide +kernel) rfl (x_nc_le (by decide)) ?_
      refine x_iload (np := 6) (x := 2) (by decide +kernel) rfl (by decide) ?_
      refine x_putI (np := 9) (x := 704) (f := 0) (by decide +kernel) (by decide +kernel) (by decide) (Or.inl (by decide)) ?_
      have j24 := jU (e := 0) (v := 2147483649) 0 j2 rg_75_0_0_1 (by first | decide | omega) (by first | decide | omega) (by first | decide | omega)
      have f26 := jF (e := 0) (v := 2147483649) 0 f4 rg_75_0_0_1 (by first | decide | omega) (by first | decide | omega) (by decide)
      generalize e25 : x_up h1 75 0 2147483649 = h23 at j24 f26 ⊢
      refine x_iload (np := 10) (x := 1) (by decide +kernel) rfl (by decide) ?_
      refine x_retI (np := 11) (x := 0) (by decide +kernel) (by decide) (Or.inr ⟨by decide +kernel, by first | decide | omega, by first | decide | omega⟩) ⟨_, rfl, (by decide), ?_⟩
      refine x_ifz (k := 0) (tg := 35) (np := 33) (by decide +kernel) (by decide) (by decide) (fun q27 => ?_) (fun q28 => ?_)
      · have q27 : 2147483649 = 2147483648 := q27
        exfalso; omega
      have q28 : ¬ (2147483649 = 2147483648) := q28
      refine x_const (np := 34) (x := 9223372039002259456) (a := 2147483648) (by decide +kernel) (by decide) (by decide) ?_
      refine x_retI (np := 35) (x := 0) (by decide +kernel) (by decide) (Or.inl (by decide +kernel)) ⟨_, rfl, (by decide), ?_⟩
      exact ⟨j24, f26, (by first | decide | omega)⟩
    have q20 : ¬ (2147483648 = 2147483648) := q20
    exfalso; omega
  have q18 : ¬ (2147483660 < a1) := q18
  refine x_const (np := 11) (x := 9223372043297226753) (a := 2147483649) (by decide +kernel) (by decide) (by decide) ?_
  refine x_goto (np := 14) (x := 15) (by decide +kernel) ?_
  refine x_retI (np := 16) (x := 0) (by decide +kernel) (by decide) (Or.inr ⟨by decide +kernel, by first | decide | omega, by first | decide | omega⟩) ⟨_, rfl, (by decide), ?_⟩
  refine x_ifz (k := 0) (tg := 21) (np := 16) (by decide +kernel) (by decide) (by decide) (fun q29 => ?_) (fun q30 => ?_)
  · have q29 : 2147483649 = 2147483648 := q29
    exfalso; omega
  have q30 : ¬ (2147483649 = 2147483648) := q30
  refine x_iload (np := 17) (x := 2) (by decide +kernel) rfl la2 ?_
  refine x_const (np := 18) (x := 9223372034707292159) (a := 2147483647) (by decide +kernel) (by decide) (by decide) ?_
  refine x_icmp (k := 3) (tg := 25) (np := 21) (by decide +kernel) (by decide) la2 (by decide) (fun q31 => ?_) (fun q32 => ?_)
  · have q31 : 2147483647 ≤ a2 := q31
    refine x_const (np := 26) (x := 9223372039002259456) (a := 2147483648) (by decide +kernel) (by decide) (by decide) ?_
    refine x_const (np := 27) (x := 9223372043297226753) (a := 2147483649) (by decide +kernel) (by decide) (by decide) ?_
    refine x_nI (t := 6) (mj := 152) (n := 3) (rc := 12) (ml := 3) (nr := 0) (np := 30) (as := [x_r 75, iv_c 2147483648, iv_c 2147483649]) (rest := []) (lo1 := [x_r 75, iv_c 2147483648, iv_c 2147483649]) (by decide +kernel) (by decide) (by decide +kernel) (x_rb_of (by decide +kernel)) rfl rfl (x_wr (by decide) (x_wi (by decide) (x_wi (by decide) x_wn))) x_wn (by decide) rfl ?_
    refine x_iload (np := 1) (x := 1) (by decide +kernel) rfl (by decide) ?_
    refine x_ifz (k := 0) (tg := 9) (np := 4) (by decide +kernel) (by decide) (by decide) (fun q33 => ?_) (fun q34 => ?_)
    · have q33 : 2147483648 = 2147483648 := q33
      refine x_iload (np := 10) (x := 1) (by decide +kernel) rfl (by decide) ?_
      refine x_retI (np := 11) (x := 0) (by decide +kernel) (by decide) (Or.inr ⟨by decide +kernel, by first | decide | omega, by first | decide | omega⟩) ⟨_, rfl, (by decide), ?_⟩
      refine x_ifz (k := 0) (tg := 35) (np := 33) (by decide +kernel) (by decide) (by decide) (fun q35 => ?_) (fun q36 => ?_)
      · have q35 : 2147483648 = 2147483648 := q35
        refine x_aload (np := 36) (x := 0) (by decide +kernel) rfl (x_nc_le (by decide)) ?_
        refine x_const (np := 37) (x := 9223372043297226753) (a := 2147483649) (by decide +kernel) (by decide) (by decide) ?_
        refine x_putI (np := 40) (x := 4833) (f := 33) (by decide +kernel) (by decide +kernel) (by decide) (Or.inr ⟨by decide, by first | decide | omega, by first | decide | omega⟩) ?_
        have j38 := jU (e := 33) (v := 2147483649) 0 j2 rg_75_33_0_1 (by first | decide | omega) (by first | decide | omega) (by first | decide | omega)
        have f40 := jF (e := 33) (v := 2147483649) 0 f4 rg_75_33_0_1 (by first | decide | omega) (by first | decide | omega) (by decide)
        generalize e39 : x_up h1 75 33 2147483649 = h37 at j38 f40 ⊢
        refine x_aload (np := 41) (x := 0) (by decide +kernel) rfl (x_nc_le (by decide)) ?_
        refine x_iload (np := 42) (x := 1) (by decide +kernel) rfl la1 ?_
        refine x_putI (np := 45) (x := 735) (f := 31) (by decide +kernel) (by decide +kernel) la1 (Or.inl (by decide)) ?_
        have j42 := jU (e := 31) (v := a1) 0 j38 rg_75_31_0_1 (by first | decide | omega) (by first | decide | omega) (by first | decide | omega)
        have f44 := jF (e := 31) (v := a1) 0 f40 rg_75_31_0_1 (by first | decide | omega) (by first | decide | omega) (by decide)
        generalize e43 : x_up h37 75 31 a1 = h41 at j42 f44 ⊢
        refine x_aload (np := 46) (x := 0) (by decide +kernel) rfl (x_nc_le (by decide)) ?_
        refine x_const (np := 47) (x := 9223372060477095941) (a := 2147483653) (by decide +kernel) (by decide) (by decide) ?_
        have m50 : WT 76 h1 := by rw [← e3]; exact WT.oth hW hJ (by decide)
        have m49 : WT 76 h37 := by rw [← e39]; exact WT.oth m50 j2 (by decide)
        have m48 : WT 76 h41 := by rw [← e43]; exact WT.oth m49 j38 (by decide)
        refine x_cI (t := 6) (mj := 260) (n := 2) (rc := 12) (ml := 3) (nr := 0) (np := 50) (as := [x_r 75, iv_c 2147483653]) (rest := []) (lo1 := [x_r 75, iv_c 2147483653, 147573952589676412928]) (by decide +kernel) (by decide) (by decide +kernel) (x_rb_of (by decide +kernel)) rfl rfl (x_wr (by decide) (x_wi (by decide) x_wn)) x_wn (by decide) rfl (c260_75 j42  (by first | decide | omega) m48) (fun v45 h51 l46 q47 => ?_)
        obtain ⟨j52, f53, b54⟩ := q47
        have f55 := Fr.trans f44 f53 (by decide)
        refine x_istore (np := 51) (x := 3) (lo' := [x_r 75, iv_c a1, iv_c a2, iv_c v45]) (by decide +kernel) l46 (Nat.le_of_ble_eq_true rfl) rfl ?_
        refine x_iload (np := 52) (x := 3) (by decide +kernel) rfl l46 ?_
        refine x_ifz (k := 2) (tg := 60) (np := 55) (by decide +kernel) (by decide) l46 (fun q56 => ?_) (fun q57 => ?_)
        · have q56 : v45 < 2147483648 := q56
          refine x_iload (np := 61) (x := 3) (by decide +kernel) rfl l46 ?_
          refine x_goto (np := 64) (x := 82) (by decide +kernel) ?_
          refine x_retI (np := 83) (x := 0) (by decide +kernel) l46 (Or.inl (by decide +kernel)) ⟨_, rfl, l46, ?_⟩
          exact ⟨j52, f55, (by first | decide | omega)⟩
        have q57 : ¬ (v45 < 2147483648) := q57
        refine x_iload (np := 56) (x := 2) (by decide +kernel) rfl la2 ?_
        refine x_const (np := 57) (x := 9223372034707292159) (a := 2147483647) (by decide +kernel) (by decide) (by decide) ?_
        refine x_icmp (k := 1) (tg := 64) (np := 60) (by decide +kernel) (by decide) la2 (by decide) (fun q58 => ?_) (fun q59 => ?_)
        · have q58 : a2 ≠ 2147483647 := q58
          refine x_iload (np := 65) (x := 2) (by decide +kernel) rfl la2 ?_
          refine x_iload (np := 66) (x := 3) (by decide +kernel) rfl l46 ?_
          refine x_icmp (k := 3) (tg := 81) (np := 69) (by decide +kernel) (by decide) la2 l46 (fun q60 => ?_) (fun q61 => ?_)
          · have q60 : v45 ≤ a2 := q60
            refine x_const (np := 82) (x := 9223372034707292159) (a := 2147483647) (by decide +kernel) (by decide) (by decide) ?_
            refine x_retI (np := 83) (x := 0) (by decide +kernel) (by decide) (Or.inl (by decide +kernel)) ⟨_, rfl, (by decide), ?_⟩
            exact ⟨j52, f55, (by first | decide | omega)⟩
          have q61 : ¬ (v45 ≤ a2) := q61
          refine x_aload (np := 70) (x := 0) (by decide +kernel) rfl (x_nc_le (by decide)) ?_
          have q62 : h51 75 35 = 96 := by have z := jB (e := 35) 0 j52 rg_75_35_0_1 (by decide) (by decide); omega
          refine x_getR (np := 73) (x := 739) (f := 35) (q := 96) (by decide +kernel) (by decide) (by decide +kernel) q62 ?_
          refine x_iload (np := 74) (x := 2) (by decide +kernel) rfl la2 ?_
          obtain ⟨u63, q64⟩ : ∃ z, a2 = 2147483648 + z := ⟨a2 - 2147483648, by first | decide | omega⟩
          have b65 := jB (e := u63) u63 j52 rg_96_0_1_5 (by first | decide | omega) (by first | decide | omega)
          refine x_aldC (np := 75) (x := 0) (n := 5) (i := u63) (q := (h51 96 u63)) (by decide +kernel) (by decide +kernel) (by first | decide | omega) (by first | decide | omega) (by decide) rfl (fun l66 => ?_)
          refine x_nI (t := 0) (mj := 246) (n := 1) (rc := 0) (ml := 1) (nr := 0) (np := 78) (as := [iv_c (h51 96 u63)]) (rest := []) (lo1 := [iv_c (h51 96 u63)]) (by decide +kernel) (by decide) (by decide +kernel) (Or.inl rfl) rfl rfl (x_wi l66 x_wn) x_wn (by decide) rfl ?_
          refine x_const (np := 3) (x := 9223414988675229456) (a := 2147493648) (by decide +kernel) (by decide) (by decide) ?_
          refine x_iload (np := 4) (x := 0) (by decide +kernel) rfl l66 ?_
          refine x_nI (t := 0) (mj := 242) (n := 1) (rc := 0) (ml := 1) (nr := 1) (np := 7) (as := [iv_c (h51 96 u63)]) (rest := [iv_c 2147493648]) (lo1 := [iv_c (h51 96 u63)]) (by decide +kernel) (by decide) (by decide +kernel) (Or.inl rfl) rfl rfl (x_wi l66 x_wn) (x_wi (by decide) x_wn) (by decide) rfl ?_
          refine x_iload (np := 1) (x := 0) (by decide +kernel) rfl l66 ?_
          refine x_const (np := 4) (x := 9223375749854004064) (a := 2147484512) (by decide +kernel) (by decide) (by decide) ?_
          refine x_anyD (np := 5) (k9 := 6) (by decide +kernel) (by decide) l66 (by decide) (by decide) (fun v67 l68 => ?_)
          refine x_retI (np := 6) (x := 0) (by decide +kernel) l68 (Or.inl (by decide +kernel)) ⟨_, rfl, l68, ?_⟩
          refine x_mulA (by rw [tb_b246]; decide +kernel) (by decide) l68 (fun v69 l70 => ?_)
          refine x_const (np := 11) (x := 9223376333969556456) (a := 2147484648) (by decide +kernel) (by decide) (by decide) ?_
          refine x_iload (np := 12) (x := 0) (by decide +kernel) rfl l66 ?_
          refine x_nI (t := 0) (mj := 243) (n := 1) (rc := 0) (ml := 1) (nr := 2) (np := 15) (as := [iv_c (h51 96 u63)]) (rest := [iv_c 2147484648, iv_c v69]) (lo1 := [iv_c (h51 96 u63)]) (by decide +kernel) (by decide) (by decide +kernel) (Or.inl rfl) rfl rfl (x_wi l66 x_wn) (x_wi (by decide) (x_wi l70 x_wn)) (by decide) rfl ?_
          refine x_iload (np := 1) (x := 0) (by decide +kernel) rfl l66 ?_
          refine x_const (np := 4) (x := 9223372657477550224) (a := 2147483792) (by decide +kernel) (by decide) (by decide) ?_
          refine x_anyD (np := 5) (k9 := 6) (by decide +kernel) (by decide) l66 (by decide) (by decide) (fun v71 l72 => ?_)
          refine x_const (np := 7) (x := 9223372064772063238) (a := 2147483654) (by decide +kernel) (by decide) (by decide) ?_
          refine x_anyD (np := 8) (k9 := 7) (by decide +kernel) (by decide) l72 (by decide) (by decide) (fun v73 l74 => ?_)
          refine x_retI (np := 9) (x := 0) (by decide +kernel) l74 (Or.inl (by decide +kernel)) ⟨_, rfl, l74, ?_⟩
          refine x_mulA (by rw [tb_b246]; decide +kernel) (by decide) l74 (fun v75 l76 => ?_)
          refine x_addA (by rw [tb_b246]; decide +kernel) l70 l76 (fun v77 l78 => ?_)
          refine x_const (np := 19) (x := 9223372124901605396) (a := 2147483668) (by decide +kernel) (by decide) (by decide) ?_
          refine x_iload (np := 20) (x := 0) (by decide +kernel) rfl l66 ?_
          refine x_nI (t := 0) (mj := 244) (n := 1) (rc := 0) (ml := 1) (nr := 2) (np := 23) (as := [iv_c (h51 96 u63)]) (rest := [iv_c 2147483668, iv_c v77]) (lo1 := [iv_c (h51 96 u63)]) (by decide +kernel) (by decide) (by decide +kernel) (Or.inl rfl) rfl rfl (x_wi l66 x_wn) (x_wi (by decide) (x_wi l78 x_wn)) (by decide) rfl ?_
          refine x_iload (np := 1) (x := 0) (by decide +kernel) rfl l66 ?_
          refine x_const (np := 3) (x := 9223372090541867020) (a := 2147483660) (by decide +kernel) (by decide) (by decide) ?_
          refine x_anyD (np := 4) (k9 := 6) (by decide +kernel) (by decide) l66 (by decide) (by decide) (fun v79 l80 => ?_)
          refine x_const (np := 6) (x := 9223372090541867020) (a := 2147483660) (by decide +kernel) (by decide) (by decide) ?_
          refine x_anyD (np := 7) (k9 := 7) (by decide +kernel) (by decide) l80 (by decide) (by decide) (fun v81 l82 => ?_)
          refine x_retI (np := 8) (x := 0) (by decide +kernel) l82 (Or.inl (by decide +kernel)) ⟨_, rfl, l82, ?_⟩
          refine x_mulA (by rw [tb_b246]; decide +kernel) (by decide) l82 (fun v83 l84 => ?_)
          refine x_addA (by rw [tb_b246]; decide +kernel) l78 l84 (fun v85 l86 => ?_)
          refine x_iload (np := 26) (x := 0) (by decide +kernel) rfl l66 ?_
          refine x_nI (t := 0) (mj := 245) (n := 1) (rc := 0) (ml := 1) (nr := 1) (np := 29) (as := [iv_c (h51 96 u63)]) (rest := [iv_c v85]) (lo1 := [iv_c (h51 96 u63)]) (by decide +kernel) (by decide) (by decide +kernel) (Or.inl rfl) rfl rfl (x_wi l66 x_wn) (x_wi l86 x_wn) (by decide) rfl ?_
          refine x_iload (np := 1) (x := 0) (by decide +kernel) rfl l66 ?_
          refine x_const (np := 3) (x := 9223372090541867020) (a := 2147483660) (by decide +kernel) (by decide) (by decide) ?_
          refine x_anyD (np := 4) (k9 := 7) (by decide +kernel) (by decide) l66 (by decide) (by decide) (fun v87 l88 => ?_)
          refine x_retI (np := 5) (x := 0) (by decide +kernel) l88 (Or.inl (by decide +kernel)) ⟨_, rfl, l88, ?_⟩
          refine x_addA (by rw [tb_b246]; decide +kernel) l86 l88 (fun v89 l90 => ?_)
          refine x_retI (np := 31) (x := 0) (by decide +kernel) l90 (Or.inl (by decide +kernel)) ⟨_, rfl, l90, ?_⟩
          refine x_goto (np := 81) (x := 82) (by decide +kernel) ?_
          refine x_retI (np := 83) (x := 0) (by decide +kernel) l90 (Or.inl (by decide +kernel)) ⟨_, rfl, l90, ?_⟩
          exact ⟨j52, f55, (by first | decide | omega)⟩
        have q59 : ¬ (a2 ≠ 2147483647) := q59
        refine x_iload (np := 61) (x := 3) (by decide +kernel) rfl l46 ?_
        refine x_goto (np := 64) (x := 82) (by decide +kernel) ?_
        refine x_retI (np := 83) (x := 0) (by decide +kernel) l46 (Or.inl (by decide +kernel)) ⟨_, rfl, l46, ?_⟩
        exact ⟨j52, f55, (by first | decide | omega)⟩
      have q36 : ¬ (2147483648 = 2147483648) := q36
      exfalso; omega
    have q34 : ¬ (2147483648 = 2147483648) := q34
    exfalso; omega
  have q32 : ¬ (2147483647 ≤ a2) := q32
  refine x_const (np := 22) (x := 9223372043297226753) (a := 2147483649) (by decide +kernel) (by decide) (by decide) ?_
  refine x_goto (np := 25) (x := 26) (by decide +kernel) ?_
  refine x_const (np := 27) (x := 9223372043297226753) (a := 2147483649) (by decide +kernel) (by decide) (by decide) ?_
  refine x_nI (t := 6) (mj := 152) (n := 3) (rc := 12) (ml := 3) (nr := 0) (np := 30) (as := [x_r 75, iv_c 2147483649, iv_c 2147483649]) (rest := []) (lo1 := [x_r 75, iv_c 2147483649, iv_c 2147483649]) (by decide +kernel) (by decide) (by decide +kernel) (x_rb_of (by decide +kernel)) rfl rfl (x_wr (by decide) (x_wi (by decide) (x_wi (by decide) x_wn))) x_wn (by decide) rfl ?_
  refine x_iload (np := 1) (x := 1) (by decide +kernel) rfl (by decide) ?_
  refine x_ifz (k := 0) (tg := 9) (np := 4) (by decide +kernel) (by decide) (by decide) (fun q91 => ?_) (fun q92 => ?_)
  · have q91 : 2147483649 = 2147483648 := q91
    exfalso; omega
  have q92 : ¬ (2147483649 = 2147483648) := q92
  refine x_aload (np := 5) (x := 0) (by decide +kernel) rfl (x_nc_le (by decide)) ?_
  refine x_iload (np := 6) (x := 2) (by decide +kernel) rfl (by decide) ?_
  refine x_putI (np := 9) (x := 704) (f := 0) (by decide +kernel) (by decide +kernel) (by decide) (Or.inl (by decide)) ?_
  have j94 := jU (e := 0) (v := 2147483649) 0 j2 rg_75_0_0_1 (by first | decide | omega) (by first | decide | omega) (by first | decide | omega)
  have f96 := jF (e := 0) (v := 2147483649) 0 f4 rg_75_0_0_1 (by first | decide | omega) (by first | decide | omega) (by decide)
  generalize e95 : x_up h1 75 0 2147483649 = h93 at j94 f96 ⊢
  refine x_iload (np := 10) (x := 1) (by decide +kernel) rfl (by decide) ?_
  refine x_retI (np := 11) (x := 0) (by decide +kernel) (by decide) (Or.inr ⟨by decide +kernel, by first | decide | omega, by first | decide | omega⟩) ⟨_, rfl, (by decide), ?_⟩
  refine x_ifz (k := 0) (tg := 35) (np := 33) (by decide +kernel) (by decide) (by decide) (fun q97 => ?_) (fun q98 => ?_)
  · have q97 : 2147483649 = 2147483648 := q97
    exfalso; omega
  have q98 : ¬ (2147483649 = 2147483648) := q98
  refine x_const (np := 34) (x := 9223372039002259456) (a := 2147483648) (by decide +kernel) (by decide) (by decide) ?_
  refine x_retI (np := 35) (x := 0) (by decide +kernel) (by decide) (Or.inl (by decide +kernel)) ⟨_, rfl, (by decide), ?_⟩
  exact ⟨j94, f96, (by first | decide | omega)⟩
set_option maxHeartbeats 0 in
/-- LentNamesModel.agree()I -/
theorem c264_75 {sc : Nat × Nat} {d  : Nat} {h : xh} (hJ : J h) (hW : WT 76 h) : X sc 264 (d + 5) (xI fun r h' => J h' ∧ Fr 135291600897 h h' ∧ (0 ≤ r ∧ r ≤ 4294967295)) 0 0 0 [x_r 75, 147573952589676412928, 147573952589676412928] [] h := by
  have hF := Fr.refl 135291600897 h
  refine x_aload (np := 1) (x := 0) (by decide +kernel) rfl (x_nc_le (by decide)) ?_
  refine x_const (np := 2) (x := 9223372039002259456) (a := 2147483648) (by decide +kernel) (by decide) (by decide) ?_
  refine x_putI (np := 5) (x := 704) (f := 0) (by decide +kernel) (by decide +kernel) (by decide) (Or.inl (by decide)) ?_
  have j2 := jU (e := 0) (v := 2147483648) 0 hJ rg_75_0_0_1 (by first | decide | omega) (by first | decide | omega) (by first | decide | omega)
  have f4 := jF (e := 0) (v := 2147483648) 0 hF rg_75_0_0_1 (by first | decide | omega) (by first | decide | omega) (by decide)
  generalize e3 : x_up h 75 0 2147483648 = h1 at j2 f4 ⊢
  refine x_aload (np := 6) (x := 0) (by decide +kernel) rfl (x_nc_le (by decide)) ?_
  have m8 : WT 76 h1 := by rw [← e3]; exact WT.oth hW hJ (by decide)
  refine x_cV (t := 6) (mj := 210) (n := 1) (rc := 12) (ml := 5) (nr := 0) (np := 9) (as := [x_r 75]) (rest := []) (lo1 := [x_r 75, 147573952589676412928, 147573952589676412928, 147573952589676412928, 147573952589676412928]) (by decide +kernel) (by decide) (by decide +kernel) (x_rb_of (by decide +kernel)) rfl rfl (x_wr (by decide) x_wn) x_wn (by decide) rfl (c210_75 j2  m8) (fun h9 q7 => ?_)
  obtain ⟨j10, f11⟩ := q7
  have f14 := Fr.trans f4 f11 (by decide)
  refine x_const (np := 10) (x := 9223372039002259456) (a := 2147483648) (by decide +kernel) (by decide) (by decide) ?_
  refine x_istore (np := 11) (x := 1) (lo' := [x_r 75, iv_c 2147483648, 147573952589676412928]) (by decide +kernel) (by decide) (Nat.le_of_ble_eq_true rfl) rfl ?_
  refine x_const (np := 12) (x := 9223372039002259456) (a := 2147483648) (by decide +kernel) (by decide) (by decide) ?_
  refine x_istore (np := 13) (x := 2) (lo' := [x_r 75, iv_c 2147483648, iv_c 2147483648]) (by decide +kernel) (by decide) (Nat.le_of_ble_eq_true rfl) rfl ?_
  have p514 : ∀ (n : Nat) (v510 : Nat) (v512 : Nat), 4294967296 - v512 < n → (0 ≤ v510 ∧ v510 ≤ 4294967295) → (2147483648 ≤ v512 ∧ v512 ≤ 2147483658) → X sc 264 (d + 5) (xI fun r h' => J h' ∧ Fr 135291600897 h h' ∧ (0 ≤ r ∧ r ≤ 4294967295)) 0 0 13 [x_r 75, iv_c v510, iv_c v512] [] h9 := by
    intro n
    induction n with
    | zero => intro v510 v512 q515; exact absurd q515 (Nat.not_lt_zero _)
    | succ n i516 =>
      intro v510 v512 q515 b511 b513
      refine x_iload (np := 14) (x := 2) (by decide +kernel) rfl (by first | decide | omega) ?_
      refine x_aload (np := 15) (x := 0) (by decide +kernel) rfl (x_nc_le (by decide)) ?_
      have q517 : h9 75 1 = 76 := by have z := jB (e := 1) 0 j10 rg_75_1_0_1 (by decide) (by decide); omega
      refine x_getR (np := 18) (x := 705) (f := 1) (q := 76) (by decide +kernel) (by decide) (by decide +kernel) q517 ?_
      refine x_const (np := 19) (x := 9223372060477095941) (a := 2147483653) (by decide +kernel) (by decide) (by decide) ?_
      have q518 : h9 76 5 = h1 76 5 := jK 0 f11 rg_76_5_0_1 (by first | decide | omega) (by first | decide | omega) (by decide)
      have q519 : h1 76 5 = h 76 5 := by rw [← e3]; exact x_up_k (by decide)
      have b520 := jB (e := 5) 0 hJ rg_76_5_0_1 (by first | decide | omega) (by first | decide | omega)
      refine x_aldC (np := 20) (x := 0) (n := 1952) (i := 5) (q := (h 76 5)) (by decide +kernel) (by decide +kernel) (by first | decide | omega) (by first | decide | omega) (by decide) (q518.trans q519) (fun l521 => ?_)
      refine x_icmp (k := 3) (tg := 47) (np := 23) (by decide +kernel) (by decide) (by first | decide | omega) l521 (fun q522 => ?_) (fun q523 => ?_)
      · have q522 : (h 76 5) ≤ v512 := q522
        refine x_iload (np := 48) (x := 1) (by decide +kernel) rfl (by first | decide | omega) ?_
        refine x_retI (np := 49) (x := 0) (by decide +kernel) (by first | decide | omega) (Or.inl (by decide +kernel)) ⟨_, rfl, (by first | decide | omega), ?_⟩
        exact ⟨j10, f14, (by first | decide | omega)⟩
      have q523 : ¬ ((h 76 5) ≤ v512) := q523
      refine x_iload (np := 24) (x := 1) (by decide +kernel) rfl (by first | decide | omega) ?_
      refine x_aload (np := 25) (x := 0) (by decide +kernel) rfl (x_nc_le (by decide)) ?_
      refine x_iload (np := 26) (x := 2) (by decide +kernel) rfl (by first | decide | omega) ?_
      refine x_nI (t := 6) (mj := 250) (n := 2) (rc := 12) (ml := 3) (nr := 1) (np := 29) (as := [x_r 75, iv_c v512]) (rest := [iv_c v510]) (lo1 := [x_r 75, iv_c v512, 147573952589676412928]) (by decide +kernel) (by decide) (by decide +kernel) (x_rb_of (by decide +kernel)) rfl rfl (x_wr (by decide) (x_wi (by first | decide | omega) x_wn)) (x_wi (by first | decide | omega) x_wn) (by decide) rfl ?_
      refine x_aload (np := 1) (x := 0) (by decide +kernel) rfl (x_nc_le (by decide)) ?_
      refine x_aload (np := 2) (x := 0) (by decide +kernel) rfl (x_nc_le (by decide)) ?_
      refine x_iload (np := 3) (x := 1) (by decide +kernel) rfl (by first | decide | omega) ?_
      refine x_const (np := 4) (x := 9223372039002259456) (a := 2147483648) (by decide +kernel) (by decide) (by decide) ?_
      refine x_nI (t := 6) (mj := 164) (n := 3) (rc := 12) (ml := 3) (nr := 1) (np := 7) (as := [x_r 75, iv_c v512, iv_c 2147483648]) (rest := [x_r 75]) (lo1 := [x_r 75, iv_c v512, iv_c 2147483648]) (by decide +kernel) (by decide) (by decide +kernel) (x_rb_of (by decide +kernel)) rfl rfl (x_wr (by decide) (x_wi (by first | decide | omega) (x_wi (by decide) x_wn))) (x_wr (by decide) x_wn) (by decide) rfl ?_
      refine x_aload (np := 1) (x := 0) (by decide +kernel) rfl (x_nc_le (by decide)) ?_
      have q524 : h9 75 1 = 76 := by have z := jB (e := 1) 0 j10 rg_75_1_0_1 (by decide) (by decide); omega
      refine x_getR (np := 4) (x := 705) (f := 1) (q := 76) (by decide +kernel) (by decide) (by decide +kernel) q524 ?_
      refine x_const (np := 7) (x := 9223373112744083706) (a := 2147483898) (by decide +kernel) (by decide) (by decide) ?_
      refine x_const (np := 8) (x := 9223372056182128644) (a := 2147483652) (by decide +kernel) (by decide) (by decide) ?_
      refine x_iload (np := 9) (x := 1) (by decide +kernel) rfl (by first | decide | omega) ?_
      obtain ⟨u525, q526⟩ : ∃ z, v512 = 2147483648 + z := ⟨v512 - 2147483648, by first | decide | omega⟩
      refine x_imul (np := 10) (x := 0) (i := 4) (j := u525) (v := (2147483648 + 4 * u525)) (by decide +kernel) (by first | decide | omega) (by first | decide | omega) (by first | decide | omega) (by first | decide | omega) (by decide) (by first | decide | omega) ?_
      refine x_iadd (np := 11) (x := 0) (v := (2147483898 + 4 * u525)) (by decide +kernel) (by decide) (by first | decide | omega) (by first | decide | omega) (by first | decide | omega) ?_
      refine x_iload (np := 12) (x := 2) (by decide +kernel) rfl (by decide) ?_
      refine x_iadd (np := 13) (x := 0) (v := (2147483898 + 4 * u525)) (by decide +kernel) (by first | decide | omega) (by decide) (by first | decide | omega) (by first | decide | omega) ?_
      have q528 : h9 76 (250 + 4 * u525) = h1 76 (250 + 4 * u525) := jK u525 f11 rg_76_250_4_10 (by first | decide | omega) (by first | decide | omega) (by decide)
      have q529 : h1 76 (250 + 4 * u525) = h 76 (250 + 4 * u525) := by rw [← e3]; exact x_up_k (by decide)
      have b530 := jB (e := (250 + 4 * u525)) u525 hJ rg_76_250_4_10 (by first | decide | omega) (by first | decide | omega)
      refine x_aldC (np := 14) (x := 0) (n := 1952) (i := (250 + 4 * u525)) (q := ((h 76 (250 + 4 * u525)))) (by decide +kernel) (by decide +kernel) (by first | decide | omega) (by first | decide | omega) (by decide) (q528.trans q529) (fun l531 => ?_)
      refine x_retI (np := 15) (x := 0) (by decide +kernel) l531 (Or.inl (by decide +kernel)) ⟨_, rfl, l531, ?_⟩
      refine x_aload (np := 8) (x := 0) (by decide +kernel) rfl (x_nc_le (by decide)) ?_
      refine x_iload (np := 9) (x := 1) (by decide +kernel) rfl (by first | decide | omega) ?_
      refine x_const (np := 10) (x := 9223372043297226753) (a := 2147483649) (by decide +kernel) (by decide) (by decide) ?_
      refine x_nI (t := 6) (mj := 164) (n := 3) (rc := 12) (ml := 3) (nr := 2) (np := 13) (as := [x_r 75, iv_c v512, iv_c 2147483649]) (rest := [iv_c ((h 76 (250 + 4 * u525))), x_r 75]) (lo1 := [x_r 75, iv_c v512, iv_c 2147483649]) (by decide +kernel) (by decide) (by decide +kernel) (x_rb_of (by decide +kernel)) rfl rfl (x_wr (by decide) (x_wi (by first | decide | omega) (x_wi (by decide) x_wn))) (x_wi l531 (x_wr (by decide) x_wn)) (by decide) rfl ?_
      refine x_aload (np := 1) (x := 0) (by decide +kernel) rfl (x_nc_le (by decide)) ?_
      have q532 : h9 75 1 = 76 := by have z := jB (e := 1) 0 j10 rg_75_1_0_1 (by decide) (by decide); omega
      refine x_getR (np := 4) (x := 705) (f := 1) (q := 76) (by decide +kernel) (by decide) (by decide +kernel) q532 ?_
      refine x_const (np := 7) (x := 9223373112744083706) (a := 2147483898) (by decide +kernel) (by decide) (by decide) ?_
      refine x_const (np := 8) (x := 9223372056182128644) (a := 2147483652) (by decide +kernel) (by decide) (by decide) ?_
      refine x_iload (np := 9) (x := 1) (by decide +kernel) rfl (by first | decide | omega) ?_
      refine x_imul (np := 10) (x := 0) (i := 4) (j := u525) (v := (2147483648 + 4 * u525)) (by decide +kernel) (by first | decide | omega) (by first | decide | omega) (by first | decide | omega) (by first | decide | omega) (by decide) (by first | decide | omega) ?_
      refine x_iadd (np := 11) (x := 0) (v := (2147483898 + 4 * u525)) (by decide +kernel) (by decide) (by first | decide | omega) (by first | decide | omega) (by first | decide | omega) ?_
      refine x_iload (np := 12) (x := 2) (by decide +kernel) rfl (by decide) ?_
      refine x_iadd (np := 13) (x := 0) (v := (2147483899 + 4 * u525)) (by decide +kernel) (by first | decide | omega) (by decide) (by first | decide | omega) (by first | decide | omega) ?_
      have q534 : h9 76 (251 + 4 * u525) = h1 76 (251 + 4 * u525) := jK u525 f11 rg_76_251_4_10 (by first | decide | omega) (by first | decide | omega) (by decide)
      have q535 : h1 76 (251 + 4 * u525) = h 76 (251 + 4 * u525) := by rw [← e3]; exact x_up_k (by decide)
      have b536 := jB (e := (251 + 4 * u525)) u525 hJ rg_76_251_4_10 (by first | decide | omega) (by first | decide | omega)
      refine x_aldC (np := 14) (x := 0) (n := 1952) (i := (251 + 4 * u525)) (q := ((h 76 (251 + 4 * u525)))) (by decide +kernel) (by decide +kernel) (by first | decide | omega) (by first | decide | omega) (by decide) (q534.trans q535) (fun l537 => ?_)
      refine x_retI (np := 15) (x := 0) (by decide +kernel) l537 (Or.inl (by decide +kernel)) ⟨_, rfl, l537, ?_⟩
      refine x_cP (t := 6) (mj := 217) (n := 3) (rc := 12) (ml := 3) (nr := 0) (np := 16) (as := [x_r 75, iv_c ((h 76 (250 + 4 * u525))), iv_c ((h 76 (251 + 4 * u525)))]) (rest := []) (lo1 := [x_r 75, iv_c ((h 76 (250 + 4 * u525))), iv_c ((h 76 (251 + 4 * u525)))]) (by decide +kernel) (by decide) (by decide +kernel) (x_rb_of (by decide +kernel)) rfl rfl (x_wr (by decide) (x_wi l531 (x_wi l537 x_wn))) x_wn (by decide) rfl (c217_75 j10  (by first | decide | omega) (by first | decide | omega)) (fun v538 l539 q540 => ?_)
      refine x_istore (np := 17) (x := 2) (lo' := [x_r 75, iv_c v512, iv_c v538]) (by decide +kernel) l539 (Nat.le_of_ble_eq_true rfl) rfl ?_
      refine x_iload (np := 18) (x := 2) (by decide +kernel) rfl l539 ?_
      refine x_ifz (k := 2) (tg := 39) (np := 21) (by decide +kernel) (by decide) l539 (fun q541 => ?_) (fun q542 => ?_)
      · have q541 : v538 < 2147483648 := q541
        refine x_const (np := 40) (x := 9223372039002259456) (a := 2147483648) (by decide +kernel) (by decide) (by decide) ?_
        refine x_retI (np := 41) (x := 0) (by decide +kernel) (by decide) (Or.inr ⟨by decide +kernel, by first | decide | omega, by first | decide | omega⟩) ⟨_, rfl, (by decide), ?_⟩
        refine x_ifz (k := 0) (tg := 38) (np := 32) (by decide +kernel) (by decide) (by decide) (fun q543 => ?_) (fun q544 => ?_)
        · have q543 : 2147483648 = 2147483648 := q543
          refine x_const (np := 39) (x := 9223372039002259456) (a := 2147483648) (by decide +kernel) (by decide) (by decide) ?_
          refine x_any (np := 40) (k9 := 1) (by decide +kernel) (by decide) (by first | decide | omega) (by decide) (fun v545 l546 => ?_)
          refine x_istore (np := 41) (x := 1) (lo' := [x_r 75, iv_c v545, iv_c v512]) (by decide +kernel) l546 (Nat.le_of_ble_eq_true rfl) rfl ?_
          refine x_iinc (np := 44) (i := 2) (j := 2147483649) (v := (1 + v512)) (lo' := [x_r 75, iv_c v545, iv_c (1 + v512)]) (by decide +kernel) (by decide) (by decide) rfl (by first | decide | omega) (by first | decide | omega) (by first | decide | omega) rfl ?_
          refine x_goto (np := 47) (x := 13) (by decide +kernel) ?_
          exact i516 v545 (1 + v512) (by first | decide | omega) (by first | decide | omega) (by first | decide | omega)
        have q544 : ¬ (2147483648 = 2147483648) := q544
        exfalso; omega
      have q542 : ¬ (v538 < 2147483648) := q542
      refine x_aload (np := 22) (x := 0) (by decide +kernel) rfl (x_nc_le (by decide)) ?_
      refine x_iload (np := 23) (x := 1) (by decide +kernel) rfl (by first | decide | omega) ?_
      refine x_const (np := 24) (x := 9223372047592194050) (a := 2147483650) (by decide +kernel) (by decide) (by decide) ?_
      refine x_nI (t := 6) (mj := 164) (n := 3) (rc := 12) (ml := 3) (nr := 0) (np := 27) (as := [x_r 75, iv_c v512, iv_c 2147483650]) (rest := []) (lo1 := [x_r 75, iv_c v512, iv_c 2147483650]) (by decide +kernel) (by decide) (by decide +kernel) (x_rb_of (by decide +kernel)) rfl rfl (x_wr (by decide) (x_wi (by first | decide | omega) (x_wi (by decide) x_wn))) x_wn (by decide) rfl ?_
      refine x_aload (np := 1) (x := 0) (by decide +kernel) rfl (x_nc_le (by decide)) ?_
      have q547 : h9 75 1 = 76 := by have z := jB (e := 1) 0 j10 rg_75_1_0_1 (by decide) (by decide); omega
      refine x_getR (np := 4) (x := 705) (f := 1) (q := 76) (by decide +kernel) (by decide) (by decide +kernel) q547 ?_
      refine x_const (np := 7) (x := 9223373112744083706) (a := 2147483898) (by decide +kernel) (by decide) (by decide) ?_
      refine x_const (np := 8) (x := 9223372056182128644) (a := 2147483652) (by decide +kernel) (by decide) (by decide) ?_
      refine x_iload (np := 9) (x := 1) (by decide +kernel) rfl (by first | decide | omega) ?_
      refine x_imul (np := 10) (x := 0) (i := 4) (j := u525) (v := (2147483648 + 4 * u525)) (by decide +kernel) (by first | decide | omega) (by first | decide | omega) (by first | decide | omega) (by first | decide | omega) (by decide) (by first | decide | omega) ?_
      refine x_iadd (np := 11) (x := 0) (v := (2147483898 + 4 * u525)) (by decide +kernel) (by decide) (by first | decide | omega) (by first | decide | omega) (by first | decide | omega) ?_
      refine x_iload (np := 12) (x := 2) (by decide +kernel) rfl (by decide) ?_
      refine x_iadd (np := 13) (x := 0) (v := (2147483900 + 4 * u525)) (by decide +kernel) (by first | decide | omega) (by decide) (by first | decide | omega) (by first | decide | omega) ?_
      have q549 : h9 76 (252 + 4 * u525) = h1 76 (252 + 4 * u525) := jK u525 f11 rg_76_252_4_10 (by first | decide | omega) (by first | decide | omega) (by decide)
      have q550 : h1 76 (252 + 4 * u525) = h 76 (252 + 4 * u525) := by rw [← e3]; exact x_up_k (by decide)
      refine x_aldC (np := 14) (x := 0) (n := 1952) (i := (252 + 4 * u525)) (q := ((h 76 (252 + 4 * u525)))) (by decide +kernel) (by decide +kernel) (by first | decide | omega) (by first | decide | omega) (by decide) (q549.trans q550) (fun l551 => ?_)
      refine x_retI (np := 15) (x := 0) (by decide +kernel) l551 (Or.inl (by decide +kernel)) ⟨_, rfl, l551, ?_⟩
      refine x_iload (np := 28) (x := 2) (by decide +kernel) rfl l539 ?_
      refine x_any (np := 29) (k9 := 4) (by decide +kernel) (by decide) l551 l539 (fun v552 l553 => ?_)
      refine x_const (np := 30) (x := 9223372043297226753) (a := 2147483649) (by decide +kernel) (by decide) (by decide) ?_
      refine x_mask (np := 31) (m := 1) (k9 := 2) (by decide +kernel) l553 (by decide +kernel) (by decide) (by decide) (by decide) (fun u554 l555 => ?_)
      refine x_const (np := 32) (x := 9223372043297226753) (a := 2147483649) (by decide +kernel) (by decide) (by decide) ?_
      refine x_icmp (k := 1) (tg := 39) (np := 35) (by decide +kernel) (by decide) (by first | decide | omega) (by decide) (fun q556 => ?_) (fun q557 => ?_)
      · have q556 : (2147483648 + u554) ≠ 2147483649 := q556
        refine x_const (np := 40) (x := 9223372039002259456) (a := 2147483648) (by decide +kernel) (by decide) (by decide) ?_
        refine x_retI (np := 41) (x := 0) (by decide +kernel) (by decide) (Or.inr ⟨by decide +kernel, by first | decide | omega, by first | decide | omega⟩) ⟨_, rfl, (by decide), ?_⟩
        refine x_ifz (k := 0) (tg := 38) (np := 32) (by decide +kernel) (by decide) (by decide) (fun q558 => ?_) (fun q559 => ?_)
        · have q558 : 2147483648 = 2147483648 := q558
          refine x_const (np := 39) (x := 9223372039002259456) (a := 2147483648) (by decide +kernel) (by decide) (by decide) ?_
          refine x_any (np := 40) (k9 := 1) (by decide +kernel) (by decide) (by first | decide | omega) (by decide) (fun v560 l561 => ?_)
          refine x_istore (np := 41) (x := 1) (lo' := [x_r 75, iv_c v560, iv_c v512]) (by decide +kernel) l561 (Nat.le_of_ble_eq_true rfl) rfl ?_
          refine x_iinc (np := 44) (i := 2) (j := 2147483649) (v := (1 + v512)) (lo' := [x_r 75, iv_c v560, iv_c (1 + v512)]) (by decide +kernel) (by decide) (by decide) rfl (by first | decide | omega) (by first | decide | omega) (by first | decide | omega) rfl ?_
          refine x_goto (np := 47) (x := 13) (by decide +kernel) ?_
          exact i516 v560 (1 + v512) (by first | decide | omega) (by first | decide | omega) (by first | decide | omega)
        have q559 : ¬ (2147483648 = 2147483648) := q559
        exfalso; omega
      have q557 : ¬ ((2147483648 + u554) ≠ 2147483649) := q557
      refine x_const (np := 36) (x := 9223372043297226753) (a := 2147483649) (by decide +kernel) (by decide) (by decide) ?_
      refine x_goto (np := 39) (x := 40) (by decide +kernel) ?_
      refine x_retI (np := 41) (x := 0) (by decide +kernel) (by decide) (Or.inr ⟨by decide +kernel, by first | decide | omega, by first | decide | omega⟩) ⟨_, rfl, (by decide), ?_⟩
      refine x_ifz (k := 0) (tg := 38) (np := 32) (by decide +kernel) (by decide) (by decide) (fun q562 => ?_) (fun q563 => ?_)
      · have q562 : 2147483649 = 2147483648 := q562
        exfalso; omega
      have q563 : ¬ (2147483649 = 2147483648) := q563
      refine x_const (np := 33) (x := 9223372043297226753) (a := 2147483649) (by decide +kernel) (by decide) (by decide) ?_
      refine x_iload (np := 34) (x := 2) (by decide +kernel) rfl (by first | decide | omega) ?_
      refine x_any (np := 35) (k9 := 3) (by decide +kernel) (by decide) (by decide) (by first | decide | omega) (fun v564 l565 => ?_)
      refine x_goto (np := 38) (x := 39) (by decide +kernel) ?_
      refine x_any (np := 40) (k9 := 1) (by decide +kernel) (by decide) (by first | decide | omega) l565 (fun v566 l567 => ?_)
      refine x_istore (np := 41) (x := 1) (lo' := [x_r 75, iv_c v566, iv_c v512]) (by decide +kernel) l567 (Nat.le_of_ble_eq_true rfl) rfl ?_
      refine x_iinc (np := 44) (i := 2) (j := 2147483649) (v := (1 + v512)) (lo' := [x_r 75, iv_c v566, iv_c (1 + v512)]) (by decide +kernel) (by decide) (by decide) rfl (by first | decide | omega) (by first | decide | omega) (by first | decide | omega) rfl ?_
      refine x_goto (np := 47) (x := 13) (by decide +kernel) ?_
      exact i516 v566 (1 + v512) (by first | decide | omega) (by first | decide | omega) (by first | decide | omega)
  exact p514 _ 2147483648 2147483648 (Nat.lt_succ_self _) (by first | decide | omega) (by first | decide | omega)
set_option maxHeartbeats 0 in
/-- LentNamesModel.can(I)I -/
theorem c265_75 {sc : Nat × Nat} {d a1 : Nat} {h : xh} (hJ : J h) (ba1 : 0 ≤ a1 ∧ a1 ≤ 4294967295) : X sc 265 (d + 2) (xI fun r h' => J h' ∧ Fr 131072 h h' ∧ (0 ≤ r ∧ r ≤ 4294967295)) 0 0 0 [x_r 75, iv_c a1, 147573952589676412928, 147573952589676412928] [] h := by
  have la1 : a1 < 4294967296 := by first | decide | omega
  have hF := Fr.refl 131072 h
  refine x_aload (np := 1) (x := 0) (by decide +kernel) rfl (x_nc_le (by decide)) ?_
  refine x_const (np := 2) (x := 9223372039002259456) (a := 2147483648) (by decide +kernel) (by decide) (by decide) ?_
  refine x_putI (np := 5) (x := 704) (f := 0) (by decide +kernel) (by decide +kernel) (by decide) (Or.inl (by decide)) ?_
  have j2 := jU (e := 0) (v := 2147483648) 0 hJ rg_75_0_0_1 (by first | decide | omega) (by first | decide | omega) (by first | decide | omega)
  have f4 := jF (e := 0) (v := 2147483648) 0 hF rg_75_0_0_1 (by first | decide | omega) (by first | decide | omega) (by decide)
  generalize e3 : x_up h 75 0 2147483648 = h1 at j2 f4 ⊢
  refine x_aload (np := 6) (x := 0) (by decide +kernel) rfl (x_nc_le (by decide)) ?_
  refine x_aload (np := 7) (x := 0) (by decide +kernel) rfl (x_nc_le (by decide)) ?_
  refine x_iload (np := 8) (x := 1) (by decide +kernel) rfl la1 ?_
  refine x_const (np := 9) (x := 9223372060477095941) (a := 2147483653) (by decide +kernel) (by decide) (by decide) ?_
  refine x_nI (t := 6) (mj := 158) (n := 3) (rc := 12) (ml := 3) (nr := 1) (np := 12) (as := [x_r 75, iv_c a1, iv_c 2147483653]) (rest := [x_r 75]) (lo1 := [x_r 75, iv_c a1, iv_c 2147483653]) (by decide +kernel) (by decide) (by decide +kernel) (x_rb_of (by decide +kernel)) rfl rfl (x_wr (by decide) (x_wi la1 (x_wi (by decide) x_wn))) (x_wr (by decide) x_wn) (by decide) rfl ?_
  refine x_iload (np := 1) (x := 1) (by decide +kernel) rfl la1 ?_
  refine x_const (np := 2) (x := 9223372039002259456) (a := 2147483648) (by decide +kernel) (by decide) (by decide) ?_
  refine x_aload (np := 3) (x := 0) (by decide +kernel) rfl (x_nc_le (by decide)) ?_
  have q5 : h1 75 1 = 76 := by have z := jB (e := 1) 0 j2 rg_75_1_0_1 (by decide) (by decide); omega
  refine x_getR (np := 6) (x := 705) (f := 1) (q := 76) (by decide +kernel) (by decide) (by decide +kernel) q5 ?_
  refine x_iload (np := 7) (x := 2) (by decide +kernel) rfl (by decide) ?_
  have q6 : h1 76 5 = h 76 5 := by rw [← e3]; exact x_up_k (by decide)
  have b7 := jB (e := 5) 0 hJ rg_76_5_0_1 (by first | decide | omega) (by first | decide | omega)
  refine x_aldC (np := 8) (x := 0) (n := 1952) (i := 5) (q := (h 76 5)) (by decide +kernel) (by decide +kernel) (by first | decide | omega) (by first | decide | omega) (by decide) q6 (fun l8 => ?_)
  refine x_const (np := 9) (x := 9223372043297226753) (a := 2147483649) (by decide +kernel) (by decide) (by decide) ?_
  obtain ⟨v9, q10⟩ : ∃ z, z + 2147483649 = (h 76 5) + 2147483648 := ⟨(h 76 5) + 2147483648 - 2147483649, by first | decide | omega⟩
  refine x_isub (np := 10) (x := 0) (v := v9) (by decide +kernel) l8 (by decide) (by first | decide | omega) (by first | decide | omega) ?_
  refine x_nI (t := 0) (mj := 153) (n := 3) (rc := 0) (ml := 3) (nr := 0) (np := 13) (as := [iv_c a1, iv_c 2147483648, iv_c v9]) (rest := []) (lo1 := [iv_c a1, iv_c 2147483648, iv_c v9]) (by decide +kernel) (by decide) (by decide +kernel) (Or.inl rfl) rfl rfl (x_wi la1 (x_wi (by decide) (x_wi (by first | decide | omega) x_wn))) x_wn (by decide) rfl ?_
  refine x_iload (np := 1) (x := 0) (by decide +kernel) rfl la1 ?_
  refine x_iload (np := 2) (x := 1) (by decide +kernel) rfl (by decide) ?_
  refine x_icmp (k := 2) (tg := 14) (np := 5) (by decide +kernel) (by decide) la1 (by decide) (fun q11 => ?_) (fun q12 => ?_)
  · have q11 : a1 < 2147483648 := q11
    refine x_const (np := 15) (x := 9223372039002259456) (a := 2147483648) (by decide +kernel) (by decide) (by decide) ?_
    refine x_retI (np := 16) (x := 0) (by decide +kernel) (by decide) (Or.inr ⟨by decide +kernel, by first | decide | omega, by first | decide | omega⟩) ⟨_, rfl, (by decide), ?_⟩
    refine x_ifz (k := 1) (tg := 20) (np := 16) (by decide +kernel) (by decide) (by decide) (fun q13 => ?_) (fun q14 => ?_)
    · have q13 : 2147483648 ≠ 2147483648 := q13
      exfalso; omega
    have q14 : ¬ (2147483648 ≠ 2147483648) := q14
    refine x_const (np := 17) (x := 9223372043297226753) (a := 2147483649) (by decide +kernel) (by decide) (by decide) ?_
    refine x_goto (np := 20) (x := 21) (by decide +kernel) ?_
    refine x_retI (np := 22) (x := 0) (by decide +kernel) (by decide) (Or.inr ⟨by decide +kernel, by first | decide | omega, by first | decide | omega⟩) ⟨_, rfl, (by decide), ?_⟩
    refine x_const (np := 13) (x := 9223372043297226753) (a := 2147483649) (by decide +kernel) (by decide) (by decide) ?_
    refine x_nI (t := 6) (mj := 152) (n := 3) (rc := 12) (ml := 3) (nr := 0) (np := 16) (as := [x_r 75, iv_c 2147483649, iv_c 2147483649]) (rest := []) (lo1 := [x_r 75, iv_c 2147483649, iv_c 2147483649]) (by decide +kernel) (by decide) (by decide +kernel) (x_rb_of (by decide +kernel)) rfl rfl (x_wr (by decide) (x_wi (by decide) (x_wi (by decide) x_wn))) x_wn (by decide) rfl ?_
    refine x_iload (np := 1) (x := 1) (by decide +kernel) rfl (by decide) ?_
    refine x_ifz (k := 0) (tg := 9) (np := 4) (by decide +kernel) (by decide) (by decide) (fun q15 => ?_) (fun q16 => ?_)
    · have q15 : 2147483649 = 2147483648 := q15
      exfalso; omega
    have q16 : ¬ (2147483649 = 2147483648) := q16
    refine x_aload (np := 5) (x := 0) (by decide +kernel) rfl (x_nc_le (by decide)) ?_
    refine x_iload (np := 6) (x := 2) (by decide +kernel) rfl (by decide) ?_
    refine x_putI (np := 9) (x := 704) (f := 0) (by decide +kernel) (by decide +kernel) (by decide) (Or.inl (by decide)) ?_
    have j18 := jU (e := 0) (v := 2147483649) 0 j2 rg_75_0_0_1 (by first | decide | omega) (by first | decide | omega) (by first | decide | omega)
    have f20 := jF (e := 0) (v := 2147483649) 0 f4 rg_75_0_0_1 (by first | decide | omega) (by first | decide | omega) (by decide)
    generalize e19 : x_up h1 75 0 2147483649 = h17 at j18 f20 ⊢
    refine x_iload (np := 10) (x := 1) (by decide +kernel) rfl (by decide) ?_
    refine x_retI (np := 11) (x := 0) (by decide +kernel) (by decide) (Or.inr ⟨by decide +kernel, by first | decide | omega, by first | decide | omega⟩) ⟨_, rfl, (by decide), ?_⟩
    refine x_ifz (k := 0) (tg := 21) (np := 19) (by decide +kernel) (by decide) (by decide) (fun q21 => ?_) (fun q22 => ?_)
    · have q21 : 2147483649 = 2147483648 := q21
      exfalso; omega
    have q22 : ¬ (2147483649 = 2147483648) := q22
    refine x_const (np := 20) (x := 9223372039002259456) (a := 2147483648) (by decide +kernel) (by decide) (by decide) ?_
    refine x_retI (np := 21) (x := 0) (by decide +kernel) (by decide) (Or.inl (by decide +kernel)) ⟨_, rfl, (by decide), ?_⟩
    exact ⟨j18, f20, (by first | decide | omega)⟩
  have q12 : ¬ (a1 < 2147483648) := q12
  refine x_iload (np := 6) (x := 0) (by decide +kernel) rfl la1 ?_
  refine x_iload (np := 7) (x := 2) (by decide +kernel) rfl (by first | decide | omega) ?_
  refine x_icmp (k := 4) (tg := 14) (np := 10) (by decide +kernel) (by decide) la1 (by first | decide | omega) (fun q23 => ?_) (fun q24 => ?_)
  · have q23 : v9 < a1 := q23
    refine x_const (np := 15) (x := 9223372039002259456) (a := 2147483648) (by decide +kernel) (by decide) (by decide) ?_
    refine x_retI (np := 16) (x := 0) (by decide +kernel) (by decide) (Or.inr ⟨by decide +kernel, by first | decide | omega, by first | decide | omega⟩) ⟨_, rfl, (by decide), ?_⟩
    refine x_ifz (k := 1) (tg := 20) (np := 16) (by decide +kernel) (by decide) (by decide) (fun q25 => ?_) (fun q26 => ?_)
    · have q25 : 2147483648 ≠ 2147483648 := q25
      exfalso; omega
    have q26 : ¬ (2147483648 ≠ 2147483648) := q26
    refine x_const (np := 17) (x := 9223372043297226753) (a := 2147483649) (by decide +kernel) (by decide) (by decide) ?_
    refine x_goto (np := 20) (x := 21) (by decide +kernel) ?_
    refine x_retI (np := 22) (x := 0) (by decide +kernel) (by decide) (Or.inr ⟨by decide +kernel, by first | decide | omega, by first | decide | omega⟩) ⟨_, rfl, (by decide), ?_⟩
    refine x_const (np := 13) (x := 9223372043297226753) (a := 2147483649) (by decide +kernel) (by decide) (by decide) ?_
    refine x_nI (t := 6) (mj := 152) (n := 3) (rc := 12) (ml := 3) (nr := 0) (np := 16) (as := [x_r 75, iv_c 2147483649, iv_c 2147483649]) (rest := []) (lo1 := [x_r 75, iv_c 2147483649, iv_c 2147483649]) (by decide +kernel) (by decide) (by decide +kernel) (x_rb_of (by decide +kernel)) rfl rfl (x_wr (by decide) (x_wi (by decide) (x_wi (by decide) x_wn))) x_wn (by decide) rfl ?_
    refine x_iload (np := 1) (x := 1) (by decide +kernel) rfl (by decide) ?_
    refine x_ifz (k := 0) (tg := 9) (np := 4) (by decide +kernel) (by decide) (by decide) (fun q27 => ?_) (fun q28 => ?_)
    · have q27 : 2147483649 = 2147483648 := q27
      exfalso; omega
    have q28 : ¬ (2147483649 = 2147483648) := q28
    refine x_aload (np := 5) (x := 0) (by decide +kernel) rfl (x_nc_le (by decide)) ?_
    refine x_iload (np := 6) (x := 2) (by decide +kernel) rfl (by decide) ?_
    refine x_putI (np := 9) (x := 704) (f := 0) (by decide +kernel) (by decide +kernel) (by decide) (Or.inl (by decide)) ?_
    have j30 := jU (e := 0) (v := 2147483649) 0 j2 rg_75_0_0_1 (by first | decide | omega) (by first | decide | omega) (by first | decide | omega)
    have f32 := jF (e := 0) (v := 2147483649) 0 f4 rg_75_0_0_1 (by first | decide | omega) (by first | decide | omega) (by decide)
    generalize e31 : x_up h1 75 0 2147483649 = h29 at j30 f32 ⊢
    refine x_iload (np := 10) (x := 1) (by decide +kernel) rfl (by decide) ?_
    refine x_retI (np := 11) (x := 0) (by decide +kernel) (by decide) (Or.inr ⟨by decide +kernel, by first | decide | omega, by first | decide | omega⟩) ⟨_, rfl, (by decide), ?_⟩
    refine x_ifz (k := 0) (tg := 21) (np := 19) (by decide +kernel) (by decide) (by decide) (fun q33 => ?_) (fun q34 => ?_)
    · have q33 : 2147483649 = 2147483648 := q33
      exfalso; omega
    have q34 : ¬ (2147483649 = 2147483648) := q34
    refine x_const (np := 20) (x := 9223372039002259456) (a := 2147483648) (by decide +kernel) (by decide) (by decide) ?_
    refine x_retI (np := 21) (x := 0) (by decide +kernel) (by decide) (Or.inl (by decide +kernel)) ⟨_, rfl, (by decide), ?_⟩
    exact ⟨j30, f32, (by first | decide | omega)⟩
  have q24 : ¬ (v9 < a1) := q24
  refine x_const (np := 11) (x := 9223372043297226753) (a := 2147483649) (by decide +kernel) (by decide) (by decide) ?_
  refine x_goto (np := 14) (x := 15) (by decide +kernel) ?_
  refine x_retI (np := 16) (x := 0) (by decide +kernel) (by decide) (Or.inr ⟨by decide +kernel, by first | decide | omega, by first | decide | omega⟩) ⟨_, rfl, (by decide), ?_⟩
  refine x_ifz (k := 1) (tg := 20) (np := 16) (by decide +kernel) (by decide) (by decide) (fun q35 => ?_) (fun q36 => ?_)
  · have q35 : 2147483649 ≠ 2147483648 := q35
    refine x_const (np := 21) (x := 9223372039002259456) (a := 2147483648) (by decide +kernel) (by decide) (by decide) ?_
    refine x_retI (np := 22) (x := 0) (by decide +kernel) (by decide) (Or.inr ⟨by decide +kernel, by first | decide | omega, by first | decide | omega⟩) ⟨_, rfl, (by decide), ?_⟩
    refine x_const (np := 13) (x := 9223372043297226753) (a := 2147483649) (by decide +kernel) (by decide) (by decide) ?_
    refine x_nI (t := 6) (mj := 152) (n := 3) (rc := 12) (ml := 3) (nr := 0) (np := 16) (as := [x_r 75, iv_c 2147483648, iv_c 2147483649]) (rest := []) (lo1 := [x_r 75, iv_c 2147483648, iv_c 2147483649]) (by decide +kernel) (by decide) (by decide +kernel) (x_rb_of (by decide +kernel)) rfl rfl (x_wr (by decide) (x_wi (by decide) (x_wi (by decide) x_wn))) x_wn (by decide) rfl ?_
    refine x_iload (np := 1) (x := 1) (by decide +kernel) rfl (by decide) ?_
    refine x_ifz (k := 0) (tg := 9) (np := 4) (by decide +kernel) (by decide) (by decide) (fun q37 => ?_) (fun q38 => ?_)
    · have q37 : 2147483648 = 2147483648 := q37
      refine x_iload (np := 10) (x := 1) (by decide +kernel) rfl (by decide) ?_
      refine x_retI (np := 11) (x := 0) (by decide +kernel) (by decide) (Or.inr ⟨by decide +kernel, by first | decide | omega, by first | decide | omega⟩) ⟨_, rfl, (by decide), ?_⟩
      refine x_ifz (k := 0) (tg := 21) (np := 19) (by decide +kernel) (by decide) (by decide) (fun q39 => ?_) (fun q40 => ?_)
      · have q39 : 2147483648 = 2147483648 := q39
        refine x_const (np := 22) (x := 9223372039002259456) (a := 2147483648) (by decide +kernel) (by decide) (by decide) ?_
        refine x_istore (np := 23) (x := 2) (lo' := [x_r 75, iv_c a1, iv_c 2147483648, 147573952589676412928]) (by decide +kernel) (by decide) (Nat.le_of_ble_eq_true rfl) rfl ?_
        refine x_const (np := 24) (x := 9223372039002259456) (a := 2147483648) (by decide +kernel) (by decide) (by decide) ?_
        refine x_istore (np := 25) (x := 3) (lo' := [x_r 75, iv_c a1, iv_c 2147483648, iv_c 2147483648]) (by decide +kernel) (by decide) (Nat.le_of_ble_eq_true rfl) rfl ?_
        have p285 : ∀ (n : Nat) (v281 : Nat) (v283 : Nat), 4294967296 - v283 < n → (0 ≤ v281 ∧ v281 ≤ 4294967295) → (2147483648 ≤ v283 ∧ v283 ≤ 2147483654) → X sc 265 (d + 2) (xI fun r h' => J h' ∧ Fr 131072 h h' ∧ (0 ≤ r ∧ r ≤ 4294967295)) 0 0 25 [x_r 75, iv_c a1, iv_c v281, iv_c v283] [] h1 := by
          intro n
          induction n with
          | zero => intro v281 v283 q286; exact absurd q286 (Nat.not_lt_zero _)
          | succ n i287 =>
            intro v281 v283 q286 b282 b284
            refine x_iload (np := 26) (x := 3) (by decide +kernel) rfl (by first | decide | omega) ?_
            refine x_aload (np := 27) (x := 0) (by decide +kernel) rfl (x_nc_le (by decide)) ?_
            refine x_nI (t := 6) (mj := 157) (n := 1) (rc := 12) (ml := 1) (nr := 1) (np := 30) (as := [x_r 75]) (rest := [iv_c v283]) (lo1 := [x_r 75]) (by decide +kernel) (by decide) (by decide +kernel) (x_rb_of (by decide +kernel)) rfl rfl (x_wr (by decide) x_wn) (x_wi (by first | decide | omega) x_wn) (by decide) rfl ?_
            refine x_aload (np := 1) (x := 0) (by decide +kernel) rfl (x_nc_le (by decide)) ?_
            have q288 : h1 75 1 = 76 := by have z := jB (e := 1) 0 j2 rg_75_1_0_1 (by decide) (by decide); omega
            refine x_getR (np := 4) (x := 705) (f := 1) (q := 76) (by decide +kernel) (by decide) (by decide +kernel) q288 ?_
            refine x_const (np := 5) (x := 9223372039002259456) (a := 2147483648) (by decide +kernel) (by decide) (by decide) ?_
            have q289 : h1 76 0 = h 76 0 := by rw [← e3]; exact x_up_k (by decide)
            have b290 := jB (e := 0) 0 hJ rg_76_0_0_1 (by first | decide | omega) (by first | decide | omega)
            refine x_aldC (np := 6) (x := 0) (n := 1952) (i := 0) (q := (h 76 0)) (by decide +kernel) (by decide +kernel) (by first | decide | omega) (by first | decide | omega) (by decide) q289 (fun l291 => ?_)
            refine x_retI (np := 7) (x := 0) (by decide +kernel) l291 (Or.inl (by decide +kernel)) ⟨_, rfl, l291, ?_⟩
            refine x_icmp (k := 3) (tg := 77) (np := 33) (by decide +kernel) (by decide) (by first | decide | omega) l291 (fun q292 => ?_) (fun q293 => ?_)
            · have q292 : (h 76 0) ≤ v283 := q292
              refine x_iload (np := 78) (x := 2) (by decide +kernel) rfl (by first | decide | omega) ?_
              refine x_retI (np := 79) (x := 0) (by decide +kernel) (by first | decide | omega) (Or.inl (by decide +kernel)) ⟨_, rfl, (by first | decide | omega), ?_⟩
              exact ⟨j2, f4, (by first | decide | omega)⟩
            have q293 : ¬ ((h 76 0) ≤ v283) := q293
            refine x_iload (np := 34) (x := 2) (by decide +kernel) rfl (by first | decide | omega) ?_
            refine x_aload (np := 35) (x := 0) (by decide +kernel) rfl (x_nc_le (by decide)) ?_
            refine x_iload (np := 36) (x := 1) (by decide +kernel) rfl la1 ?_
            refine x_const (np := 37) (x := 9223372047592194050) (a := 2147483650) (by decide +kernel) (by decide) (by decide) ?_
            refine x_nI (t := 6) (mj := 164) (n := 3) (rc := 12) (ml := 3) (nr := 1) (np := 40) (as := [x_r 75, iv_c a1, iv_c 2147483650]) (rest := [iv_c v281]) (lo1 := [x_r 75, iv_c a1, iv_c 2147483650]) (by decide +kernel) (by decide) (by decide +kernel) (x_rb_of (by decide +kernel)) rfl rfl (x_wr (by decide) (x_wi la1 (x_wi (by decide) x_wn))) (x_wi (by first | decide | omega) x_wn) (by decide) rfl ?_
            refine x_aload (np := 1) (x := 0) (by decide +kernel) rfl (x_nc_le (by decide)) ?_
            have q294 : h1 75 1 = 76 := by have z := jB (e := 1) 0 j2 rg_75_1_0_1 (by decide) (by decide); omega
            refine x_getR (np := 4) (x := 705) (f := 1) (q := 76) (by decide +kernel) (by decide) (by decide +kernel) q294 ?_
            refine x_const (np := 7) (x := 9223373112744083706) (a := 2147483898) (by decide +kernel) (by decide) (by decide) ?_
            refine x_const (np := 8) (x := 9223372056182128644) (a := 2147483652) (by decide +kernel) (by decide) (by decide) ?_
            refine x_iload (np := 9) (x := 1) (by decide +kernel) rfl la1 ?_
            obtain ⟨u295, q296⟩ : ∃ z, a1 = 2147483648 + z := ⟨a1 - 2147483648, by first | decide | omega⟩
            refine x_imul (np := 10) (x := 0) (i := 4) (j := u295) (v := (2147483648 + 4 * u295)) (by decide +kernel) (by first | decide | omega) (by first | decide | omega) (by first | decide | omega) (by first | decide | omega) (by decide) la1 ?_
            refine x_iadd (np := 11) (x := 0) (v := (2147483898 + 4 * u295)) (by decide +kernel) (by decide) (by first | decide | omega) (by first | decide | omega) (by first | decide | omega) ?_
            refine x_iload (np := 12) (x := 2) (by decide +kernel) rfl (by decide) ?_
            refine x_iadd (np := 13) (x := 0) (v := (2147483900 + 4 * u295)) (by decide +kernel) (by first | decide | omega) (by decide) (by first | decide | omega) (by first | decide | omega) ?_
            have q298 : h1 76 (252 + 4 * u295) = h 76 (252 + 4 * u295) := by rw [← e3]; exact x_up_k (by decide)
            refine x_aldC (np := 14) (x := 0) (n := 1952) (i := (252 + 4 * u295)) (q := ((h 76 (252 + 4 * u295)))) (by decide +kernel) (by decide +kernel) (by first | decide | omega) (by first | decide | omega) (by decide) q298 (fun l299 => ?_)
            refine x_retI (np := 15) (x := 0) (by decide +kernel) l299 (Or.inl (by decide +kernel)) ⟨_, rfl, l299, ?_⟩
            refine x_iload (np := 41) (x := 3) (by decide +kernel) rfl (by first | decide | omega) ?_
            refine x_any (np := 42) (k9 := 4) (by decide +kernel) (by decide) l299 (by first | decide | omega) (fun v300 l301 => ?_)
            refine x_const (np := 43) (x := 9223372043297226753) (a := 2147483649) (by decide +kernel) (by decide) (by decide) ?_
            refine x_mask (np := 44) (m := 1) (k9 := 2) (by decide +kernel) l301 (by decide +kernel) (by decide) (by decide) (by decide) (fun u302 l303 => ?_)
            refine x_const (np := 45) (x := 9223372043297226753) (a := 2147483649) (by decide +kernel) (by decide) (by decide) ?_
            refine x_icmp (k := 1) (tg := 68) (np := 48) (by decide +kernel) (by decide) (by first | decide | omega) (by decide) (fun q304 => ?_) (fun q305 => ?_)
            · have q304 : (2147483648 + u302) ≠ 2147483649 := q304
              refine x_const (np := 69) (x := 9223372039002259456) (a := 2147483648) (by decide +kernel) (by decide) (by decide) ?_
              refine x_any (np := 70) (k9 := 1) (by decide +kernel) (by decide) (by first | decide | omega) (by decide) (fun v306 l307 => ?_)
              refine x_istore (np := 71) (x := 2) (lo' := [x_r 75, iv_c a1, iv_c v306, iv_c v283]) (by decide +kernel) l307 (Nat.le_of_ble_eq_true rfl) rfl ?_
              refine x_iinc (np := 74) (i := 3) (j := 2147483649) (v := (1 + v283)) (lo' := [x_r 75, iv_c a1, iv_c v306, iv_c (1 + v283)]) (by decide +kernel) (by decide) (by decide) rfl (by first | decide | omega) (by first | decide | omega) (by first | decide | omega) rfl ?_
              refine x_goto (np := 77) (x := 25) (by decide +kernel) ?_
              exact i287 v306 (1 + v283) (by first | decide | omega) (by first | decide | omega) (by first | decide | omega)
            have q305 : ¬ ((2147483648 + u302) ≠ 2147483649) := q305
            refine x_aload (np := 49) (x := 0) (by decide +kernel) rfl (x_nc_le (by decide)) ?_
            refine x_iload (np := 50) (x := 3) (by decide +kernel) rfl (by first | decide | omega) ?_
            refine x_aload (np := 51) (x := 0) (by decide +kernel) rfl (x_nc_le (by decide)) ?_
            refine x_iload (np := 52) (x := 1) (by decide +kernel) rfl la1 ?_
            refine x_const (np := 53) (x := 9223372043297226753) (a := 2147483649) (by decide +kernel) (by decide) (by decide) ?_
            refine x_nI (t := 6) (mj := 164) (n := 3) (rc := 12) (ml := 3) (nr := 3) (np := 56) (as := [x_r 75, iv_c a1, iv_c 2147483649]) (rest := [iv_c v283, x_r 75, iv_c v281]) (lo1 := [x_r 75, iv_c a1, iv_c 2147483649]) (by decide +kernel) (by decide) (by decide +kernel) (x_rb_of (by decide +kernel)) rfl rfl (x_wr (by decide) (x_wi la1 (x_wi (by decide) x_wn))) (x_wi (by first | decide | omega) (x_wr (by decide) (x_wi (by first | decide | omega) x_wn))) (by decide) rfl ?_
            refine x_aload (np := 1) (x := 0) (by decide +kernel) rfl (x_nc_le (by decide)) ?_
            have q308 : h1 75 1 = 76 := by have z := jB (e := 1) 0 j2 rg_75_1_0_1 (by decide) (by decide); omega
            refine x_getR (np := 4) (x := 705) (f := 1) (q := 76) (by decide +kernel) (by decide) (by decide +kernel) q308 ?_
            refine x_const (np := 7) (x := 9223373112744083706) (a := 2147483898) (by decide +kernel) (by decide) (by decide) ?_
            refine x_const (np := 8) (x := 9223372056182128644) (a := 2147483652) (by decide +kernel) (by decide) (by decide) ?_
            refine x_iload (np := 9) (x := 1) (by decide +kernel) rfl la1 ?_
            refine x_imul (np := 10) (x := 0) (i := 4) (j := u295) (v := (2147483648 + 4 * u295)) (by decide +kernel) (by first | decide | omega) (by first | decide | omega) (by first | decide | omega) (by first | decide | omega) (by decide) la1 ?_
            refine x_iadd (np := 11) (x := 0) (v := (2147483898 + 4 * u295)) (by decide +kernel) (by decide) (by first | decide | omega) (by first | decide | omega) (by first | decide | omega) ?_
            refine x_iload (np := 12) (x := 2) (by decide +kernel) rfl (by decide) ?_
            refine x_iadd (np := 13) (x := 0) (v := (2147483899 + 4 * u295)) (by decide +kernel) (by first | decide | omega) (by decide) (by first | decide | omega) (by first | decide | omega) ?_
            have q310 : h1 76 (251 + 4 * u295) = h 76 (251 + 4 * u295) := by rw [← e3]; exact x_up_k (by decide)
            have b311 := jB (e := (251 + 4 * u295)) u295 hJ rg_76_251_4_10 (by first | decide | omega) (by first | decide | omega)
            refine x_aldC (np := 14) (x := 0) (n := 1952) (i := (251 + 4 * u295)) (q := ((h 76 (251 + 4 * u295)))) (by decide +kernel) (by decide +kernel) (by first | decide | omega) (by first | decide | omega) (by decide) q310 (fun l312 => ?_)
            refine x_retI (np := 15) (x := 0) (by decide +kernel) l312 (Or.inl (by decide +kernel)) ⟨_, rfl, l312, ?_⟩
            refine x_cP (t := 6) (mj := 200) (n := 3) (rc := 12) (ml := 3) (nr := 1) (np := 59) (as := [x_r 75, iv_c v283, iv_c ((h 76 (251 + 4 * u295)))]) (rest := [iv_c v281]) (lo1 := [x_r 75, iv_c v283, iv_c ((h 76 (251 + 4 * u295)))]) (by decide +kernel) (by decide) (by decide +kernel) (x_rb_of (by decide +kernel)) rfl rfl (x_wr (by decide) (x_wi (by first | decide | omega) (x_wi l312 x_wn))) (x_wi (by first | decide | omega) x_wn) (by decide) rfl (c200_75 j2  (by first | decide | omega) (by first | decide | omega)) (fun v313 l314 q315 => ?_)
            refine x_ifz (k := 0) (tg := 68) (np := 62) (by decide +kernel) (by decide) l314 (fun q316 => ?_) (fun q317 => ?_)
            · have q316 : v313 = 2147483648 := q316
              refine x_const (np := 69) (x := 9223372039002259456) (a := 2147483648) (by decide +kernel) (by decide) (by decide) ?_
              refine x_any (np := 70) (k9 := 1) (by decide +kernel) (by decide) (by first | decide | omega) (by decide) (fun v318 l319 => ?_)
              refine x_istore (np := 71) (x := 2) (lo' := [x_r 75, iv_c a1, iv_c v318, iv_c v283]) (by decide +kernel) l319 (Nat.le_of_ble_eq_true rfl) rfl ?_
              refine x_iinc (np := 74) (i := 3) (j := 2147483649) (v := (1 + v283)) (lo' := [x_r 75, iv_c a1, iv_c v318, iv_c (1 + v283)]) (by decide +kernel) (by decide) (by decide) rfl (by first | decide | omega) (by first | decide | omega) (by first | decide | omega) rfl ?_
              refine x_goto (np := 77) (x := 25) (by decide +kernel) ?_
              exact i287 v318 (1 + v283) (by first | decide | omega) (by first | decide | omega) (by first | decide | omega)
            have q317 : ¬ (v313 = 2147483648) := q317
            refine x_const (np := 63) (x := 9223372043297226753) (a := 2147483649) (by decide +kernel) (by decide) (by decide) ?_
            refine x_iload (np := 64) (x := 3) (by decide +kernel) rfl (by first | decide | omega) ?_
            refine x_any (np := 65) (k9 := 3) (by decide +kernel) (by decide) (by decide) (by first | decide | omega) (fun v320 l321 => ?_)
            refine x_goto (np := 68) (x := 69) (by decide +kernel) ?_
            refine x_any (np := 70) (k9 := 1) (by decide +kernel) (by decide) (by first | decide | omega) l321 (fun v322 l323 => ?_)
            refine x_istore (np := 71) (x := 2) (lo' := [x_r 75, iv_c a1, iv_c v322, iv_c v283]) (by decide +kernel) l323 (Nat.le_of_ble_eq_true rfl) rfl ?_
            refine x_iinc (np := 74) (i := 3) (j := 2147483649) (v := (1 + v283)) (lo' := [x_r 75, iv_c a1, iv_c v322, iv_c (1 + v283)]) (by decide +kernel) (by decide) (by decide) rfl (by first | decide | omega) (by first | decide | omega) (by first | decide | omega) rfl ?_
            refine x_goto (np := 77) (x := 25) (by decide +kernel) ?_
            exact i287 v322 (1 + v283) (by first | decide | omega) (by first | decide | omega) (by first | decide | omega)
        exact p285 _ 2147483648 2147483648 (Nat.lt_succ_self _) (by first | decide | omega) (by first | decide | omega)
      have q40 : ¬ (2147483648 = 2147483648) := q40
      exfalso; omega
    have q38 : ¬ (2147483648 = 2147483648) := q38
    exfalso; omega
  have q36 : ¬ (2147483649 ≠ 2147483648) := q36
  exfalso; omega
set_option maxHeartbeats 0 in
/-- LentNamesModel.secrets(II)I -/
theorem c266_75 {sc : Nat × Nat} {d a1 a2 : Nat} {h : xh} (hJ : J h) (ba1 : 0 ≤ a1 ∧ a1 ≤ 4294967295) (ba2 : 0 ≤ a2 ∧ a2 ≤ 4294967295) (hW : WT 76 h) : X sc 266 (d + 7) (xI fun r h' => J h' ∧ Fr 65831111360513 h h' ∧ (0 ≤ r ∧ r ≤ 4294967295)) 0 0 0 [x_r 75, iv_c a1, iv_c a2, 147573952589676412928] [] h := by
  have la1 : a1 < 4294967296 := by first | decide | omega
  have la2 : a2 < 4294967296 := by first | decide | omega
  have hF := Fr.refl 65831111360513 h
  refine x_aload (np := 1) (x := 0) (by decide +kernel) rfl (x_nc_le (by decide)) ?_
  refine x_const (np := 2) (x := 9223372039002259456) (a := 2147483648) (by decide +kernel) (by decide) (by decide) ?_
  refine x_putI (np := 5) (x := 704) (f := 0) (by decide +kernel) (by decide +kernel) (by decide) (Or.inl (by decide)) ?_
  have j2 := jU (e := 0) (v := 2147483648) 0 hJ rg_75_0_0_1 (by first | decide | omega) (by first | decide | omega) (by first | decide | omega)
  have f4 := jF (e := 0) (v := 2147483648) 0 hF rg_75_0_0_1 (by first | decide | omega) (by first | decide | omega) (by decide)
  generalize e3 : x_up h 75 0 2147483648 = h1 at j2 f4 ⊢
  refine x_aload (np := 6) (x := 0) (by decide +kernel) rfl (x_nc_le (by decide)) ?_
  refine x_iload (np := 7) (x := 1) (by decide +kernel) rfl la1 ?_
  refine x_nI (t := 0) (mj := 160) (n := 1) (rc := 0) (ml := 1) (nr := 1) (np := 10) (as := [iv_c a1]) (rest := [x_r 75]) (lo1 := [iv_c a1]) (by decide +kernel) (by decide) (by decide +kernel) (Or.inl rfl) rfl rfl (x_wi la1 x_wn) (x_wr (by decide) x_wn) (by decide) rfl ?_
  refine x_iload (np := 1) (x := 0) (by decide +kernel) rfl la1 ?_
  refine x_const (np := 2) (x := 9223372039002259456) (a := 2147483648) (by decide +kernel) (by decide) (by decide) ?_
  refine x_const (np := 4) (x := 9223372086246899723) (a := 2147483659) (by decide +kernel) (by decide) (by decide) ?_
  refine x_nI (t := 0) (mj := 153) (n := 3) (rc := 0) (ml := 3) (nr := 0) (np := 7) (as := [iv_c a1, iv_c 2147483648, iv_c 2147483659]) (rest := []) (lo1 := [iv_c a1, iv_c 2147483648, iv_c 2147483659]) (by decide +kernel) (by decide) (by decide +kernel) (Or.inl rfl) rfl rfl (x_wi la1 (x_wi (by decide) (x_wi (by decide) x_wn))) x_wn (by decide) rfl ?_
  refine x_iload (np := 1) (x := 0) (by decide +kernel) rfl la1 ?_
  refine x_iload (np := 2) (x := 1) (by decide +kernel) rfl (by decide) ?_
  refine x_icmp (k := 2) (tg := 14) (np := 5) (by decide +kernel) (by decide) la1 (by decide) (fun q5 => ?_) (fun q6 => ?_)
  · have q5 : a1 < 2147483648 := q5
    refine x_const (np := 15) (x := 9223372039002259456) (a := 2147483648) (by decide +kernel) (by decide) (by decide) ?_
    refine x_retI (np := 16) (x := 0) (by decide +kernel) (by decide) (Or.inr ⟨by decide +kernel, by first | decide | omega, by first | decide | omega⟩) ⟨_, rfl, (by decide), ?_⟩
    refine x_ifz (k := 1) (tg := 14) (np := 10) (by decide +kernel) (by decide) (by decide) (fun q7 => ?_) (fun q8 => ?_)
    · have q7 : 2147483648 ≠ 2147483648 := q7
      exfalso; omega
    have q8 : ¬ (2147483648 ≠ 2147483648) := q8
    refine x_const (np := 11) (x := 9223372043297226753) (a := 2147483649) (by decide +kernel) (by decide) (by decide) ?_
    refine x_goto (np := 14) (x := 15) (by decide +kernel) ?_
    refine x_retI (np := 16) (x := 0) (by decide +kernel) (by decide) (Or.inr ⟨by decide +kernel, by first | decide | omega, by first | decide | omega⟩) ⟨_, rfl, (by decide), ?_⟩
    refine x_const (np := 11) (x := 9223372043297226753) (a := 2147483649) (by decide +kernel) (by decide) (by decide) ?_
    refine x_nI (t := 6) (mj := 152) (n := 3) (rc := 12) (ml := 3) (nr := 0) (np := 14) (as := [x_r 75, iv_c 2147483649, iv_c 2147483649]) (rest := []) (lo1 := [x_r 75, iv_c 2147483649, iv_c 2147483649]) (by decide +kernel) (by decide) (by decide +kernel) (x_rb_of (by decide +kernel)) rfl rfl (x_wr (by decide) (x_wi (by decide) (x_wi (by decide) x_wn))) x_wn (by decide) rfl ?_
    refine x_iload (np := 1) (x := 1) (by decide +kernel) rfl (by decide) ?_
    refine x_ifz (k := 0) (tg := 9) (np := 4) (by decide +kernel) (by decide) (by decide) (fun q9 => ?_) (fun q10 => ?_)
    · have q9 : 2147483649 = 2147483648 := q9
      exfalso; omega
    have q10 : ¬ (2147483649 = 2147483648) := q10
    refine x_aload (np := 5) (x := 0) (by decide +kernel) rfl (x_nc_le (by decide)) ?_
    refine x_iload (np := 6) (x := 2) (by decide +kernel) rfl (by decide) ?_
    refine x_putI (np := 9) (x := 704) (f := 0) (by decide +kernel) (by decide +kernel) (by decide) (Or.inl (by decide)) ?_
    have j12 := jU (e := 0) (v := 2147483649) 0 j2 rg_75_0_0_1 (by first | decide | omega) (by first | decide | omega) (by first | decide | omega)
    have f14 := jF (e := 0) (v := 2147483649) 0 f4 rg_75_0_0_1 (by first | decide | omega) (by first | decide | omega) (by decide)
    generalize e13 : x_up h1 75 0 2147483649 = h11 at j12 f14 ⊢
    refine x_iload (np := 10) (x := 1) (by decide +kernel) rfl (by decide) ?_
    refine x_retI (np := 11) (x := 0) (by decide +kernel) (by decide) (Or.inr ⟨by decide +kernel, by first | decide | omega, by first | decide | omega⟩) ⟨_, rfl, (by decide), ?_⟩
    refine x_ifz (k := 1) (tg := 36) (np := 17) (by decide +kernel) (by decide) (by decide) (fun q15 => ?_) (fun q16 => ?_)
    · have q15 : 2147483649 ≠ 2147483648 := q15
      refine x_const (np := 37) (x := 9223372039002259456) (a := 2147483648) (by decide +kernel) (by decide) (by decide) ?_
      refine x_retI (np := 38) (x := 0) (by decide +kernel) (by decide) (Or.inl (by decide +kernel)) ⟨_, rfl, (by decide), ?_⟩
      exact ⟨j12, f14, (by first | decide | omega)⟩
    have q16 : ¬ (2147483649 ≠ 2147483648) := q16
    exfalso; omega
  have q6 : ¬ (a1 < 2147483648) := q6
  refine x_iload (np := 6) (x := 0) (by decide +kernel) rfl la1 ?_
  refine x_iload (np := 7) (x := 2) (by decide +kernel) rfl (by decide) ?_
  refine x_icmp (k := 4) (tg := 14) (np := 10) (by decide +kernel) (by decide) la1 (by decide) (fun q17 => ?_) (fun q18 => ?_)
  · have q17 : 2147483659 < a1 := q17
    refine x_const (np := 15) (x := 9223372039002259456) (a := 2147483648) (by decide +kernel) (by decide) (by decide) ?_
    refine x_retI (np := 16) (x := 0) (by decide +kernel) (by decide) (Or.inr ⟨by decide +kernel, by first | decide | omega, by first | decide | omega⟩) ⟨_, rfl, (by decide), ?_⟩
    refine x_ifz (k := 1) (tg := 14) (np := 10) (by decide +kernel) (by decide) (by decide) (fun q19 => ?_) (fun q20 => ?_)
    · have q19 : 2147483648 ≠ 2147483648 := q19
      exfalso; omega
    have q20 : ¬ (2147483648 ≠ 2147483648) := q20
    refine x_const (np := 11) (x := 9223372043297226753) (a := 2147483649) (by decide +kernel) (by decide) (by decide) ?_
    refine x_goto (np := 14) (x := 15) (by decide +kernel) ?_
    refine x_retI (np := 16) (x := 0) (by decide +kernel) (by decide) (Or.inr ⟨by decide +kernel, by first | decide | omega, by first | decide | omega⟩) ⟨_, rfl, (by decide), ?_⟩
    refine x_const (np := 11) (x := 9223372043297226753) (a := 2147483649) (by decide +kernel) (by decide) (by decide) ?_
    refine x_nI (t := 6) (mj := 152) (n := 3) (rc := 12) (ml := 3) (nr := 0) (np := 14) (as := [x_r 75, iv_c 2147483649, iv_c 2147483649]) (rest := []) (lo1 := [x_r 75, iv_c 2147483649, iv_c 2147483649]) (by decide +kernel) (by decide) (by decide +kernel) (x_rb_of (by decide +kernel)) rfl rfl (x_wr (by decide) (x_wi (by decide) (x_wi (by decide) x_wn))) x_wn (by decide) rfl ?_
    refine x_iload (np := 1) (x := 1) (by decide +kernel) rfl (by decide) ?_
    refine x_ifz (k := 0) (tg := 9) (np := 4) (by decide +kernel) (by decide) (by decide) (fun q21 => ?_) (fun q22 => ?_)
    · have q21 : 2147483649 = 2147483648 := q21
      exfalso; omega
    have q22 : ¬ (2147483649 = 2147483648) := q22
    refine x_aload (np := 5) (x := 0) (by decide +kernel) rfl (x_nc_le (by decide)) ?_
    refine x_iload (np := 6) (x := 2) (by decide +kernel) rfl (by decide) ?_
    refine x_putI (np := 9) (x := 704) (f := 0) (by decide +kernel) (by decide +kernel) (by decide) (Or.inl (by decide)) ?_
    have j24 := jU (e := 0) (v := 2147483649) 0 j2 rg_75_0_0_1 (by first | decide | omega) (by first | decide | omega) (by first | decide | omega)
    have f26 := jF (e := 0) (v := 2147483649) 0 f4 rg_75_0_0_1 (by first | decide | omega) (by first | decide | omega) (by decide)
    generalize e25 : x_up h1 75 0 2147483649 = h23 at j24 f26 ⊢
    refine x_iload (np := 10) (x := 1) (by decide +kernel) rfl (by decide) ?_
    refine x_retI (np := 11) (x := 0) (by decide +kernel) (by decide) (Or.inr ⟨by decide +kernel, by first | decide | omega, by first | decide | omega⟩) ⟨_, rfl, (by decide), ?_⟩
    refine x_ifz (k := 1) (tg := 36) (np := 17) (by decide +kernel) (by decide) (by decide) (fun q27 => ?_) (fun q28 => ?_)
    · have q27 : 2147483649 ≠ 2147483648 := q27
      refine x_const (np := 37) (x := 9223372039002259456) (a := 2147483648) (by decide +kernel) (by decide) (by decide) ?_
      refine x_retI (np := 38) (x := 0) (by decide +kernel) (by decide) (Or.inl (by decide +kernel)) ⟨_, rfl, (by decide), ?_⟩
      exact ⟨j24, f26, (by first | decide | omega)⟩
    have q28 : ¬ (2147483649 ≠ 2147483648) := q28
    exfalso; omega
  have q18 : ¬ (2147483659 < a1) := q18
  refine x_const (np := 11) (x := 9223372043297226753) (a := 2147483649) (by decide +kernel) (by decide) (by decide) ?_
  refine x_goto (np := 14) (x := 15) (by decide +kernel) ?_
  refine x_retI (np := 16) (x := 0) (by decide +kernel) (by decide) (Or.inr ⟨by decide +kernel, by first | decide | omega, by first | decide | omega⟩) ⟨_, rfl, (by decide), ?_⟩
  refine x_ifz (k := 1) (tg := 14) (np := 10) (by decide +kernel) (by decide) (by decide) (fun q29 => ?_) (fun q30 => ?_)
  · have q29 : 2147483649 ≠ 2147483648 := q29
    refine x_const (np := 15) (x := 9223372039002259456) (a := 2147483648) (by decide +kernel) (by decide) (by decide) ?_
    refine x_retI (np := 16) (x := 0) (by decide +kernel) (by decide) (Or.inr ⟨by decide +kernel, by first | decide | omega, by first | decide | omega⟩) ⟨_, rfl, (by decide), ?_⟩
    refine x_const (np := 11) (x := 9223372043297226753) (a := 2147483649) (by decide +kernel) (by decide) (by decide) ?_
    refine x_nI (t := 6) (mj := 152) (n := 3) (rc := 12) (ml := 3) (nr := 0) (np := 14) (as := [x_r 75, iv_c 2147483648, iv_c 2147483649]) (rest := []) (lo1 := [x_r 75, iv_c 2147483648, iv_c 2147483649]) (by decide +kernel) (by decide) (by decide +kernel) (x_rb_of (by decide +kernel)) rfl rfl (x_wr (by decide) (x_wi (by decide) (x_wi (by decide) x_wn))) x_wn (by decide) rfl ?_
    refine x_iload (np := 1) (x := 1) (by decide +kernel) rfl (by decide) ?_
    refine x_ifz (k := 0) (tg := 9) (np := 4) (by decide +kernel) (by decide) (by decide) (fun q31 => ?_) (fun q32 => ?_)
    · have q31 : 2147483648 = 2147483648 := q31
      refine x_iload (np := 10) (x := 1) (by decide +kernel) rfl (by decide) ?_
      refine x_retI (np := 11) (x := 0) (by decide +kernel) (by decide) (Or.inr ⟨by decide +kernel, by first | decide | omega, by first | decide | omega⟩) ⟨_, rfl, (by decide), ?_⟩
      refine x_ifz (k := 1) (tg := 36) (np := 17) (by decide +kernel) (by decide) (by decide) (fun q33 => ?_) (fun q34 => ?_)
      · have q33 : 2147483648 ≠ 2147483648 := q33
        exfalso; omega
      have q34 : ¬ (2147483648 ≠ 2147483648) := q34
      refine x_aload (np := 18) (x := 0) (by decide +kernel) rfl (x_nc_le (by decide)) ?_
      refine x_iload (np := 19) (x := 2) (by decide +kernel) rfl la2 ?_
      refine x_const (np := 21) (x := 9223372030412324862) (a := 2147483646) (by decide +kernel) (by decide) (by decide) ?_
      refine x_icmp (k := 3) (tg := 28) (np := 24) (by decide +kernel) (by decide) la2 (by decide) (fun q35 => ?_) (fun q36 => ?_)
      · have q35 : 2147483646 ≤ a2 := q35
        refine x_const (np := 29) (x := 9223372039002259456) (a := 2147483648) (by decide +kernel) (by decide) (by decide) ?_
        refine x_const (np := 30) (x := 9223372047592194050) (a := 2147483650) (by decide +kernel) (by decide) (by decide) ?_
        refine x_nI (t := 6) (mj := 152) (n := 3) (rc := 12) (ml := 3) (nr := 0) (np := 33) (as := [x_r 75, iv_c 2147483648, iv_c 2147483650]) (rest := []) (lo1 := [x_r 75, iv_c 2147483648, iv_c 2147483650]) (by decide +kernel) (by decide) (by decide +kernel) (x_rb_of (by decide +kernel)) rfl rfl (x_wr (by decide) (x_wi (by decide) (x_wi (by decide) x_wn))) x_wn (by decide) rfl ?_
        refine x_iload (np := 1) (x := 1) (by decide +kernel) rfl (by decide) ?_
        refine x_ifz (k := 0) (tg := 9) (np := 4) (by decide +kernel) (by decide) (by decide) (fun q37 => ?_) (fun q38 => ?_)
        · have q37 : 2147483648 = 2147483648 := q37
          refine x_iload (np := 10) (x := 1) (by decide +kernel) rfl (by decide) ?_
          refine x_retI (np := 11) (x := 0) (by decide +kernel) (by decide) (Or.inr ⟨by decide +kernel, by first | decide | omega, by first | decide | omega⟩) ⟨_, rfl, (by decide), ?_⟩
          refine x_ifz (k := 0) (tg := 38) (np := 36) (by decide +kernel) (by decide) (by decide) (fun q39 => ?_) (fun q40 => ?_)
          · have q39 : 2147483648 = 2147483648 := q39
            refine x_aload (np := 39) (x := 0) (by decide +kernel) rfl (x_nc_le (by decide)) ?_
            refine x_const (np := 40) (x := 9223372039002259456) (a := 2147483648) (by decide +kernel) (by decide) (by decide) ?_
            refine x_putI (np := 43) (x := 4833) (f := 33) (by decide +kernel) (by decide +kernel) (by decide) (Or.inr ⟨by decide, by first | decide | omega, by first | decide | omega⟩) ?_
            have j42 := jU (e := 33) (v := 2147483648) 0 j2 rg_75_33_0_1 (by first | decide | omega) (by first | decide | omega) (by first | decide | omega)
            have f44 := jF (e := 33) (v := 2147483648) 0 f4 rg_75_33_0_1 (by first | decide | omega) (by first | decide | omega) (by decide)
            generalize e43 : x_up h1 75 33 2147483648 = h41 at j42 f44 ⊢
            refine x_aload (np := 44) (x := 0) (by decide +kernel) rfl (x_nc_le (by decide)) ?_
            refine x_iload (np := 45) (x := 1) (by decide +kernel) rfl la1 ?_
            refine x_putI (np := 48) (x := 736) (f := 32) (by decide +kernel) (by decide +kernel) la1 (Or.inl (by decide)) ?_
            have j46 := jU (e := 32) (v := a1) 0 j42 rg_75_32_0_1 (by first | decide | omega) (by first | decide | omega) (by first | decide | omega)
            have f48 := jF (e := 32) (v := a1) 0 f44 rg_75_32_0_1 (by first | decide | omega) (by first | decide | omega) (by decide)
            generalize e47 : x_up h41 75 32 a1 = h45 at j46 f48 ⊢
            refine x_aload (np := 49) (x := 0) (by decide +kernel) rfl (x_nc_le (by decide)) ?_
            refine x_const (np := 50) (x := 9223372056182128644) (a := 2147483652) (by decide +kernel) (by decide) (by decide) ?_
            have m54 : WT 76 h1 := by rw [← e3]; exact WT.oth hW hJ (by decide)
            have m53 : WT 76 h41 := by rw [← e43]; exact WT.oth m54 j2 (by decide)
            have m52 : WT 76 h45 := by rw [← e47]; exact WT.oth m53 j42 (by decide)
            refine x_cI (t := 6) (mj := 260) (n := 2) (rc := 12) (ml := 3) (nr := 0) (np := 53) (as := [x_r 75, iv_c 2147483652]) (rest := []) (lo1 := [x_r 75, iv_c 2147483652, 147573952589676412928]) (by decide +kernel) (by decide) (by decide +kernel) (x_rb_of (by decide +kernel)) rfl rfl (x_wr (by decide) (x_wi (by decide) x_wn)) x_wn (by decide) rfl (c260_75 j46  (by first | decide | omega) m52) (fun v49 h55 l50 q51 => ?_)
            obtain ⟨j56, f57, b58⟩ := q51
            have f59 := Fr.trans f48 f57 (by decide)
            refine x_istore (np := 54) (x := 3) (lo' := [x_r 75, iv_c a1, iv_c a2, iv_c v49]) (by decide +kernel) l50 (Nat.le_of_ble_eq_true rfl) rfl ?_
            refine x_iload (np := 55) (x := 3) (by decide +kernel) rfl l50 ?_
            refine x_const (np := 57) (x := 9223372030412324862) (a := 2147483646) (by decide +kernel) (by decide) (by decide) ?_
            refine x_icmp (k := 1) (tg := 63) (np := 60) (by decide +kernel) (by decide) l50 (by decide) (fun q60 => ?_) (fun q61 => ?_)
            · have q60 : v49 ≠ 2147483646 := q60
              refine x_iload (np := 64) (x := 3) (by decide +kernel) rfl l50 ?_
              refine x_ifz (k := 2) (tg := 72) (np := 67) (by decide +kernel) (by decide) l50 (fun q62 => ?_) (fun q63 => ?_)
              · have q62 : v49 < 2147483648 := q62
                refine x_iload (np := 73) (x := 3) (by decide +kernel) rfl l50 ?_
                refine x_retI (np := 74) (x := 0) (by decide +kernel) l50 (Or.inl (by decide +kernel)) ⟨_, rfl, l50, ?_⟩
                exact ⟨j56, f59, (by first | decide | omega)⟩
              have q63 : ¬ (v49 < 2147483648) := q63
              refine x_iload (np := 68) (x := 2) (by decide +kernel) rfl la2 ?_
              refine x_const (np := 69) (x := 9223372034707292159) (a := 2147483647) (by decide +kernel) (by decide) (by decide) ?_
              refine x_icmp (k := 1) (tg := 74) (np := 72) (by decide +kernel) (by decide) la2 (by decide) (fun q64 => ?_) (fun q65 => ?_)
              · have q64 : a2 ≠ 2147483647 := q64
                refine x_iload (np := 75) (x := 2) (by decide +kernel) rfl la2 ?_
                refine x_const (np := 77) (x := 9223372030412324862) (a := 2147483646) (by decide +kernel) (by decide) (by decide) ?_
                refine x_icmp (k := 1) (tg := 87) (np := 80) (by decide +kernel) (by decide) la2 (by decide) (fun q66 => ?_) (fun q67 => ?_)
                · have q66 : a2 ≠ 2147483646 := q66
                  refine x_iload (np := 88) (x := 2) (by decide +kernel) rfl la2 ?_
                  refine x_iload (np := 89) (x := 3) (by decide +kernel) rfl l50 ?_
                  refine x_icmp (k := 3) (tg := 104) (np := 92) (by decide +kernel) (by decide) la2 l50 (fun q68 => ?_) (fun q69 => ?_)
                  · have q68 : v49 ≤ a2 := q68
                    refine x_const (np := 105) (x := 9223372034707292159) (a := 2147483647) (by decide +kernel) (by decide) (by decide) ?_
                    refine x_retI (np := 106) (x := 0) (by decide +kernel) (by decide) (Or.inl (by decide +kernel)) ⟨_, rfl, (by decide), ?_⟩
                    exact ⟨j56, f59, (by first | decide | omega)⟩
                  have q69 : ¬ (v49 ≤ a2) := q69
                  refine x_aload (np := 93) (x := 0) (by decide +kernel) rfl (x_nc_le (by decide)) ?_
                  have q70 : h55 75 35 = 96 := by have z := jB (e := 35) 0 j56 rg_75_35_0_1 (by decide) (by decide); omega
                  refine x_getR (np := 96) (x := 739) (f := 35) (q := 96) (by decide +kernel) (by decide) (by decide +kernel) q70 ?_
                  refine x_iload (np := 97) (x := 2) (by decide +kernel) rfl la2 ?_
                  obtain ⟨u71, q72⟩ : ∃ z, a2 = 2147483648 + z := ⟨a2 - 2147483648, by first | decide | omega⟩
                  have b73 := jB (e := u71) u71 j56 rg_96_0_1_5 (by first | decide | omega) (by first | decide | omega)
                  refine x_aldC (np := 98) (x := 0) (n := 5) (i := u71) (q := (h55 96 u71)) (by decide +kernel) (by decide +kernel) (by first | decide | omega) (by first | decide | omega) (by decide) rfl (fun l74 => ?_)
                  refine x_nI (t := 0) (mj := 246) (n := 1) (rc := 0) (ml := 1) (nr := 0) (np := 101) (as := [iv_c (h55 96 u71)]) (rest := []) (lo1 := [iv_c (h55 96 u71)]) (by decide +kernel) (by decide) (by decide +kernel) (Or.inl rfl) rfl rfl (x_wi l74 x_wn) x_wn (by decide) rfl ?_
                  refine x_const (np := 3) (x := 9223414988675229456) (a := 2147493648) (by decide +kernel) (by decide) (by decide) ?_
                  refine x_iload (np := 4) (x := 0) (by decide +kernel) rfl l74 ?_
                  refine x_nI (t := 0) (mj := 242) (n := 1) (rc := 0) (ml := 1) (nr := 1) (np := 7) (as := [iv_c (h55 96 u71)]) (rest := [iv_c 2147493648]) (lo1 := [iv_c (h55 96 u71)]) (by decide +kernel) (by decide) (by decide +kernel) (Or.inl rfl) rfl rfl (x_wi l74 x_wn) (x_wi (by decide) x_wn) (by decide) rfl ?_
                  refine x_iload (np := 1) (x := 0) (by decide +kernel) rfl l74 ?_
                  refine x_const (np := 4) (x := 9223375749854004064) (a := 2147484512) (by decide +kernel) (by decide) (by decide) ?_
                  refine x_anyD (np := 5) (k9 := 6) (by decide +kernel) (by decide) l74 (by decide) (by decide) (fun v75 l76 => ?_)
                  refine x_retI (np := 6) (x := 0) (by decide +kernel) l76 (Or.inl (by decide +kernel)) ⟨_, rfl, l76, ?_⟩
                  refine x_mulA (by rw [tb_b246]; decide +kernel) (by decide) l76 (fun v77 l78 => ?_)
                  refine x_const (np := 11) (x := 9223376333969556456) (a := 2147484648) (by decide +kernel) (by decide) (by decide) ?_
                  refine x_iload (np := 12) (x := 0) (by decide +kernel) rfl l74 ?_
                  refine x_nI (t := 0) (mj := 243) (n := 1) (rc := 0) (ml := 1) (nr := 2) (np := 15) (as := [iv_c (h55 96 u71)]) (rest := [iv_c 2147484648, iv_c v77]) (lo1 := [iv_c (h55 96 u71)]) (by decide +kernel) (by decide) (by decide +kernel) (Or.inl rfl) rfl rfl (x_wi l74 x_wn) (x_wi (by decide) (x_wi l78 x_wn)) (by decide) rfl ?_
                  refine x_iload (np := 1) (x := 0) (by decide +kernel) rfl l74 ?_
                  refine x_const (np := 4) (x := 9223372657477550224) (a := 2147483792) (by decide +kernel) (by decide) (by decide) ?_
                  refine x_anyD (np := 5) (k9 := 6) (by decide +kernel) (by decide) l74 (by decide) (by decide) (fun v79 l80 => ?_)
                  refine x_const (np := 7) (x := 9223372064772063238) (a := 2147483654) (by decide +kernel) (by decide) (by decide) ?_
                  refine x_anyD (np := 8) (k9 := 7) (by decide +kernel) (by decide) l80 (by decide) (by decide) (fun v81 l82 => ?_)
                  refine x_retI (np := 9) (x := 0) (by decide +kernel) l82 (Or.inl (by decide +kernel)) ⟨_, rfl, l82, ?_⟩
                  refine x_mulA (by rw [tb_b246]; decide +kernel) (by decide) l82 (fun v83 l84 => ?_)
                  refine x_addA (by rw [tb_b246]; decide +kernel) l78 l84 (fun v85 l86 => ?_)
                  refine x_const (np := 19) (x := 9223372124901605396) (a := 2147483668) (by decide +kernel) (by decide) (by decide) ?_
                  refine x_iload (np := 20) (x := 0) (by decide +kernel) rfl l74 ?_
                  refine x_nI (t := 0) (mj := 244) (n := 1) (rc := 0) (ml := 1) (nr := 2) (np := 23) (as := [iv_c (h55 96 u71)]) (rest := [iv_c 2147483668, iv_c v85]) (lo1 := [iv_c (h55 96 u71)]) (by decide +kernel) (by decide) (by decide +kernel) (Or.inl rfl) rfl rfl (x_wi l74 x_wn) (x_wi (by decide) (x_wi l86 x_wn)) (by decide) rfl ?_
                  refine x_iload (np := 1) (x := 0) (by decide +kernel) rfl l74 ?_
                  refine x_const (np := 3) (x := 9223372090541867020) (a := 2147483660) (by decide +kernel) (by decide) (by decide) ?_
                  refine x_anyD (np := 4) (k9 := 6) (by decide +kernel) (by decide) l74 (by decide) (by decide) (fun v87 l88 => ?_)
                  refine x_const (np := 6) (x := 9223372090541867020) (a := 2147483660) (by decide +kernel) (by decide) (by decide) ?_
                  refine x_anyD (np := 7) (k9 := 7) (by decide +kernel) (by decide) l88 (by decide) (by decide) (fun v89 l90 => ?_)
                  refine x_retI (np := 8) (x := 0) (by decide +kernel) l90 (Or.inl (by decide +kernel)) ⟨_, rfl, l90, ?_⟩
                  refine x_mulA (by rw [tb_b246]; decide +kernel) (by decide) l90 (fun v91 l92 => ?_)
                  refine x_addA (by rw [tb_b246]; decide +kernel) l86 l92 (fun v93 l94 => ?_)
                  refine x_iload (np := 26) (x := 0) (by decide +kernel) rfl l74 ?_
                  refine x_nI (t := 0) (mj := 245) (n := 1) (rc := 0) (ml := 1) (nr := 1) (np := 29) (as := [iv_c (h55 96 u71)]) (rest := [iv_c v93]) (lo1 := [iv_c (h55 96 u71)]) (by decide +kernel) (by decide) (by decide +kernel) (Or.inl rfl) rfl rfl (x_wi l74 x_wn) (x_wi l94 x_wn) (by decide) rfl ?_
                  refine x_iload (np := 1) (x := 0) (by decide +kernel) rfl l74 ?_
                  refine x_const (np := 3) (x := 9223372090541867020) (a := 2147483660) (by decide +kernel) (by decide) (by decide) ?_
                  refine x_anyD (np := 4) (k9 := 7) (by decide +kernel) (by decide) l74 (by decide) (by decide) (fun v95 l96 => ?_)
                  refine x_retI (np := 5) (x := 0) (by decide +kernel) l96 (Or.inl (by decide +kernel)) ⟨_, rfl, l96, ?_⟩
                  refine x_addA (by rw [tb_b246]; decide +kernel) l94 l96 (fun v97 l98 => ?_)
                  refine x_retI (np := 31) (x := 0) (by decide +kernel) l98 (Or.inl (by decide +kernel)) ⟨_, rfl, l98, ?_⟩
                  refine x_goto (np := 104) (x := 105) (by decide +kernel) ?_
                  refine x_retI (np := 106) (x := 0) (by decide +kernel) l98 (Or.inl (by decide +kernel)) ⟨_, rfl, l98, ?_⟩
                  exact ⟨j56, f59, (by first | decide | omega)⟩
                have q67 : ¬ (a2 ≠ 2147483646) := q67
                refine x_aload (np := 81) (x := 0) (by decide +kernel) rfl (x_nc_le (by decide)) ?_
                refine x_getC (np := 84) (x := 738) (f := 34) (q := (h55 75 34)) (by decide +kernel) (by decide) (by decide +kernel) rfl (fun l99 => ?_)
                refine x_goto (np := 87) (x := 105) (by decide +kernel) ?_
                refine x_retI (np := 106) (x := 0) (by decide +kernel) l99 (Or.inl (by decide +kernel)) ⟨_, rfl, l99, ?_⟩
                exact ⟨j56, f59, (by first | decide | omega)⟩
              have q65 : ¬ (a2 ≠ 2147483647) := q65
              refine x_iload (np := 73) (x := 3) (by decide +kernel) rfl l50 ?_
              refine x_retI (np := 74) (x := 0) (by decide +kernel) l50 (Or.inl (by decide +kernel)) ⟨_, rfl, l50, ?_⟩
              exact ⟨j56, f59, (by first | decide | omega)⟩
            have q61 : ¬ (v49 ≠ 2147483646) := q61
            refine x_const (np := 62) (x := 9223372026117357565) (a := 2147483645) (by decide +kernel) (by decide) (by decide) ?_
            refine x_retI (np := 63) (x := 0) (by decide +kernel) (by decide) (Or.inl (by decide +kernel)) ⟨_, rfl, (by decide), ?_⟩
            exact ⟨j56, f59, (by first | decide | omega)⟩
          have q40 : ¬ (2147483648 = 2147483648) := q40
          exfalso; omega
        have q38 : ¬ (2147483648 = 2147483648) := q38
        exfalso; omega
      have q36 : ¬ (2147483646 ≤ a2) := q36
      refine x_const (np := 25) (x := 9223372043297226753) (a := 2147483649) (by decide +kernel) (by decide) (by decide) ?_
      refine x_goto (np := 28) (x := 29) (by decide +kernel) ?_
      refine x_const (np := 30) (x := 9223372047592194050) (a := 2147483650) (by decide +kernel) (by decide) (by decide) ?_
      refine x_nI (t := 6) (mj := 152) (n := 3) (rc := 12) (ml := 3) (nr := 0) (np := 33) (as := [x_r 75, iv_c 2147483649, iv_c 2147483650]) (rest := []) (lo1 := [x_r 75, iv_c 2147483649, iv_c 2147483650]) (by decide +kernel) (by decide) (by decide +kernel) (x_rb_of (by decide +kernel)) rfl rfl (x_wr (by decide) (x_wi (by decide) (x_wi (by decide) x_wn))) x_wn (by decide) rfl ?_
      refine x_iload (np := 1) (x := 1) (by decide +kernel) rfl (by decide) ?_
      refine x_ifz (k := 0) (tg := 9) (np := 4) (by decide +kernel) (by decide) (by decide) (fun q100 => ?_) (fun q101 => ?_)
      · have q100 : 2147483649 = 2147483648 := q100
        exfalso; omega
      have q101 : ¬ (2147483649 = 2147483648) := q101
      refine x_aload (np := 5) (x := 0) (by decide +kernel) rfl (x_nc_le (by decide)) ?_
      refine x_iload (np := 6) (x := 2) (by decide +kernel) rfl (by decide) ?_
      refine x_putI (np := 9) (x := 704) (f := 0) (by decide +kernel) (by decide +kernel) (by decide) (Or.inl (by decide)) ?_
      have j103 := jU (e := 0) (v := 2147483650) 0 j2 rg_75_0_0_1 (by first | decide | omega) (by first | decide | omega) (by first | decide | omega)
      have f105 := jF (e := 0) (v := 2147483650) 0 f4 rg_75_0_0_1 (by first | decide | omega) (by first | decide | omega) (by decide)
      generalize e104 : x_up h1 75 0 2147483650 = h102 at j103 f105 ⊢
      refine x_iload (np := 10) (x := 1) (by decide +kernel) rfl (by decide) ?_
      refine x_retI (np := 11) (x := 0) (by decide +kernel) (by decide) (Or.inr ⟨by decide +kernel, by first | decide | omega, by first | decide | omega⟩) ⟨_, rfl, (by decide), ?_⟩
      refine x_ifz (k := 0) (tg := 38) (np := 36) (by decide +kernel) (by decide) (by decide) (fun q106 => ?_) (fun q107 => ?_)
      · have q106 : 2147483649 = 2147483648 := q106
        exfalso; omega
      have q107 : ¬ (2147483649 = 2147483648) := q107
      refine x_const (np := 37) (x := 9223372039002259456) (a := 2147483648) (by decide +kernel) (by decide) (by decide) ?_
      refine x_retI (np := 38) (x := 0) (by decide +kernel) (by decide) (Or.inl (by decide +kernel)) ⟨_, rfl, (by decide), ?_⟩
      exact ⟨j103, f105, (by first | decide | omega)⟩
    have q32 : ¬ (2147483648 = 2147483648) := q32
    exfalso; omega
  have q30 : ¬ (2147483649 ≠ 2147483648) := q30
  exfalso; omega
set_option maxHeartbeats 0 in
/-- LentNamesModel.liars(I)I -/
theorem c267_75 {sc : Nat × Nat} {d a1 : Nat} {h : xh} (hJ : J h) (ba1 : 0 ≤ a1 ∧ a1 ≤ 4294967295) (hW : WT 76 h) : X sc 267 (d + 5) (xI fun r h' => J h' ∧ Fr 8931384623105 h h' ∧ (0 ≤ r ∧ r ≤ 4294967295)) 0 0 0 [x_r 75, iv_c a1, 147573952589676412928, 147573952589676412928, 147573952589676412928, 147573952589676412928] [] h := by
  have la1 : a1 < 4294967296 := by first | decide | omega
  have hF := Fr.refl 8931384623105 h
  refine x_aload (np := 1) (x := 0) (by decide +kernel) rfl (x_nc_le (by decide)) ?_
  refine x_const (np := 2) (x := 9223372039002259456) (a := 2147483648) (by decide +kernel) (by decide) (by decide) ?_
  refine x_putI (np := 5) (x := 704) (f := 0) (by decide +kernel) (by decide +kernel) (by decide) (Or.inl (by decide)) ?_
  have j2 := jU (e := 0) (v := 2147483648) 0 hJ rg_75_0_0_1 (by first | decide | omega) (by first | decide | omega) (by first | decide | omega)
  have f4 := jF (e := 0) (v := 2147483648) 0 hF rg_75_0_0_1 (by first | decide | omega) (by first | decide | omega) (by decide)
  generalize e3 : x_up h 75 0 2147483648 = h1 at j2 f4 ⊢
  refine x_aload (np := 6) (x := 0) (by decide +kernel) rfl (x_nc_le (by decide)) ?_
  refine x_iload (np := 7) (x := 1) (by decide +kernel) rfl la1 ?_
  refine x_nI (t := 0) (mj := 160) (n := 1) (rc := 0) (ml := 1) (nr := 1) (np := 10) (as := [iv_c a1]) (rest := [x_r 75]) (lo1 := [iv_c a1]) (by decide +kernel) (by decide) (by decide +kernel) (Or.inl rfl) rfl rfl (x_wi la1 x_wn) (x_wr (by decide) x_wn) (by decide) rfl ?_
  refine x_iload (np := 1) (x := 0) (by decide +kernel) rfl la1 ?_
  refine x_const (np := 2) (x := 9223372039002259456) (a := 2147483648) (by decide +kernel) (by decide) (by decide) ?_
  refine x_const (np := 4) (x := 9223372086246899723) (a := 2147483659) (by decide +kernel) (by decide) (by decide) ?_
  refine x_nI (t := 0) (mj := 153) (n := 3) (rc := 0) (ml := 3) (nr := 0) (np := 7) (as := [iv_c a1, iv_c 2147483648, iv_c 2147483659]) (rest := []) (lo1 := [iv_c a1, iv_c 2147483648, iv_c 2147483659]) (by decide +kernel) (by decide) (by decide +kernel) (Or.inl rfl) rfl rfl (x_wi la1 (x_wi (by decide) (x_wi (by decide) x_wn))) x_wn (by decide) rfl ?_
  refine x_iload (np := 1) (x := 0) (by decide +kernel) rfl la1 ?_
  refine x_iload (np := 2) (x := 1) (by decide +kernel) rfl (by decide) ?_
  refine x_icmp (k := 2) (tg := 14) (np := 5) (by decide +kernel) (by decide) la1 (by decide) (fun q5 => ?_) (fun q6 => ?_)
  · have q5 : a1 < 2147483648 := q5
    refine x_const (np := 15) (x := 9223372039002259456) (a := 2147483648) (by decide +kernel) (by decide) (by decide) ?_
    refine x_retI (np := 16) (x := 0) (by decide +kernel) (by decide) (Or.inr ⟨by decide +kernel, by first | decide | omega, by first | decide | omega⟩) ⟨_, rfl, (by decide), ?_⟩
    refine x_ifz (k := 1) (tg := 14) (np := 10) (by decide +kernel) (by decide) (by decide) (fun q7 => ?_) (fun q8 => ?_)
    · have q7 : 2147483648 ≠ 2147483648 := q7
      exfalso; omega
    have q8 : ¬ (2147483648 ≠ 2147483648) := q8
    refine x_const (np := 11) (x := 9223372043297226753) (a := 2147483649) (by decide +kernel) (by decide) (by decide) ?_
    refine x_goto (np := 14) (x := 15) (by decide +kernel) ?_
    refine x_retI (np := 16) (x := 0) (by decide +kernel) (by decide) (Or.inr ⟨by decide +kernel, by first | decide | omega, by first | decide | omega⟩) ⟨_, rfl, (by decide), ?_⟩
    refine x_const (np := 11) (x := 9223372043297226753) (a := 2147483649) (by decide +kernel) (by decide) (by decide) ?_
    refine x_nI (t := 6) (mj := 152) (n := 3) (rc := 12) (ml := 3) (nr := 0) (np := 14) (as := [x_r 75, iv_c 2147483649, iv_c 2147483649]) (rest := []) (lo1 := [x_r 75, iv_c 2147483649, iv_c 2147483649]) (by decide +kernel) (by decide) (by decide +kernel) (x_rb_of (by decide +kernel)) rfl rfl (x_wr (by decide) (x_wi (by decide) (x_wi (by decide) x_wn))) x_wn (by decide) rfl ?_
    refine x_iload (np := 1) (x := 1) (by decide +kernel) rfl (by decide) ?_
    refine x_ifz (k := 0) (tg := 9) (np := 4) (by decide +kernel) (by decide) (by decide) (fun q9 => ?_) (fun q10 => ?_)
    · have q9 : 2147483649 = 2147483648 := q9
      exfalso; omega
    have q10 : ¬ (2147483649 = 2147483648) := q10
    refine x_aload (np := 5) (x := 0) (by decide +kernel) rfl (x_nc_le (by decide)) ?_
    refine x_iload (np := 6) (x := 2) (by decide +kernel) rfl (by decide) ?_
    refine x_putI (np := 9) (x := 704) (f := 0) (by decide +kernel) (by decide +kernel) (by decide) (Or.inl (by decide)) ?_
    have j12 := jU (e := 0) (v := 2147483649) 0 j2 rg_75_0_0_1 (by first | decide | omega) (by first | decide | omega) (by first | decide | omega)
    have f14 := jF (e := 0) (v := 2147483649) 0 f4 rg_75_0_0_1 (by first | decide | omega) (by first | decide | omega) (by decide)
    generalize e13 : x_up h1 75 0 2147483649 = h11 at j12 f14 ⊢
    refine x_iload (np := 10) (x := 1) (by decide +kernel) rfl (by decide) ?_
    refine x_retI (np := 11) (x := 0) (by decide +kernel) (by decide) (Or.inr ⟨by decide +kernel, by first | decide | omega, by first | decide | omega⟩) ⟨_, rfl, (by decide), ?_⟩
    refine x_ifz (k := 0) (tg := 19) (np := 17) (by decide +kernel) (by decide) (by decide) (fun q15 => ?_) (fun q16 => ?_)
    · have q15 : 2147483649 = 2147483648 := q15
      exfalso; omega
    have q16 : ¬ (2147483649 = 2147483648) := q16
    refine x_const (np := 18) (x := 9223372039002259456) (a := 2147483648) (by decide +kernel) (by decide) (by decide) ?_
    refine x_retI (np := 19) (x := 0) (by decide +kernel) (by decide) (Or.inl (by decide +kernel)) ⟨_, rfl, (by decide), ?_⟩
    exact ⟨j12, f14, (by first | decide | omega)⟩
  have q6 : ¬ (a1 < 2147483648) := q6
  refine x_iload (np := 6) (x := 0) (by decide +kernel) rfl la1 ?_
  refine x_iload (np := 7) (x := 2) (by decide +kernel) rfl (by decide) ?_
  refine x_icmp (k := 4) (tg := 14) (np := 10) (by decide +kernel) (by decide) la1 (by decide) (fun q17 => ?_) (fun q18 => ?_)
  · have q17 : 2147483659 < a1 := q17
    refine x_const (np := 15) (x := 9223372039002259456) (a := 2147483648) (by decide +kernel) (by decide) (by decide) ?_
    refine x_retI (np := 16) (x := 0) (by decide +kernel) (by decide) (Or.inr ⟨by decide +kernel, by first | decide | omega, by first | decide | omega⟩) ⟨_, rfl, (by decide), ?_⟩
    refine x_ifz (k := 1) (tg := 14) (np := 10) (by decide +kernel) (by decide) (by decide) (fun q19 => ?_) (fun q20 => ?_)
    · have q19 : 2147483648 ≠ 2147483648 := q19
      exfalso; omega
    have q20 : ¬ (2147483648 ≠ 2147483648) := q20
    refine x_const (np := 11) (x := 9223372043297226753) (a := 2147483649) (by decide +kernel) (by decide) (by decide) ?_
    refine x_goto (np := 14) (x := 15) (by decide +kernel) ?_
    refine x_retI (np := 16) (x := 0) (by decide +kernel) (by decide) (Or.inr ⟨by decide +kernel, by first | decide | omega, by first | decide | omega⟩) ⟨_, rfl, (by decide), ?_⟩
    refine x_const (np := 11) (x := 9223372043297226753) (a := 2147483649) (by decide +kernel) (by decide) (by decide) ?_
    refine x_nI (t := 6) (mj := 152) (n := 3) (rc := 12) (ml := 3) (nr := 0) (np := 14) (as := [x_r 75, iv_c 2147483649, iv_c 2147483649]) (rest := []) (lo1 := [x_r 75, iv_c 2147483649, iv_c 2147483649]) (by decide +kernel) (by decide) (by decide +kernel) (x_rb_of (by decide +kernel)) rfl rfl (x_wr (by decide) (x_wi (by decide) (x_wi (by decide) x_wn))) x_wn (by decide) rfl ?_
    refine x_iload (np := 1) (x := 1) (by decide +kernel) rfl (by decide) ?_
    refine x_ifz (k := 0) (tg := 9) (np := 4) (by decide +kernel) (by decide) (by decide) (fun q21 => ?_) (fun q22 => ?_)
    · have q21 : 2147483649 = 2147483648 := q21
      exfalso; omega
    have q22 : ¬ (2147483649 = 2147483648) := q22
    refine x_aload (np := 5) (x := 0) (by decide +kernel) rfl (x_nc_le (by decide)) ?_
    refine x_iload (np := 6) (x := 2) (by decide +kernel) rfl (by decide) ?_
    refine x_putI (np := 9) (x := 704) (f := 0) (by decide +kernel) (by decide +kernel) (by decide) (Or.inl (by decide)) ?_
    have j24 := jU (e := 0) (v := 2147483649) 0 j2 rg_75_0_0_1 (by first | decide | omega) (by first | decide | omega) (by first | decide | omega)
    have f26 := jF (e := 0) (v := 2147483649) 0 f4 rg_75_0_0_1 (by first | decide | omega) (by first | decide | omega) (by decide)
    generalize e25 : x_up h1 75 0 2147483649 = h23 at j24 f26 ⊢
    refine x_iload (np := 10) (x := 1) (by decide +kernel) rfl (by decide) ?_
    refine x_retI (np := 11) (x := 0) (by decide +kernel) (by decide) (Or.inr ⟨by decide +kernel, by first | decide | omega, by first | decide | omega⟩) ⟨_, rfl, (by decide), ?_⟩
    refine x_ifz (k := 0) (tg := 19) (np := 17) (by decide +kernel) (by decide) (by decide) (fun q27 => ?_) (fun q28 => ?_)
    · have q27 : 2147483649 = 2147483648 := q27
      exfalso; omega
    have q28 : ¬ (2147483649 = 2147483648) := q28
    refine x_const (np := 18) (x := 9223372039002259456) (a := 2147483648) (by decide +kernel) (by decide) (by decide) ?_
    refine x_retI (np := 19) (x := 0) (by decide +kernel) (by decide) (Or.inl (by decide +kernel)) ⟨_, rfl, (by decide), ?_⟩
    exact ⟨j24, f26, (by first | decide | omega)⟩
  have q18 : ¬ (2147483659 < a1) := q18
  refine x_const (np := 11) (x := 9223372043297226753) (a := 2147483649) (by decide +kernel) (by decide) (by decide) ?_
  refine x_goto (np := 14) (x := 15) (by decide +kernel) ?_
  refine x_retI (np := 16) (x := 0) (by decide +kernel) (by decide) (Or.inr ⟨by decide +kernel, by first | decide | omega, by first | decide | omega⟩) ⟨_, rfl, (by decide), ?_⟩
  refine x_ifz (k := 1) (tg := 14) (np := 10) (by decide +kernel) (by decide) (by decide) (fun q29 => ?_) (fun q30 => ?_)
  · have q29 : 2147483649 ≠ 2147483648 := q29
    refine x_const (np := 15) (x := 9223372039002259456) (a := 2147483648) (by decide +kernel) (by decide) (by decide) ?_
    refine x_retI (np := 16) (x := 0) (by decide +kernel) (by decide) (Or.inr ⟨by decide +kernel, by first | decide | omega, by first | decide | omega⟩) ⟨_, rfl, (by decide), ?_⟩
    refine x_const (np := 11) (x := 9223372043297226753) (a := 2147483649) (by decide +kernel) (by decide) (by decide) ?_
    refine x_nI (t := 6) (mj := 152) (n := 3) (rc := 12) (ml := 3) (nr := 0) (np := 14) (as := [x_r 75, iv_c 2147483648, iv_c 2147483649]) (rest := []) (lo1 := [x_r 75, iv_c 2147483648, iv_c 2147483649]) (by decide +kernel) (by decide) (by decide +kernel) (x_rb_of (by decide +kernel)) rfl rfl (x_wr (by decide) (x_wi (by decide) (x_wi (by decide) x_wn))) x_wn (by decide) rfl ?_
    refine x_iload (np := 1) (x := 1) (by decide +kernel) rfl (by decide) ?_
    refine x_ifz (k := 0) (tg := 9) (np := 4) (by decide +kernel) (by decide) (by decide) (fun q31 => ?_) (fun q32 => ?_)
    · have q31 : 2147483648 = 2147483648 := q31
      refine x_iload (np := 10) (x := 1) (by decide +kernel) rfl (by decide) ?_
      refine x_retI (np := 11) (x := 0) (by decide +kernel) (by decide) (Or.inr ⟨by decide +kernel, by first | decide | omega, by first | decide | omega⟩) ⟨_, rfl, (by decide), ?_⟩
      refine x_ifz (k := 0) (tg := 19) (np := 17) (by decide +kernel) (by decide) (by decide) (fun q33 => ?_) (fun q34 => ?_)
      · have q33 : 2147483648 = 2147483648 := q33
        refine x_aload (np := 20) (x := 0) (by decide +kernel) rfl (x_nc_le (by decide)) ?_
        have m38 : WT 76 h1 := by rw [← e3]; exact WT.oth hW hJ (by decide)
        refine x_cV (t := 6) (mj := 210) (n := 1) (rc := 12) (ml := 5) (nr := 0) (np := 23) (as := [x_r 75]) (rest := []) (lo1 := [x_r 75, 147573952589676412928, 147573952589676412928, 147573952589676412928, 147573952589676412928]) (by decide +kernel) (by decide) (by decide +kernel) (x_rb_of (by decide +kernel)) rfl rfl (x_wr (by decide) x_wn) x_wn (by decide) rfl (c210_75 j2  m38) (fun h39 q37 => ?_)
        obtain ⟨j40, f41⟩ := q37
        have f44 := Fr.trans f4 f41 (by decide)
        refine x_aload (np := 24) (x := 0) (by decide +kernel) rfl (x_nc_le (by decide)) ?_
        refine x_iload (np := 25) (x := 1) (by decide +kernel) rfl la1 ?_
        refine x_putI (np := 28) (x := 736) (f := 32) (by decide +kernel) (by decide +kernel) la1 (Or.inl (by decide)) ?_
        have j46 := jU (e := 32) (v := a1) 0 j40 rg_75_32_0_1 (by first | decide | omega) (by first | decide | omega) (by first | decide | omega)
        have f48 := jF (e := 32) (v := a1) 0 f44 rg_75_32_0_1 (by first | decide | omega) (by first | decide | omega) (by decide)
        generalize e47 : x_up h39 75 32 a1 = h45 at j46 f48 ⊢
        refine x_const (np := 29) (x := 9223372039002259456) (a := 2147483648) (by decide +kernel) (by decide) (by decide) ?_
        refine x_istore (np := 30) (x := 2) (lo' := [x_r 75, iv_c a1, iv_c 2147483648, 147573952589676412928, 147573952589676412928, 147573952589676412928]) (by decide +kernel) (by decide) (Nat.le_of_ble_eq_true rfl) rfl ?_
        refine x_const (np := 31) (x := 9223372039002259456) (a := 2147483648) (by decide +kernel) (by decide) (by decide) ?_
        refine x_istore (np := 32) (x := 3) (lo' := [x_r 75, iv_c a1, iv_c 2147483648, iv_c 2147483648, 147573952589676412928, 147573952589676412928]) (by decide +kernel) (by decide) (Nat.le_of_ble_eq_true rfl) rfl ?_
        have p7688 : ∀ (n : Nat) (v7682 : Nat) (v7684 : Nat) (w7686 : Nat) (w7687 : Nat), 4294967296 - v7684 < n → (0 ≤ v7682 ∧ v7682 ≤ 4294967295) → (2147483648 ≤ v7684 ∧ v7684 ≤ 2147483658) → X sc 267 (d + 5) (xI fun r h' => J h' ∧ Fr 8931384623105 h h' ∧ (0 ≤ r ∧ r ≤ 4294967295)) 0 0 32 [x_r 75, iv_c a1, iv_c v7682, iv_c v7684, w7686, w7687] [] h45 := by
          intro n
          induction n with
          | zero => intro v7682 v7684 w7686 w7687 q7689; exact absurd q7689 (Nat.not_lt_zero _)
          | succ n i7690 =>
            intro v7682 v7684 w7686 w7687 q7689 b7683 b7685
            refine x_iload (np := 33) (x := 3) (by decide +kernel) rfl (by first | decide | omega) ?_
            refine x_aload (np := 34) (x := 0) (by decide +kernel) rfl (x_nc_le (by decide)) ?_
            have q7691 : h45 75 1 = 76 := by have z := jB (e := 1) 0 j46 rg_75_1_0_1 (by decide) (by decide); omega
            refine x_getR (np := 37) (x := 705) (f := 1) (q := 76) (by decide +kernel) (by decide) (by decide +kernel) q7691 ?_
            refine x_const (np := 38) (x := 9223372060477095941) (a := 2147483653) (by decide +kernel) (by decide) (by decide) ?_
            have q7692 : h45 76 5 = h39 76 5 := by rw [← e47]; exact x_up_k (by decide)
            have q7693 : h39 76 5 = h1 76 5 := jK 0 f41 rg_76_5_0_1 (by first | decide | omega) (by first | decide | omega) (by decide)
            have q7694 : h1 76 5 = h 76 5 := by rw [← e3]; exact x_up_k (by decide)
            have b7695 := jB (e := 5) 0 hJ rg_76_5_0_1 (by first | decide | omega) (by first | decide | omega)
            refine x_aldC (np := 39) (x := 0) (n := 1952) (i := 5) (q := (h 76 5)) (by decide +kernel) (by decide +kernel) (by first | decide | omega) (by first | decide | omega) (by decide) ((q7692.trans q7693).trans q7694) (fun l7696 => ?_)
            refine x_icmp (k := 3) (tg := 126) (np := 42) (by decide +kernel) (by decide) (by first | decide | omega) l7696 (fun q7697 => ?_) (fun q7698 => ?_)
            · have q7697 : (h 76 5) ≤ v7684 := q7697
              refine x_iload (np := 127) (x := 2) (by decide +kernel) rfl (by first | decide | omega) ?_
              refine x_retI (np := 128) (x := 0) (by decide +kernel) (by first | decide | omega) (Or.inl (by decide +kernel)) ⟨_, rfl, (by first | decide | omega), ?_⟩
              exact ⟨j46, f48, (by first | decide | omega)⟩
            have q7698 : ¬ ((h 76 5) ≤ v7684) := q7698
            refine x_aload (np := 43) (x := 0) (by decide +kernel) rfl (x_nc_le (by decide)) ?_
            refine x_iload (np := 44) (x := 3) (by decide +kernel) rfl (by first | decide | omega) ?_
            refine x_nI (t := 6) (mj := 249) (n := 2) (rc := 12) (ml := 2) (nr := 0) (np := 47) (as := [x_r 75, iv_c v7684]) (rest := []) (lo1 := [x_r 75, iv_c v7684]) (by decide +kernel) (by decide) (by decide +kernel) (x_rb_of (by decide +kernel)) rfl rfl (x_wr (by decide) (x_wi (by first | decide | omega) x_wn)) x_wn (by decide) rfl ?_
            refine x_aload (np := 1) (x := 0) (by decide +kernel) rfl (x_nc_le (by decide)) ?_
            refine x_iload (np := 2) (x := 1) (by decide +kernel) rfl (by first | decide | omega) ?_
            refine x_const (np := 3) (x := 9223372051887161347) (a := 2147483651) (by decide +kernel) (by decide) (by decide) ?_
            refine x_nI (t := 6) (mj := 164) (n := 3) (rc := 12) (ml := 3) (nr := 0) (np := 6) (as := [x_r 75, iv_c v7684, iv_c 2147483651]) (rest := []) (lo1 := [x_r 75, iv_c v7684, iv_c 2147483651]) (by decide +kernel) (by decide) (by decide +kernel) (x_rb_of (by decide +kernel)) rfl rfl (x_wr (by decide) (x_wi (by first | decide | omega) (x_wi (by decide) x_wn))) x_wn (by decide) rfl ?_
            refine x_aload (np := 1) (x := 0) (by decide +kernel) rfl (x_nc_le (by decide)) ?_
            have q7699 : h45 75 1 = 76 := by have z := jB (e := 1) 0 j46 rg_75_1_0_1 (by decide) (by decide); omega
            refine x_getR (np := 4) (x := 705) (f := 1) (q := 76) (by decide +kernel) (by decide) (by decide +kernel) q7699 ?_
            refine x_const (np := 7) (x := 9223373112744083706) (a := 2147483898) (by decide +kernel) (by decide) (by decide) ?_
            refine x_const (np := 8) (x := 9223372056182128644) (a := 2147483652) (by decide +kernel) (by decide) (by decide) ?_
            refine x_iload (np := 9) (x := 1) (by decide +kernel) rfl (by first | decide | omega) ?_
            obtain ⟨u7700, q7701⟩ : ∃ z, v7684 = 2147483648 + z := ⟨v7684 - 2147483648, by first | decide | omega⟩
            refine x_imul (np := 10) (x := 0) (i := 4) (j := u7700) (v := (2147483648 + 4 * u7700)) (by decide +kernel) (by first | decide | omega) (by first | decide | omega) (by first | decide | omega) (by first | decide | omega) (by decide) (by first | decide | omega) ?_
            refine x_iadd (np := 11) (x := 0) (v := (2147483898 + 4 * u7700)) (by decide +kernel) (by decide) (by first | decide | omega) (by first | decide | omega) (by first | decide | omega) ?_
            refine x_iload (np := 12) (x := 2) (by decide +kernel) rfl (by decide) ?_
            refine x_iadd (np := 13) (x := 0) (v := (2147483901 + 4 * u7700)) (by decide +kernel) (by first | decide | omega) (by decide) (by first | decide | omega) (by first | decide | omega) ?_
            have q7703 : h45 76 (253 + 4 * u7700) = h39 76 (253 + 4 * u7700) := by rw [← e47]; exact x_up_k (by decide)
            have q7704 : h39 76 (253 + 4 * u7700) = h1 76 (253 + 4 * u7700) := jK u7700 f41 rg_76_253_4_10 (by first | decide | omega) (by first | decide | omega) (by decide)
            have q7705 : h1 76 (253 + 4 * u7700) = h 76 (253 + 4 * u7700) := by rw [← e3]; exact x_up_k (by decide)
            refine x_aldC (np := 14) (x := 0) (n := 1952) (i := (253 + 4 * u7700)) (q := ((h 76 (253 + 4 * u7700)))) (by decide +kernel) (by decide +kernel) (by first | decide | omega) (by first | decide | omega) (by decide) ((q7703.trans q7704).trans q7705) (fun l7706 => ?_)
            refine x_retI (np := 15) (x := 0) (by decide +kernel) l7706 (Or.inl (by decide +kernel)) ⟨_, rfl, l7706, ?_⟩
            refine x_aload (np := 7) (x := 0) (by decide +kernel) rfl (x_nc_le (by decide)) ?_
            have q7707 : h45 75 32 = a1 := by rw [← e47]; exact x_up_at
            refine x_getC (np := 10) (x := 736) (f := 32) (q := a1) (by decide +kernel) (by decide) (by decide +kernel) q7707 (fun l7708 => ?_)
            refine x_icmp (k := 4) (tg := 17) (np := 13) (by decide +kernel) (by decide) l7706 la1 (fun q7709 => ?_) (fun q7710 => ?_)
            · have q7709 : a1 < ((h 76 (253 + 4 * u7700))) := q7709
              refine x_const (np := 18) (x := 9223372039002259456) (a := 2147483648) (by decide +kernel) (by decide) (by decide) ?_
              refine x_retI (np := 19) (x := 0) (by decide +kernel) (by decide) (Or.inr ⟨by decide +kernel, by first | decide | omega, by first | decide | omega⟩) ⟨_, rfl, (by decide), ?_⟩
              refine x_istore (np := 49) (x := 4) (lo' := [x_r 75, iv_c a1, iv_c v7682, iv_c v7684, iv_c 2147483648, w7687]) (by decide +kernel) (by decide) (Nat.le_of_ble_eq_true rfl) rfl ?_
              refine x_const (np := 50) (x := 9223372039002259456) (a := 2147483648) (by decide +kernel) (by decide) (by decide) ?_
              refine x_istore (np := 52) (x := 5) (lo' := [x_r 75, iv_c a1, iv_c v7682, iv_c v7684, iv_c 2147483648, iv_c 2147483648]) (by decide +kernel) (by decide) (Nat.le_of_ble_eq_true rfl) rfl ?_
              have p7832 : ∀ (n : Nat) (v7828 : Nat) (v7830 : Nat), 4294967296 - v7830 < n → (2147483648 ≤ v7828 ∧ v7828 ≤ 2147483648) → (2147483648 ≤ v7830 ∧ v7830 ≤ 2147483658) → X sc 267 (d + 5) (xI fun r h' => J h' ∧ Fr 8931384623105 h h' ∧ (0 ≤ r ∧ r ≤ 4294967295)) 0 0 52 [x_r 75, iv_c a1, iv_c v7682, iv_c v7684, iv_c v7828, iv_c v7830] [] h45 := by
                intro n
                induction n with
                | zero => intro v7828 v7830 q7833; exact absurd q7833 (Nat.not_lt_zero _)
                | succ n i7834 =>
                  intro v7828 v7830 q7833 b7829 b7831
                  refine x_iload (np := 54) (x := 5) (by decide +kernel) rfl (by first | decide | omega) ?_
                  refine x_aload (np := 55) (x := 0) (by decide +kernel) rfl (x_nc_le (by decide)) ?_
                  have q7835 : h45 75 1 = 76 := by have z := jB (e := 1) 0 j46 rg_75_1_0_1 (by decide) (by decide); omega
                  refine x_getR (np := 58) (x := 705) (f := 1) (q := 76) (by decide +kernel) (by decide) (by decide +kernel) q7835 ?_
                  refine x_const (np := 59) (x := 9223372060477095941) (a := 2147483653) (by decide +kernel) (by decide) (by decide) ?_
                  have q7836 : h45 76 5 = h39 76 5 := by rw [← e47]; exact x_up_k (by decide)
                  have q7837 : h39 76 5 = h1 76 5 := jK 0 f41 rg_76_5_0_1 (by first | decide | omega) (by first | decide | omega) (by decide)
                  have q7838 : h1 76 5 = h 76 5 := by rw [← e3]; exact x_up_k (by decide)
                  refine x_aldC (np := 60) (x := 0) (n := 1952) (i := 5) (q := (h 76 5)) (by decide +kernel) (by decide +kernel) (by first | decide | omega) (by first | decide | omega) (by decide) ((q7836.trans q7837).trans q7838) (fun l7839 => ?_)
                  refine x_icmp (k := 3) (tg := 105) (np := 63) (by decide +kernel) (by decide) (by first | decide | omega) l7696 (fun q7840 => ?_) (fun q7841 => ?_)
                  · have q7840 : (h 76 5) ≤ v7830 := q7840
                    refine x_iload (np := 106) (x := 2) (by decide +kernel) rfl (by first | decide | omega) ?_
                    refine x_iload (np := 108) (x := 4) (by decide +kernel) rfl (by first | decide | omega) ?_
                    refine x_ifz (k := 0) (tg := 117) (np := 111) (by decide +kernel) (by decide) (by first | decide | omega) (fun q7842 => ?_) (fun q7843 => ?_)
                    · have q7842 : v7828 = 2147483648 := q7842
                      refine x_const (np := 118) (x := 9223372039002259456) (a := 2147483648) (by decide +kernel) (by decide) (by decide) ?_
                      refine x_any (np := 119) (k9 := 1) (by decide +kernel) (by decide) (by first | decide | omega) (by decide) (fun v7844 l7845 => ?_)
                      refine x_istore (np := 120) (x := 2) (lo' := [x_r 75, iv_c a1, iv_c v7844, iv_c v7684, iv_c v7828, iv_c v7830]) (by decide +kernel) l7845 (Nat.le_of_ble_eq_true rfl) rfl ?_
                      refine x_iinc (np := 123) (i := 3) (j := 2147483649) (v := (1 + v7684)) (lo' := [x_r 75, iv_c a1, iv_c v7844, iv_c (1 + v7684), iv_c v7828, iv_c v7830]) (by decide +kernel) (by decide) (by decide) rfl (by first | decide | omega) (by first | decide | omega) (by first | decide | omega) rfl ?_
                      refine x_goto (np := 126) (x := 32) (by decide +kernel) ?_
                      exact i7690 v7844 (1 + v7684) (iv_c v7828) (iv_c v7830) (by first | decide | omega) (by first | decide | omega) (by first | decide | omega)
                    have q7843 : ¬ (v7828 = 2147483648) := q7843
                    exfalso; omega
                  have q7841 : ¬ ((h 76 5) ≤ v7830) := q7841
                  refine x_iload (np := 65) (x := 4) (by decide +kernel) rfl (by first | decide | omega) ?_
                  refine x_ifz (k := 0) (tg := 96) (np := 68) (by decide +kernel) (by decide) (by first | decide | omega) (fun q7846 => ?_) (fun q7847 => ?_)
                  · have q7846 : v7828 = 2147483648 := q7846
                    refine x_const (np := 97) (x := 9223372039002259456) (a := 2147483648) (by decide +kernel) (by decide) (by decide) ?_
                    refine x_istore (np := 99) (x := 4) (lo' := [x_r 75, iv_c a1, iv_c v7682, iv_c v7684, iv_c 2147483648, iv_c v7830]) (by decide +kernel) (by decide) (Nat.le_of_ble_eq_true rfl) rfl ?_
                    refine x_iinc (np := 102) (i := 5) (j := 2147483649) (v := (1 + v7830)) (lo' := [x_r 75, iv_c a1, iv_c v7682, iv_c v7684, iv_c 2147483648, iv_c (1 + v7830)]) (by decide +kernel) (by decide) (by decide) rfl (by first | decide | omega) (by first | decide | omega) (by first | decide | omega) rfl ?_
                    refine x_goto (np := 105) (x := 52) (by decide +kernel) ?_
                    exact i7834 2147483648 (1 + v7830) (by first | decide | omega) (by first | decide | omega) (by first | decide | omega)
                  have q7847 : ¬ (v7828 = 2147483648) := q7847
                  exfalso; omega
              exact p7832 _ 2147483648 2147483648 (Nat.lt_succ_self _) (by first | decide | omega) (by first | decide | omega)
            have q7710 : ¬ (a1 < ((h 76 (253 + 4 * u7700)))) := q7710
            refine x_const (np := 14) (x := 9223372043297226753) (a := 2147483649) (by decide +kernel) (by decide) (by decide) ?_
            refine x_goto (np := 17) (x := 18) (by decide +kernel) ?_
            refine x_retI (np := 19) (x := 0) (by decide +kernel) (by decide) (Or.inr ⟨by decide +kernel, by first | decide | omega, by first | decide | omega⟩) ⟨_, rfl, (by decide), ?_⟩
            refine x_istore (np := 49) (x := 4) (lo' := [x_r 75, iv_c a1, iv_c v7682, iv_c v7684, iv_c 2147483649, w7687]) (by decide +kernel) (by decide) (Nat.le_of_ble_eq_true rfl) rfl ?_
            refine x_const (np := 50) (x := 9223372039002259456) (a := 2147483648) (by decide +kernel) (by decide) (by decide) ?_
            refine x_istore (np := 52) (x := 5) (lo' := [x_r 75, iv_c a1, iv_c v7682, iv_c v7684, iv_c 2147483649, iv_c 2147483648]) (by decide +kernel) (by decide) (Nat.le_of_ble_eq_true rfl) rfl ?_
            have p8464 : ∀ (n : Nat) (v8460 : Nat) (v8462 : Nat), 4294967296 - v8462 < n → (2147483648 ≤ v8460 ∧ v8460 ≤ 2147483649) → (2147483648 ≤ v8462 ∧ v8462 ≤ 2147483658) → X sc 267 (d + 5) (xI fun r h' => J h' ∧ Fr 8931384623105 h h' ∧ (0 ≤ r ∧ r ≤ 4294967295)) 0 0 52 [x_r 75, iv_c a1, iv_c v7682, iv_c v7684, iv_c v8460, iv_c v8462] [] h45 := by
              intro n
              induction n with
              | zero => intro v8460 v8462 q8465; exact absurd q8465 (Nat.not_lt_zero _)
              | succ n i8466 =>
                intro v8460 v8462 q8465 b8461 b8463
                refine x_iload (np := 54) (x := 5) (by decide +kernel) rfl (by first | decide | omega) ?_
                refine x_aload (np := 55) (x := 0) (by decide +kernel) rfl (x_nc_le (by decide)) ?_
                have q8467 : h45 75 1 = 76 := by have z := jB (e := 1) 0 j46 rg_75_1_0_1 (by decide) (by decide); omega
                refine x_getR (np := 58) (x := 705) (f := 1) (q := 76) (by decide +kernel) (by decide) (by decide +kernel) q8467 ?_
                refine x_const (np := 59) (x := 9223372060477095941) (a := 2147483653) (by decide +kernel) (by decide) (by decide) ?_
                have q8468 : h45 76 5 = h39 76 5 := by rw [← e47]; exact x_up_k (by decide)
                have q8469 : h39 76 5 = h1 76 5 := jK 0 f41 rg_76_5_0_1 (by first | decide | omega) (by first | decide | omega) (by decide)
                have q8470 : h1 76 5 = h 76 5 := by rw [← e3]; exact x_up_k (by decide)
                refine x_aldC (np := 60) (x := 0) (n := 1952) (i := 5) (q := (h 76 5)) (by decide +kernel) (by decide +kernel) (by first | decide | omega) (by first | decide | omega) (by decide) ((q8468.trans q8469).trans q8470) (fun l8471 => ?_)
                refine x_icmp (k := 3) (tg := 105) (np := 63) (by decide +kernel) (by decide) (by first | decide | omega) l7696 (fun q8472 => ?_) (fun q8473 => ?_)
                · have q8472 : (h 76 5) ≤ v8462 := q8472
                  refine x_iload (np := 106) (x := 2) (by decide +kernel) rfl (by first | decide | omega) ?_
                  refine x_iload (np := 108) (x := 4) (by decide +kernel) rfl (by first | decide | omega) ?_
                  refine x_ifz (k := 0) (tg := 117) (np := 111) (by decide +kernel) (by decide) (by first | decide | omega) (fun q8474 => ?_) (fun q8475 => ?_)
                  · have q8474 : v8460 = 2147483648 := q8474
                    refine x_const (np := 118) (x := 9223372039002259456) (a := 2147483648) (by decide +kernel) (by decide) (by decide) ?_
                    refine x_any (np := 119) (k9 := 1) (by decide +kernel) (by decide) (by first | decide | omega) (by decide) (fun v8476 l8477 => ?_)
                    refine x_istore (np := 120) (x := 2) (lo' := [x_r 75, iv_c a1, iv_c v8476, iv_c v7684, iv_c v8460, iv_c v8462]) (by decide +kernel) l8477 (Nat.le_of_ble_eq_true rfl) rfl ?_
                    refine x_iinc (np := 123) (i := 3) (j := 2147483649) (v := (1 + v7684)) (lo' := [x_r 75, iv_c a1, iv_c v8476, iv_c (1 + v7684), iv_c v8460, iv_c v8462]) (by decide +kernel) (by decide) (by decide) rfl (by first | decide | omega) (by first | decide | omega) (by first | decide | omega) rfl ?_
                    refine x_goto (np := 126) (x := 32) (by decide +kernel) ?_
                    exact i7690 v8476 (1 + v7684) (iv_c v8460) (iv_c v8462) (by first | decide | omega) (by first | decide | omega) (by first | decide | omega)
                  have q8475 : ¬ (v8460 = 2147483648) := q8475
                  refine x_const (np := 112) (x := 9223372043297226753) (a := 2147483649) (by decide +kernel) (by decide) (by decide) ?_
                  refine x_iload (np := 113) (x := 3) (by decide +kernel) rfl (by first | decide | omega) ?_
                  refine x_any (np := 114) (k9 := 3) (by decide +kernel) (by decide) (by decide) (by first | decide | omega) (fun v8478 l8479 => ?_)
                  refine x_goto (np := 117) (x := 118) (by decide +kernel) ?_
                  refine x_any (np := 119) (k9 := 1) (by decide +kernel) (by decide) (by first | decide | omega) l8479 (fun v8480 l8481 => ?_)
                  refine x_istore (np := 120) (x := 2) (lo' := [x_r 75, iv_c a1, iv_c v8480, iv_c v7684, iv_c v8460, iv_c v8462]) (by decide +kernel) l8481 (Nat.le_of_ble_eq_true rfl) rfl ?_
                  refine x_iinc (np := 123) (i := 3) (j := 2147483649) (v := (1 + v7684)) (lo' := [x_r 75, iv_c a1, iv_c v8480, iv_c (1 + v7684), iv_c v8460, iv_c v8462]) (by decide +kernel) (by decide) (by decide) rfl (by first | decide | omega) (by first | decide | omega) (by first | decide | omega) rfl ?_
                  refine x_goto (np := 126) (x := 32) (by decide +kernel) ?_
                  exact i7690 v8480 (1 + v7684) (iv_c v8460) (iv_c v8462) (by first | decide | omega) (by first | decide | omega) (by first | decide | omega)
                have q8473 : ¬ ((h 76 5) ≤ v8462) := q8473
                refine x_iload (np := 65) (x := 4) (by decide +kernel) rfl (by first | decide | omega) ?_
                refine x_ifz (k := 0) (tg := 96) (np := 68) (by decide +kernel) (by decide) (by first | decide | omega) (fun q8482 => ?_) (fun q8483 => ?_)
                · have q8482 : v8460 = 2147483648 := q8482
                  refine x_const (np := 97) (x := 9223372039002259456) (a := 2147483648) (by decide +kernel) (by decide) (by decide) ?_
                  refine x_istore (np := 99) (x := 4) (lo' := [x_r 75, iv_c a1, iv_c v7682, iv_c v7684, iv_c 2147483648, iv_c v8462]) (by decide +kernel) (by decide) (Nat.le_of_ble_eq_true rfl) rfl ?_
                  refine x_iinc (np := 102) (i := 5) (j := 2147483649) (v := (1 + v8462)) (lo' := [x_r 75, iv_c a1, iv_c v7682, iv_c v7684, iv_c 2147483648, iv_c (1 + v8462)]) (by decide +kernel) (by decide) (by decide) rfl (by first | decide | omega) (by first | decide | omega) (by first | decide | omega) rfl ?_
                  refine x_goto (np := 105) (x := 52) (by decide +kernel) ?_
                  exact i8466 2147483648 (1 + v8462) (by first | decide | omega) (by first | decide | omega) (by first | decide | omega)
                have q8483 : ¬ (v8460 = 2147483648) := q8483
                refine x_iload (np := 70) (x := 5) (by decide +kernel) rfl (by first | decide | omega) ?_
                refine x_iload (np := 71) (x := 3) (by decide +kernel) rfl (by first | decide | omega) ?_
                refine x_icmp (k := 0) (tg := 92) (np := 74) (by decide +kernel) (by decide) (by first | decide | omega) (by first | decide | omega) (fun q8484 => ?_) (fun q8485 => ?_)
                · have q8484 : v8462 = v7684 := q8484
                  refine x_const (np := 93) (x := 9223372043297226753) (a := 2147483649) (by decide +kernel) (by decide) (by decide) ?_
                  refine x_goto (np := 96) (x := 97) (by decide +kernel) ?_
                  refine x_istore (np := 99) (x := 4) (lo' := [x_r 75, iv_c a1, iv_c v7682, iv_c v7684, iv_c 2147483649, iv_c v8462]) (by decide +kernel) (by decide) (Nat.le_of_ble_eq_true rfl) rfl ?_
                  refine x_iinc (np := 102) (i := 5) (j := 2147483649) (v := (1 + v8462)) (lo' := [x_r 75, iv_c a1, iv_c v7682, iv_c v7684, iv_c 2147483649, iv_c (1 + v8462)]) (by decide +kernel) (by decide) (by decide) rfl (by first | decide | omega) (by first | decide | omega) (by first | decide | omega) rfl ?_
                  refine x_goto (np := 105) (x := 52) (by decide +kernel) ?_
                  exact i8466 2147483649 (1 + v8462) (by first | decide | omega) (by first | decide | omega) (by first | decide | omega)
                have q8485 : ¬ (v8462 = v7684) := q8485
                refine x_aload (np := 75) (x := 0) (by decide +kernel) rfl (x_nc_le (by decide)) ?_
                refine x_iload (np := 77) (x := 5) (by decide +kernel) rfl (by first | decide | omega) ?_
                refine x_nI (t := 6) (mj := 249) (n := 2) (rc := 12) (ml := 2) (nr := 0) (np := 80) (as := [x_r 75, iv_c v8462]) (rest := []) (lo1 := [x_r 75, iv_c v8462]) (by decide +kernel) (by decide) (by decide +kernel) (x_rb_of (by decide +kernel)) rfl rfl (x_wr (by decide) (x_wi (by first | decide | omega) x_wn)) x_wn (by decide) rfl ?_
                refine x_aload (np := 1) (x := 0) (by decide +kernel) rfl (x_nc_le (by decide)) ?_
                refine x_iload (np := 2) (x := 1) (by decide +kernel) rfl (by first | decide | omega) ?_
                refine x_const (np := 3) (x := 9223372051887161347) (a := 2147483651) (by decide +kernel) (by decide) (by decide) ?_
                refine x_nI (t := 6) (mj := 164) (n := 3) (rc := 12) (ml := 3) (nr := 0) (np := 6) (as := [x_r 75, iv_c v8462, iv_c 2147483651]) (rest := []) (lo1 := [x_r 75, iv_c v8462, iv_c 2147483651]) (by decide +kernel) (by decide) (by decide +kernel) (x_rb_of (by decide +kernel)) rfl rfl (x_wr (by decide) (x_wi (by first | decide | omega) (x_wi (by decide) x_wn))) x_wn (by decide) rfl ?_
                refine x_aload (np := 1) (x := 0) (by decide +kernel) rfl (x_nc_le (by decide)) ?_
                have q8486 : h45 75 1 = 76 := by have z := jB (e := 1) 0 j46 rg_75_1_0_1 (by decide) (by decide); omega
                refine x_getR (np := 4) (x := 705) (f := 1) (q := 76) (by decide +kernel) (by decide) (by decide +kernel) q8486 ?_
                refine x_const (np := 7) (x := 9223373112744083706) (a := 2147483898) (by decide +kernel) (by decide) (by decide) ?_
                refine x_const (np := 8) (x := 9223372056182128644) (a := 2147483652) (by decide +kernel) (by decide) (by decide) ?_
                refine x_iload (np := 9) (x := 1) (by decide +kernel) rfl (by first | decide | omega) ?_
                obtain ⟨u8487, q8488⟩ : ∃ z, v8462 = 2147483648 + z := ⟨v8462 - 2147483648, by first | decide | omega⟩
                refine x_imul (np := 10) (x := 0) (i := 4) (j := u8487) (v := (2147483648 + 4 * u8487)) (by decide +kernel) (by first | decide | omega) (by first | decide | omega) (by first | decide | omega) (by first | decide | omega) (by decide) (by first | decide | omega) ?_
                refine x_iadd (np := 11) (x := 0) (v := (2147483898 + 4 * u8487)) (by decide +kernel) (by decide) (by first | decide | omega) (by first | decide | omega) (by first | decide | omega) ?_
                refine x_iload (np := 12) (x := 2) (by decide +kernel) rfl (by decide) ?_
                refine x_iadd (np := 13) (x := 0) (v := (2147483901 + 4 * u8487)) (by decide +kernel) (by first | decide | omega) (by decide) (by first | decide | omega) (by first | decide | omega) ?_
                have q8490 : h45 76 (253 + 4 * u8487) = h39 76 (253 + 4 * u8487) := by rw [← e47]; exact x_up_k (by decide)
                have q8491 : h39 76 (253 + 4 * u8487) = h1 76 (253 + 4 * u8487) := jK u8487 f41 rg_76_253_4_10 (by first | decide | omega) (by first | decide | omega) (by decide)
                have q8492 : h1 76 (253 + 4 * u8487) = h 76 (253 + 4 * u8487) := by rw [← e3]; exact x_up_k (by decide)
                refine x_aldC (np := 14) (x := 0) (n := 1952) (i := (253 + 4 * u8487)) (q := ((h 76 (253 + 4 * u8487)))) (by decide +kernel) (by decide +kernel) (by first | decide | omega) (by first | decide | omega) (by decide) ((q8490.trans q8491).trans q8492) (fun l8493 => ?_)
                refine x_retI (np := 15) (x := 0) (by decide +kernel) l8493 (Or.inl (by decide +kernel)) ⟨_, rfl, l8493, ?_⟩
                refine x_aload (np := 7) (x := 0) (by decide +kernel) rfl (x_nc_le (by decide)) ?_
                have q8494 : h45 75 32 = a1 := by rw [← e47]; exact x_up_at
                refine x_getC (np := 10) (x := 736) (f := 32) (q := a1) (by decide +kernel) (by decide) (by decide +kernel) q8494 (fun l8495 => ?_)
                refine x_icmp (k := 4) (tg := 17) (np := 13) (by decide +kernel) (by decide) l8493 la1 (fun q8496 => ?_) (fun q8497 => ?_)
                · have q8496 : a1 < ((h 76 (253 + 4 * u8487))) := q8496
                  refine x_const (np := 18) (x := 9223372039002259456) (a := 2147483648) (by decide +kernel) (by decide) (by decide) ?_
                  refine x_retI (np := 19) (x := 0) (by decide +kernel) (by decide) (Or.inr ⟨by decide +kernel, by first | decide | omega, by first | decide | omega⟩) ⟨_, rfl, (by decide), ?_⟩
                  refine x_ifz (k := 0) (tg := 92) (np := 83) (by decide +kernel) (by decide) (by decide) (fun q8498 => ?_) (fun q8499 => ?_)
                  · have q8498 : 2147483648 = 2147483648 := q8498
                    refine x_const (np := 93) (x := 9223372043297226753) (a := 2147483649) (by decide +kernel) (by decide) (by decide) ?_
                    refine x_goto (np := 96) (x := 97) (by decide +kernel) ?_
                    refine x_istore (np := 99) (x := 4) (lo' := [x_r 75, iv_c a1, iv_c v7682, iv_c v7684, iv_c 2147483649, iv_c v8462]) (by decide +kernel) (by decide) (Nat.le_of_ble_eq_true rfl) rfl ?_
                    refine x_iinc (np := 102) (i := 5) (j := 2147483649) (v := (1 + v8462)) (lo' := [x_r 75, iv_c a1, iv_c v7682, iv_c v7684, iv_c 2147483649, iv_c (1 + v8462)]) (by decide +kernel) (by decide) (by decide) rfl (by first | decide | omega) (by first | decide | omega) (by first | decide | omega) rfl ?_
                    refine x_goto (np := 105) (x := 52) (by decide +kernel) ?_
                    exact i8466 2147483649 (1 + v8462) (by first | decide | omega) (by first | decide | omega) (by first | decide | omega)
                  have q8499 : ¬ (2147483648 = 2147483648) := q8499
                  exfalso; omega
                have q8497 : ¬ (a1 < ((h 76 (253 + 4 * u8487)))) := q8497
                refine x_const (np := 14) (x := 9223372043297226753) (a := 2147483649) (by decide +kernel) (by decide) (by decide) ?_
                refine x_goto (np := 17) (x := 18) (by decide +kernel) ?_
                refine x_retI (np := 19) (x := 0) (by decide +kernel) (by decide) (Or.inr ⟨by decide +kernel, by first | decide | omega, by first | decide | omega⟩) ⟨_, rfl, (by decide), ?_⟩
                refine x_ifz (k := 0) (tg := 92) (np := 83) (by decide +kernel) (by decide) (by decide) (fun q8500 => ?_) (fun q8501 => ?_)
                · have q8500 : 2147483649 = 2147483648 := q8500
                  exfalso; omega
                have q8501 : ¬ (2147483649 = 2147483648) := q8501
                refine x_aload (np := 84) (x := 0) (by decide +kernel) rfl (x_nc_le (by decide)) ?_
                refine x_iload (np := 86) (x := 5) (by decide +kernel) rfl (by first | decide | omega) ?_
                refine x_nI (t := 6) (mj := 250) (n := 2) (rc := 12) (ml := 3) (nr := 0) (np := 89) (as := [x_r 75, iv_c v8462]) (rest := []) (lo1 := [x_r 75, iv_c v8462, 147573952589676412928]) (by decide +kernel) (by decide) (by decide +kernel) (x_rb_of (by decide +kernel)) rfl rfl (x_wr (by decide) (x_wi (by first | decide | omega) x_wn)) x_wn (by decide) rfl ?_
                refine x_aload (np := 1) (x := 0) (by decide +kernel) rfl (x_nc_le (by decide)) ?_
                refine x_aload (np := 2) (x := 0) (by decide +kernel) rfl (x_nc_le (by decide)) ?_
                refine x_iload (np := 3) (x := 1) (by decide +kernel) rfl (by first | decide | omega) ?_
                refine x_const (np := 4) (x := 9223372039002259456) (a := 2147483648) (by decide +kernel) (by decide) (by decide) ?_
                refine x_nI (t := 6) (mj := 164) (n := 3) (rc := 12) (ml := 3) (nr := 1) (np := 7) (as := [x_r 75, iv_c v8462, iv_c 2147483648]) (rest := [x_r 75]) (lo1 := [x_r 75, iv_c v8462, iv_c 2147483648]) (by decide +kernel) (by decide) (by decide +kernel) (x_rb_of (by decide +kernel)) rfl rfl (x_wr (by decide) (x_wi (by first | decide | omega) (x_wi (by decide) x_wn))) (x_wr (by decide) x_wn) (by decide) rfl ?_
                refine x_aload (np := 1) (x := 0) (by decide +kernel) rfl (x_nc_le (by decide)) ?_
                have q8502 : h45 75 1 = 76 := by have z := jB (e := 1) 0 j46 rg_75_1_0_1 (by decide) (by decide); omega
                refine x_getR (np := 4) (x := 705) (f := 1) (q := 76) (by decide +kernel) (by decide) (by decide +kernel) q8502 ?_
                refine x_const (np := 7) (x := 9223373112744083706) (a := 2147483898) (by decide +kernel) (by decide) (by decide) ?_
                refine x_const (np := 8) (x := 9223372056182128644) (a := 2147483652) (by decide +kernel) (by decide) (by decide) ?_
                refine x_iload (np := 9) (x := 1) (by decide +kernel) rfl (by first | decide | omega) ?_
                refine x_imul (np := 10) (x := 0) (i := 4) (j := u8487) (v := (2147483648 + 4 * u8487)) (by decide +kernel) (by first | decide | omega) (by first | decide | omega) (by first | decide | omega) (by first | decide | omega) (by decide) (by first | decide | omega) ?_
                refine x_iadd (np := 11) (x := 0) (v := (2147483898 + 4 * u8487)) (by decide +kernel) (by decide) (by first | decide | omega) (by first | decide | omega) (by first | decide | omega) ?_
                refine x_iload (np := 12) (x := 2) (by decide +kernel) rfl (by decide) ?_
                refine x_iadd (np := 13) (x := 0) (v := (2147483898 + 4 * u8487)) (by decide +kernel) (by first | decide | omega) (by decide) (by first | decide | omega) (by first | decide | omega) ?_
                have q8504 : h45 76 (250 + 4 * u8487) = h39 76 (250 + 4 * u8487) := by rw [← e47]; exact x_up_k (by decide)
                have q8505 : h39 76 (250 + 4 * u8487) = h1 76 (250 + 4 * u8487) := jK u8487 f41 rg_76_250_4_10 (by first | decide | omega) (by first | decide | omega) (by decide)
                have q8506 : h1 76 (250 + 4 * u8487) = h 76 (250 + 4 * u8487) := by rw [← e3]; exact x_up_k (by decide)
                have b8507 := jB (e := (250 + 4 * u8487)) u8487 hJ rg_76_250_4_10 (by first | decide | omega) (by first | decide | omega)
                refine x_aldC (np := 14) (x := 0) (n := 1952) (i := (250 + 4 * u8487)) (q := ((h 76 (250 + 4 * u8487)))) (by decide +kernel) (by decide +kernel) (by first | decide | omega) (by first | decide | omega) (by decide) ((q8504.trans q8505).trans q8506) (fun l8508 => ?_)
                refine x_retI (np := 15) (x := 0) (by decide +kernel) l8508 (Or.inl (by decide +kernel)) ⟨_, rfl, l8508, ?_⟩
                refine x_aload (np := 8) (x := 0) (by decide +kernel) rfl (x_nc_le (by decide)) ?_
                refine x_iload (np := 9) (x := 1) (by decide +kernel) rfl (by first | decide | omega) ?_
                refine x_const (np := 10) (x := 9223372043297226753) (a := 2147483649) (by decide +kernel) (by decide) (by decide) ?_
                refine x_nI (t := 6) (mj := 164) (n := 3) (rc := 12) (ml := 3) (nr := 2) (np := 13) (as := [x_r 75, iv_c v8462, iv_c 2147483649]) (rest := [iv_c ((h 76 (250 + 4 * u8487))), x_r 75]) (lo1 := [x_r 75, iv_c v8462, iv_c 2147483649]) (by decide +kernel) (by decide) (by decide +kernel) (x_rb_of (by decide +kernel)) rfl rfl (x_wr (by decide) (x_wi (by first | decide | omega) (x_wi (by decide) x_wn))) (x_wi l8508 (x_wr (by decide) x_wn)) (by decide) rfl ?_
                refine x_aload (np := 1) (x := 0) (by decide +kernel) rfl (x_nc_le (by decide)) ?_
                have q8509 : h45 75 1 = 76 := by have z := jB (e := 1) 0 j46 rg_75_1_0_1 (by decide) (by decide); omega
                refine x_getR (np := 4) (x := 705) (f := 1) (q := 76) (by decide +kernel) (by decide) (by decide +kernel) q8509 ?_
                refine x_const (np := 7) (x := 9223373112744083706) (a := 2147483898) (by decide +kernel) (by decide) (by decide) ?_
                refine x_const (np := 8) (x := 9223372056182128644) (a := 2147483652) (by decide +kernel) (by decide) (by decide) ?_
                refine x_iload (np := 9) (x := 1) (by decide +kernel) rfl (by first | decide | omega) ?_
                refine x_imul (np := 10) (x := 0) (i := 4) (j := u8487) (v := (2147483648 + 4 * u8487)) (by decide +kernel) (by first | decide | omega) (by first | decide | omega) (by first | decide | omega) (by first | decide | omega) (by decide) (by first | decide | omega) ?_
                refine x_iadd (np := 11) (x := 0) (v := (2147483898 + 4 * u8487)) (by decide +kernel) (by decide) (by first | decide | omega) (by first | decide | omega) (by first | decide | omega) ?_
                refine x_iload (np := 12) (x := 2) (by decide +kernel) rfl (by decide) ?_
                refine x_iadd (np := 13) (x := 0) (v := (2147483899 + 4 * u8487)) (by decide +kernel) (by first | decide | omega) (by decide) (by first | decide | omega) (by first | decide | omega) ?_
                have q8511 : h45 76 (251 + 4 * u8487) = h39 76 (251 + 4 * u8487) := by rw [← e47]; exact x_up_k (by decide)
                have q8512 : h39 76 (251 + 4 * u8487) = h1 76 (251 + 4 * u8487) := jK u8487 f41 rg_76_251_4_10 (by first | decide | omega) (by first | decide | omega) (by decide)
                have q8513 : h1 76 (251 + 4 * u8487) = h 76 (251 + 4 * u8487) := by rw [← e3]; exact x_up_k (by decide)
                have b8514 := jB (e := (251 + 4 * u8487)) u8487 hJ rg_76_251_4_10 (by first | decide | omega) (by first | decide | omega)
                refine x_aldC (np := 14) (x := 0) (n := 1952) (i := (251 + 4 * u8487)) (q := ((h 76 (251 + 4 * u8487)))) (by decide +kernel) (by decide +kernel) (by first | decide | omega) (by first | decide | omega) (by decide) ((q8511.trans q8512).trans q8513) (fun l8515 => ?_)
                refine x_retI (np := 15) (x := 0) (by decide +kernel) l8515 (Or.inl (by decide +kernel)) ⟨_, rfl, l8515, ?_⟩
                refine x_cP (t := 6) (mj := 217) (n := 3) (rc := 12) (ml := 3) (nr := 0) (np := 16) (as := [x_r 75, iv_c ((h 76 (250 + 4 * u8487))), iv_c ((h 76 (251 + 4 * u8487)))]) (rest := []) (lo1 := [x_r 75, iv_c ((h 76 (250 + 4 * u8487))), iv_c ((h 76 (251 + 4 * u8487)))]) (by decide +kernel) (by decide) (by decide +kernel) (x_rb_of (by decide +kernel)) rfl rfl (x_wr (by decide) (x_wi l8508 (x_wi l8515 x_wn))) x_wn (by decide) rfl (c217_75 j46  (by first | decide | omega) (by first | decide | omega)) (fun v8516 l8517 q8518 => ?_)
                refine x_istore (np := 17) (x := 2) (lo' := [x_r 75, iv_c v8462, iv_c v8516]) (by decide +kernel) l8517 (Nat.le_of_ble_eq_true rfl) rfl ?_
                refine x_iload (np := 18) (x := 2) (by decide +kernel) rfl l8517 ?_
                refine x_ifz (k := 2) (tg := 39) (np := 21) (by decide +kernel) (by decide) l8517 (fun q8519 => ?_) (fun q8520 => ?_)
                · have q8519 : v8516 < 2147483648 := q8519
                  refine x_const (np := 40) (x := 9223372039002259456) (a := 2147483648) (by decide +kernel) (by decide) (by decide) ?_
                  refine x_retI (np := 41) (x := 0) (by decide +kernel) (by decide) (Or.inr ⟨by decide +kernel, by first | decide | omega, by first | decide | omega⟩) ⟨_, rfl, (by decide), ?_⟩
                  refine x_ifz (k := 0) (tg := 96) (np := 92) (by decide +kernel) (by decide) (by decide) (fun q8521 => ?_) (fun q8522 => ?_)
                  · have q8521 : 2147483648 = 2147483648 := q8521
                    refine x_const (np := 97) (x := 9223372039002259456) (a := 2147483648) (by decide +kernel) (by decide) (by decide) ?_
                    refine x_istore (np := 99) (x := 4) (lo' := [x_r 75, iv_c a1, iv_c v7682, iv_c v7684, iv_c 2147483648, iv_c v8462]) (by decide +kernel) (by decide) (Nat.le_of_ble_eq_true rfl) rfl ?_
                    refine x_iinc (np := 102) (i := 5) (j := 2147483649) (v := (1 + v8462)) (lo' := [x_r 75, iv_c a1, iv_c v7682, iv_c v7684, iv_c 2147483648, iv_c (1 + v8462)]) (by decide +kernel) (by decide) (by decide) rfl (by first | decide | omega) (by first | decide | omega) (by first | decide | omega) rfl ?_
                    refine x_goto (np := 105) (x := 52) (by decide +kernel) ?_
                    exact i8466 2147483648 (1 + v8462) (by first | decide | omega) (by first | decide | omega) (by first | decide | omega)
                  have q8522 : ¬ (2147483648 = 2147483648) := q8522
                  exfalso; omega
                have q8520 : ¬ (v8516 < 2147483648) := q8520
                refine x_aload (np := 22) (x := 0) (by decide +kernel) rfl (x_nc_le (by decide)) ?_
                refine x_iload (np := 23) (x := 1) (by decide +kernel) rfl (by first | decide | omega) ?_
                refine x_const (np := 24) (x := 9223372047592194050) (a := 2147483650) (by decide +kernel) (by decide) (by decide) ?_
                refine x_nI (t := 6) (mj := 164) (n := 3) (rc := 12) (ml := 3) (nr := 0) (np := 27) (as := [x_r 75, iv_c v8462, iv_c 2147483650]) (rest := []) (lo1 := [x_r 75, iv_c v8462, iv_c 2147483650]) (by decide +kernel) (by decide) (by decide +kernel) (x_rb_of (by decide +kernel)) rfl rfl (x_wr (by decide) (x_wi (by first | decide | omega) (x_wi (by decide) x_wn))) x_wn (by decide) rfl ?_
                refine x_aload (np := 1) (x := 0) (by decide +kernel) rfl (x_nc_le (by decide)) ?_
                have q8523 : h45 75 1 = 76 := by have z := jB (e := 1) 0 j46 rg_75_1_0_1 (by decide) (by decide); omega
                refine x_getR (np := 4) (x := 705) (f := 1) (q := 76) (by decide +kernel) (by decide) (by decide +kernel) q8523 ?_
                refine x_const (np := 7) (x := 9223373112744083706) (a := 2147483898) (by decide +kernel) (by decide) (by decide) ?_
                refine x_const (np := 8) (x := 9223372056182128644) (a := 2147483652) (by decide +kernel) (by decide) (by decide) ?_
                refine x_iload (np := 9) (x := 1) (by decide +kernel) rfl (by first | decide | omega) ?_
                refine x_imul (np := 10) (x := 0) (i := 4) (j := u8487) (v := (2147483648 + 4 * u8487)) (by decide +kernel) (by first | decide | omega) (by first | decide | omega) (by first | decide | omega) (by first | decide | omega) (by decide) (by first | decide | omega) ?_
                refine x_iadd (np := 11) (x := 0) (v := (2147483898 + 4 * u8487)) (by decide +kernel) (by decide) (by first | decide | omega) (by first | decide | omega) (by first | decide | omega) ?_
                refine x_iload (np := 12) (x := 2) (by decide +kernel) rfl (by decide) ?_
                refine x_iadd (np := 13) (x := 0) (v := (2147483900 + 4 * u8487)) (by decide +kernel) (by first | decide | omega) (by decide) (by first | decide | omega) (by first | decide | omega) ?_
                have q8525 : h45 76 (252 + 4 * u8487) = h39 76 (252 + 4 * u8487) := by rw [← e47]; exact x_up_k (by decide)
                have q8526 : h39 76 (252 + 4 * u8487) = h1 76 (252 + 4 * u8487) := jK u8487 f41 rg_76_252_4_10 (by first | decide | omega) (by first | decide | omega) (by decide)
                have q8527 : h1 76 (252 + 4 * u8487) = h 76 (252 + 4 * u8487) := by rw [← e3]; exact x_up_k (by decide)
                refine x_aldC (np := 14) (x := 0) (n := 1952) (i := (252 + 4 * u8487)) (q := ((h 76 (252 + 4 * u8487)))) (by decide +kernel) (by decide +kernel) (by first | decide | omega) (by first | decide | omega) (by decide) ((q8525.trans q8526).trans q8527) (fun l8528 => ?_)
                refine x_retI (np := 15) (x := 0) (by decide +kernel) l8528 (Or.inl (by decide +kernel)) ⟨_, rfl, l8528, ?_⟩
                refine x_iload (np := 28) (x := 2) (by decide +kernel) rfl l8517 ?_
                refine x_any (np := 29) (k9 := 4) (by decide +kernel) (by decide) l8528 l8517 (fun v8529 l8530 => ?_)
                refine x_const (np := 30) (x := 9223372043297226753) (a := 2147483649) (by decide +kernel) (by decide) (by decide) ?_
                refine x_mask (np := 31) (m := 1) (k9 := 2) (by decide +kernel) l8530 (by decide +kernel) (by decide) (by decide) (by decide) (fun u8531 l8532 => ?_)
                refine x_const (np := 32) (x := 9223372043297226753) (a := 2147483649) (by decide +kernel) (by decide) (by decide) ?_
                refine x_icmp (k := 1) (tg := 39) (np := 35) (by decide +kernel) (by decide) (by first | decide | omega) (by decide) (fun q8533 => ?_) (fun q8534 => ?_)
                · have q8533 : (2147483648 + u8531) ≠ 2147483649 := q8533
                  refine x_const (np := 40) (x := 9223372039002259456) (a := 2147483648) (by decide +kernel) (by decide) (by decide) ?_
                  refine x_retI (np := 41) (x := 0) (by decide +kernel) (by decide) (Or.inr ⟨by decide +kernel, by first | decide | omega, by first | decide | omega⟩) ⟨_, rfl, (by decide), ?_⟩
                  refine x_ifz (k := 0) (tg := 96) (np := 92) (by decide +kernel) (by decide) (by decide) (fun q8535 => ?_) (fun q8536 => ?_)
                  · have q8535 : 2147483648 = 2147483648 := q8535
                    refine x_const (np := 97) (x := 9223372039002259456) (a := 2147483648) (by decide +kernel) (by decide) (by decide) ?_
                    refine x_istore (np := 99) (x := 4) (lo' := [x_r 75, iv_c a1, iv_c v7682, iv_c v7684, iv_c 2147483648, iv_c v8462]) (by decide +kernel) (by decide) (Nat.le_of_ble_eq_true rfl) rfl ?_
                    refine x_iinc (np := 102) (i := 5) (j := 2147483649) (v := (1 + v8462)) (lo' := [x_r 75, iv_c a1, iv_c v7682, iv_c v7684, iv_c 2147483648, iv_c (1 + v8462)]) (by decide +kernel) (by decide) (by decide) rfl (by first | decide | omega) (by first | decide | omega) (by first | decide | omega) rfl ?_
                    refine x_goto (np := 105) (x := 52) (by decide +kernel) ?_
                    exact i8466 2147483648 (1 + v8462) (by first | decide | omega) (by first | decide | omega) (by first | decide | omega)
                  have q8536 : ¬ (2147483648 = 2147483648) := q8536
                  exfalso; omega
                have q8534 : ¬ ((2147483648 + u8531) ≠ 2147483649) := q8534
                refine x_const (np := 36) (x := 9223372043297226753) (a := 2147483649) (by decide +kernel) (by decide) (by decide) ?_
                refine x_goto (np := 39) (x := 40) (by decide +kernel) ?_
                refine x_retI (np := 41) (x := 0) (by decide +kernel) (by decide) (Or.inr ⟨by decide +kernel, by first | decide | omega, by first | decide | omega⟩) ⟨_, rfl, (by decide), ?_⟩
                refine x_ifz (k := 0) (tg := 96) (np := 92) (by decide +kernel) (by decide) (by decide) (fun q8537 => ?_) (fun q8538 => ?_)
                · have q8537 : 2147483649 = 2147483648 := q8537
                  exfalso; omega
                have q8538 : ¬ (2147483649 = 2147483648) := q8538
                refine x_const (np := 93) (x := 9223372043297226753) (a := 2147483649) (by decide +kernel) (by decide) (by decide) ?_
                refine x_goto (np := 96) (x := 97) (by decide +kernel) ?_
                refine x_istore (np := 99) (x := 4) (lo' := [x_r 75, iv_c a1, iv_c v7682, iv_c v7684, iv_c 2147483649, iv_c v8462]) (by decide +kernel) (by decide) (Nat.le_of_ble_eq_true rfl) rfl ?_
                refine x_iinc (np := 102) (i := 5) (j := 2147483649) (v := (1 + v8462)) (lo' := [x_r 75, iv_c a1, iv_c v7682, iv_c v7684, iv_c 2147483649, iv_c (1 + v8462)]) (by decide +kernel) (by decide) (by decide) rfl (by first | decide | omega) (by first | decide | omega) (by first | decide | omega) rfl ?_
                refine x_goto (np := 105) (x := 52) (by decide +kernel) ?_
                exact i8466 2147483649 (1 + v8462) (by first | decide | omega) (by first | decide | omega) (by first | decide | omega)
            exact p8464 _ 2147483649 2147483648 (Nat.lt_succ_self _) (by first | decide | omega) (by first | decide | omega)
        exact p7688 _ 2147483648 2147483648 147573952589676412928 147573952589676412928 (Nat.lt_succ_self _) (by first | decide | omega) (by first | decide | omega)
      have q34 : ¬ (2147483648 = 2147483648) := q34
      exfalso; omega
    have q32 : ¬ (2147483648 = 2147483648) := q32
    exfalso; omega
  have q30 : ¬ (2147483649 ≠ 2147483648) := q30
  exfalso; omega
set_option maxHeartbeats 0 in
/-- LentNamesModel.count(I)I -/
theorem c268_75 {sc : Nat × Nat} {d a1 : Nat} {h : xh} (hJ : J h) (ba1 : 0 ≤ a1 ∧ a1 ≤ 4294967295) (hW : WT 76 h) : X sc 268 (d + 5) (xI fun r h' => J h' ∧ Fr 135291600897 h h' ∧ (0 ≤ r ∧ r ≤ 4294967295)) 0 0 0 [x_r 75, iv_c a1, 147573952589676412928, 147573952589676412928] [] h := by
  have la1 : a1 < 4294967296 := by first | decide | omega
  have hF := Fr.refl 135291600897 h
  refine x_aload (np := 1) (x := 0) (by decide +kernel) rfl (x_nc_le (by decide)) ?_
  refine x_const (np := 2) (x := 9223372039002259456) (a := 2147483648) (by decide +kernel) (by decide) (by decide) ?_
  refine x_putI (np := 5) (x := 704) (f := 0) (by decide +kernel) (by decide +kernel) (by decide) (Or.inl (by decide)) ?_
  have j2 := jU (e := 0) (v := 2147483648) 0 hJ rg_75_0_0_1 (by first | decide | omega) (by first | decide | omega) (by first | decide | omega)
  have f4 := jF (e := 0) (v := 2147483648) 0 hF rg_75_0_0_1 (by first | decide | omega) (by first | decide | omega) (by decide)
  generalize e3 : x_up h 75 0 2147483648 = h1 at j2 f4 ⊢
  refine x_const (np := 6) (x := 9223372039002259456) (a := 2147483648) (by decide +kernel) (by decide) (by decide) ?_
  refine x_istore (np := 7) (x := 2) (lo' := [x_r 75, iv_c a1, iv_c 2147483648, 147573952589676412928]) (by decide +kernel) (by decide) (Nat.le_of_ble_eq_true rfl) rfl ?_
  refine x_iload (np := 8) (x := 1) (by decide +kernel) rfl la1 ?_
  rcases (show a1 < 2147483648 ∨ 2147483659 < a1 ∨ (a1 = 2147483648 ∨ a1 = 2147483649 ∨ a1 = 2147483650 ∨ a1 = 2147483651 ∨ a1 = 2147483652 ∨ a1 = 2147483653 ∨ a1 = 2147483654 ∨ a1 = 2147483655 ∨ a1 = 2147483656 ∨ a1 = 2147483657 ∨ a1 = 2147483658 ∨ a1 = 2147483659) by first | decide | omega) with q5 | q5 | q5 | q5 | q5 | q5 | q5 | q5 | q5 | q5 | q5 | q5 | q5 | q5
  · refine x_tsw0 (np := 9) (x := 0) (by decide +kernel) la1 (lo9 := 2147483648) (hi9 := 2147483659) (tg := 293) (by decide +kernel) (Or.inl q5) ?_
    refine x_const (np := 294) (x := 9223372034707292159) (a := 2147483647) (by decide +kernel) (by decide) (by decide) ?_
    refine x_retI (np := 295) (x := 0) (by decide +kernel) (by decide) (Or.inl (by decide +kernel)) ⟨_, rfl, (by decide), ?_⟩
    exact ⟨j2, f4, (by first | decide | omega)⟩
  · refine x_tsw0 (np := 9) (x := 0) (by decide +kernel) la1 (lo9 := 2147483648) (hi9 := 2147483659) (tg := 293) (by decide +kernel) (Or.inr q5) ?_
    refine x_const (np := 294) (x := 9223372034707292159) (a := 2147483647) (by decide +kernel) (by decide) (by decide) ?_
    refine x_retI (np := 295) (x := 0) (by decide +kernel) (by decide) (Or.inl (by decide +kernel)) ⟨_, rfl, (by decide), ?_⟩
    exact ⟨j2, f4, (by first | decide | omega)⟩
  · refine x_tsw1 (np := 9) (x := 0) (by decide +kernel) la1 (i := 0) (lo9 := 2147483648) (hi9 := 2147483659) (tg := 72) (by decide +kernel) (by first | decide | omega) (by first | decide | omega) ?_
    refine x_aload (np := 73) (x := 0) (by decide +kernel) rfl (x_nc_le (by decide)) ?_
    refine x_nI (t := 6) (mj := 157) (n := 1) (rc := 12) (ml := 1) (nr := 0) (np := 76) (as := [x_r 75]) (rest := []) (lo1 := [x_r 75]) (by decide +kernel) (by decide) (by decide +kernel) (x_rb_of (by decide +kernel)) rfl rfl (x_wr (by decide) x_wn) x_wn (by decide) rfl ?_
    refine x_aload (np := 1) (x := 0) (by decide +kernel) rfl (x_nc_le (by decide)) ?_
    have q6 : h1 75 1 = 76 := by have z := jB (e := 1) 0 j2 rg_75_1_0_1 (by decide) (by decide); omega
    refine x_getR (np := 4) (x := 705) (f := 1) (q := 76) (by decide +kernel) (by decide) (by decide +kernel) q6 ?_
    refine x_const (np := 5) (x := 9223372039002259456) (a := 2147483648) (by decide +kernel) (by decide) (by decide) ?_
    have q7 : h1 76 0 = h 76 0 := by rw [← e3]; exact x_up_k (by decide)
    have b8 := jB (e := 0) 0 hJ rg_76_0_0_1 (by first | decide | omega) (by first | decide | omega)
    refine x_aldC (np := 6) (x := 0) (n := 1952) (i := 0) (q := (h 76 0)) (by decide +kernel) (by decide +kernel) (by first | decide | omega) (by first | decide | omega) (by decide) q7 (fun l9 => ?_)
    refine x_retI (np := 7) (x := 0) (by decide +kernel) l9 (Or.inl (by decide +kernel)) ⟨_, rfl, l9, ?_⟩
    refine x_retI (np := 77) (x := 0) (by decide +kernel) l9 (Or.inl (by decide +kernel)) ⟨_, rfl, l9, ?_⟩
    exact ⟨j2, f4, (by first | decide | omega)⟩
  · refine x_tsw1 (np := 9) (x := 0) (by decide +kernel) la1 (i := 1) (lo9 := 2147483648) (hi9 := 2147483659) (tg := 77) (by decide +kernel) (by first | decide | omega) (by first | decide | omega) ?_
    refine x_aload (np := 78) (x := 0) (by decide +kernel) rfl (x_nc_le (by decide)) ?_
    have q10 : h1 75 1 = 76 := by have z := jB (e := 1) 0 j2 rg_75_1_0_1 (by decide) (by decide); omega
    refine x_getR (np := 81) (x := 705) (f := 1) (q := 76) (by decide +kernel) (by decide) (by decide +kernel) q10 ?_
    refine x_const (np := 82) (x := 9223372043297226753) (a := 2147483649) (by decide +kernel) (by decide) (by decide) ?_
    have q11 : h1 76 1 = h 76 1 := by rw [← e3]; exact x_up_k (by decide)
    refine x_aldC (np := 83) (x := 0) (n := 1952) (i := 1) (q := (h 76 1)) (by decide +kernel) (by decide +kernel) (by first | decide | omega) (by first | decide | omega) (by decide) q11 (fun l12 => ?_)
    refine x_retI (np := 84) (x := 0) (by decide +kernel) l12 (Or.inl (by decide +kernel)) ⟨_, rfl, l12, ?_⟩
    exact ⟨j2, f4, (by first | decide | omega)⟩
  · refine x_tsw1 (np := 9) (x := 0) (by decide +kernel) la1 (i := 2) (lo9 := 2147483648) (hi9 := 2147483659) (tg := 84) (by decide +kernel) (by first | decide | omega) (by first | decide | omega) ?_
    refine x_aload (np := 85) (x := 0) (by decide +kernel) rfl (x_nc_le (by decide)) ?_
    have q13 : h1 75 1 = 76 := by have z := jB (e := 1) 0 j2 rg_75_1_0_1 (by decide) (by decide); omega
    refine x_getR (np := 88) (x := 705) (f := 1) (q := 76) (by decide +kernel) (by decide) (by decide +kernel) q13 ?_
    refine x_const (np := 89) (x := 9223372047592194050) (a := 2147483650) (by decide +kernel) (by decide) (by decide) ?_
    have q14 : h1 76 2 = h 76 2 := by rw [← e3]; exact x_up_k (by decide)
    have b15 := jB (e := 2) 0 hJ rg_76_2_0_1 (by first | decide | omega) (by first | decide | omega)
    refine x_aldC (np := 90) (x := 0) (n := 1952) (i := 2) (q := (h 76 2)) (by decide +kernel) (by decide +kernel) (by first | decide | omega) (by first | decide | omega) (by decide) q14 (fun l16 => ?_)
    refine x_retI (np := 91) (x := 0) (by decide +kernel) l16 (Or.inl (by decide +kernel)) ⟨_, rfl, l16, ?_⟩
    exact ⟨j2, f4, (by first | decide | omega)⟩
  · refine x_tsw1 (np := 9) (x := 0) (by decide +kernel) la1 (i := 3) (lo9 := 2147483648) (hi9 := 2147483659) (tg := 91) (by decide +kernel) (by first | decide | omega) (by first | decide | omega) ?_
    refine x_aload (np := 92) (x := 0) (by decide +kernel) rfl (x_nc_le (by decide)) ?_
    have q17 : h1 75 1 = 76 := by have z := jB (e := 1) 0 j2 rg_75_1_0_1 (by decide) (by decide); omega
    refine x_getR (np := 95) (x := 705) (f := 1) (q := 76) (by decide +kernel) (by decide) (by decide +kernel) q17 ?_
    refine x_const (np := 96) (x := 9223372051887161347) (a := 2147483651) (by decide +kernel) (by decide) (by decide) ?_
    have q18 : h1 76 3 = h 76 3 := by rw [← e3]; exact x_up_k (by decide)
    have b19 := jB (e := 3) 0 hJ rg_76_3_0_1 (by first | decide | omega) (by first | decide | omega)
    refine x_aldC (np := 97) (x := 0) (n := 1952) (i := 3) (q := (h 76 3)) (by decide +kernel) (by decide +kernel) (by first | decide | omega) (by first | decide | omega) (by decide) q18 (fun l20 => ?_)
    refine x_retI (np := 98) (x := 0) (by decide +kernel) l20 (Or.inl (by decide +kernel)) ⟨_, rfl, l20, ?_⟩
    exact ⟨j2, f4, (by first | decide | omega)⟩
  · refine x_tsw1 (np := 9) (x := 0) (by decide +kernel) la1 (i := 4) (lo9 := 2147483648) (hi9 := 2147483659) (tg := 98) (by decide +kernel) (by first | decide | omega) (by first | decide | omega) ?_
    refine x_aload (np := 99) (x := 0) (by decide +kernel) rfl (x_nc_le (by decide)) ?_
    have q21 : h1 75 1 = 76 := by have z := jB (e := 1) 0 j2 rg_75_1_0_1 (by decide) (by decide); omega
    refine x_getR (np := 102) (x := 705) (f := 1) (q := 76) (by decide +kernel) (by decide) (by decide +kernel) q21 ?_
    refine x_const (np := 103) (x := 9223372056182128644) (a := 2147483652) (by decide +kernel) (by decide) (by decide) ?_
    have q22 : h1 76 4 = h 76 4 := by rw [← e3]; exact x_up_k (by decide)
    have b23 := jB (e := 4) 0 hJ rg_76_4_0_1 (by first | decide | omega) (by first | decide | omega)
    refine x_aldC (np := 104) (x := 0) (n := 1952) (i := 4) (q := (h 76 4)) (by decide +kernel) (by decide +kernel) (by first | decide | omega) (by first | decide | omega) (by decide) q22 (fun l24 => ?_)
    refine x_retI (np := 105) (x := 0) (by decide +kernel) l24 (Or.inl (by decide +kernel)) ⟨_, rfl, l24, ?_⟩
    exact ⟨j2, f4, (by first | decide | omega)⟩
  · refine x_tsw1 (np := 9) (x := 0) (by decide +kernel) la1 (i := 5) (lo9 := 2147483648) (hi9 := 2147483659) (tg := 105) (by decide +kernel) (by first | decide | omega) (by first | decide | omega) ?_
    refine x_aload (np := 106) (x := 0) (by decide +kernel) rfl (x_nc_le (by decide)) ?_
    have q25 : h1 75 1 = 76 := by have z := jB (e := 1) 0 j2 rg_75_1_0_1 (by decide) (by decide); omega
    refine x_getR (np := 109) (x := 705) (f := 1) (q := 76) (by decide +kernel) (by decide) (by decide +kernel) q25 ?_
    refine x_const (np := 110) (x := 9223372060477095941) (a := 2147483653) (by decide +kernel) (by decide) (by decide) ?_
    have q26 : h1 76 5 = h 76 5 := by rw [← e3]; exact x_up_k (by decide)
    have b27 := jB (e := 5) 0 hJ rg_76_5_0_1 (by first | decide | omega) (by first | decide | omega)
    refine x_aldC (np := 111) (x := 0) (n := 1952) (i := 5) (q := (h 76 5)) (by decide +kernel) (by decide +kernel) (by first | decide | omega) (by first | decide | omega) (by decide) q26 (fun l28 => ?_)
    refine x_retI (np := 112) (x := 0) (by decide +kernel) l28 (Or.inl (by decide +kernel)) ⟨_, rfl, l28, ?_⟩
    exact ⟨j2, f4, (by first | decide | omega)⟩
  · refine x_tsw1 (np := 9) (x := 0) (by decide +kernel) la1 (i := 6) (lo9 := 2147483648) (hi9 := 2147483659) (tg := 112) (by decide +kernel) (by first | decide | omega) (by first | decide | omega) ?_
    refine x_aload (np := 113) (x := 0) (by decide +kernel) rfl (x_nc_le (by decide)) ?_
    have m32 : WT 76 h1 := by rw [← e3]; exact WT.oth hW hJ (by decide)
    refine x_cV (t := 6) (mj := 210) (n := 1) (rc := 12) (ml := 5) (nr := 0) (np := 116) (as := [x_r 75]) (rest := []) (lo1 := [x_r 75, 147573952589676412928, 147573952589676412928, 147573952589676412928, 147573952589676412928]) (by decide +kernel) (by decide) (by decide +kernel) (x_rb_of (by decide +kernel)) rfl rfl (x_wr (by decide) x_wn) x_wn (by decide) rfl (c210_75 j2  m32) (fun h33 q31 => ?_)
    obtain ⟨j34, f35⟩ := q31
    have f38 := Fr.trans f4 f35 (by decide)
    refine x_const (np := 117) (x := 9223372039002259456) (a := 2147483648) (by decide +kernel) (by decide) (by decide) ?_
    refine x_istore (np := 118) (x := 3) (lo' := [x_r 75, iv_c a1, iv_c 2147483648, iv_c 2147483648]) (by decide +kernel) (by decide) (Nat.le_of_ble_eq_true rfl) rfl ?_
    have p698 : ∀ (n : Nat) (v694 : Nat) (v696 : Nat), 4294967296 - v696 < n → (0 ≤ v694 ∧ v694 ≤ 4294967295) → (2147483648 ≤ v696 ∧ v696 ≤ 2147483668) → X sc 268 (d + 5) (xI fun r h' => J h' ∧ Fr 135291600897 h h' ∧ (0 ≤ r ∧ r ≤ 4294967295)) 0 0 118 [x_r 75, iv_c a1, iv_c v694, iv_c v696] [] h33 := by
      intro n
      induction n with
      | zero => intro v694 v696 q699; exact absurd q699 (Nat.not_lt_zero _)
      | succ n i700 =>
        intro v694 v696 q699 b695 b697
        refine x_iload (np := 119) (x := 3) (by decide +kernel) rfl (by first | decide | omega) ?_
        refine x_aload (np := 120) (x := 0) (by decide +kernel) rfl (x_nc_le (by decide)) ?_
        have q701 : h33 75 1 = 76 := by have z := jB (e := 1) 0 j34 rg_75_1_0_1 (by decide) (by decide); omega
        refine x_getR (np := 123) (x := 705) (f := 1) (q := 76) (by decide +kernel) (by decide) (by decide +kernel) q701 ?_
        refine x_const (np := 124) (x := 9223372047592194050) (a := 2147483650) (by decide +kernel) (by decide) (by decide) ?_
        have q702 : h33 76 2 = h1 76 2 := jK 0 f35 rg_76_2_0_1 (by first | decide | omega) (by first | decide | omega) (by decide)
        have q703 : h1 76 2 = h 76 2 := by rw [← e3]; exact x_up_k (by decide)
        have b704 := jB (e := 2) 0 hJ rg_76_2_0_1 (by first | decide | omega) (by first | decide | omega)
        refine x_aldC (np := 125) (x := 0) (n := 1952) (i := 2) (q := (h 76 2)) (by decide +kernel) (by decide +kernel) (by first | decide | omega) (by first | decide | omega) (by decide) (q702.trans q703) (fun l705 => ?_)
        refine x_icmp (k := 3) (tg := 150) (np := 128) (by decide +kernel) (by decide) (by first | decide | omega) l705 (fun q706 => ?_) (fun q707 => ?_)
        · have q706 : (h 76 2) ≤ v696 := q706
          refine x_iload (np := 151) (x := 2) (by decide +kernel) rfl (by first | decide | omega) ?_
          refine x_retI (np := 152) (x := 0) (by decide +kernel) (by first | decide | omega) (Or.inl (by decide +kernel)) ⟨_, rfl, (by first | decide | omega), ?_⟩
          exact ⟨j34, f38, (by first | decide | omega)⟩
        have q707 : ¬ ((h 76 2) ≤ v696) := q707
        refine x_iload (np := 129) (x := 2) (by decide +kernel) rfl (by first | decide | omega) ?_
        refine x_aload (np := 130) (x := 0) (by decide +kernel) rfl (x_nc_le (by decide)) ?_
        refine x_iload (np := 131) (x := 3) (by decide +kernel) rfl (by first | decide | omega) ?_
        refine x_nI (t := 6) (mj := 222) (n := 2) (rc := 12) (ml := 2) (nr := 1) (np := 134) (as := [x_r 75, iv_c v696]) (rest := [iv_c v694]) (lo1 := [x_r 75, iv_c v696]) (by decide +kernel) (by decide) (by decide +kernel) (x_rb_of (by decide +kernel)) rfl rfl (x_wr (by decide) (x_wi (by first | decide | omega) x_wn)) (x_wi (by first | decide | omega) x_wn) (by decide) rfl ?_
        refine x_aload (np := 1) (x := 0) (by decide +kernel) rfl (x_nc_le (by decide)) ?_
        have q708 : h33 75 21 = 88 := by have z := jB (e := 21) 0 j34 rg_75_21_0_1 (by decide) (by decide); omega
        refine x_getR (np := 4) (x := 725) (f := 21) (q := 88) (by decide +kernel) (by decide) (by decide +kernel) q708 ?_
        refine x_iload (np := 5) (x := 1) (by decide +kernel) rfl (by first | decide | omega) ?_
        obtain ⟨u709, q710⟩ : ∃ z, v696 = 2147483648 + z := ⟨v696 - 2147483648, by first | decide | omega⟩
        refine x_aldC (np := 6) (x := 0) (n := 20) (i := u709) (q := (h33 88 u709)) (by decide +kernel) (by decide +kernel) (by first | decide | omega) (by first | decide | omega) (by decide) rfl (fun l711 => ?_)
        refine x_ifz (k := 3) (tg := 13) (np := 9) (by decide +kernel) (by decide) l711 (fun q712 => ?_) (fun q713 => ?_)
        · have q712 : 2147483648 ≤ (h33 88 u709) := q712
          refine x_const (np := 14) (x := 9223372039002259456) (a := 2147483648) (by decide +kernel) (by decide) (by decide) ?_
          refine x_retI (np := 15) (x := 0) (by decide +kernel) (by decide) (Or.inr ⟨by decide +kernel, by first | decide | omega, by first | decide | omega⟩) ⟨_, rfl, (by decide), ?_⟩
          refine x_ifz (k := 0) (tg := 141) (np := 137) (by decide +kernel) (by decide) (by decide) (fun q714 => ?_) (fun q715 => ?_)
          · have q714 : 2147483648 = 2147483648 := q714
            refine x_const (np := 142) (x := 9223372039002259456) (a := 2147483648) (by decide +kernel) (by decide) (by decide) ?_
            refine x_iadd (np := 143) (x := 0) (v := v694) (by decide +kernel) (by first | decide | omega) (by decide) (by first | decide | omega) (by first | decide | omega) ?_
            refine x_istore (np := 144) (x := 2) (lo' := [x_r 75, iv_c a1, iv_c v694, iv_c v696]) (by decide +kernel) (by first | decide | omega) (Nat.le_of_ble_eq_true rfl) rfl ?_
            refine x_iinc (np := 147) (i := 3) (j := 2147483649) (v := (1 + v696)) (lo' := [x_r 75, iv_c a1, iv_c v694, iv_c (1 + v696)]) (by decide +kernel) (by decide) (by decide) rfl (by first | decide | omega) (by first | decide | omega) (by first | decide | omega) rfl ?_
            refine x_goto (np := 150) (x := 118) (by decide +kernel) ?_
            exact i700 v694 (1 + v696) (by first | decide | omega) (by first | decide | omega) (by first | decide | omega)
          have q715 : ¬ (2147483648 = 2147483648) := q715
          exfalso; omega
        have q713 : ¬ (2147483648 ≤ (h33 88 u709)) := q713
        refine x_const (np := 10) (x := 9223372043297226753) (a := 2147483649) (by decide +kernel) (by decide) (by decide) ?_
        refine x_goto (np := 13) (x := 14) (by decide +kernel) ?_
        refine x_retI (np := 15) (x := 0) (by decide +kernel) (by decide) (Or.inr ⟨by decide +kernel, by first | decide | omega, by first | decide | omega⟩) ⟨_, rfl, (by decide), ?_⟩
        refine x_ifz (k := 0) (tg := 141) (np := 137) (by decide +kernel) (by decide) (by decide) (fun q716 => ?_) (fun q717 => ?_)
        · have q716 : 2147483649 = 2147483648 := q716
          exfalso; omega
        have q717 : ¬ (2147483649 = 2147483648) := q717
        refine x_const (np := 138) (x := 9223372043297226753) (a := 2147483649) (by decide +kernel) (by decide) (by decide) ?_
        refine x_goto (np := 141) (x := 142) (by decide +kernel) ?_
        refine x_addA (by rw [tb_b268]; decide +kernel) (by first | decide | omega) (by decide) (fun v718 l719 => ?_)
        refine x_istore (np := 144) (x := 2) (lo' := [x_r 75, iv_c a1, iv_c v718, iv_c v696]) (by decide +kernel) l719 (Nat.le_of_ble_eq_true rfl) rfl ?_
        refine x_iinc (np := 147) (i := 3) (j := 2147483649) (v := (1 + v696)) (lo' := [x_r 75, iv_c a1, iv_c v718, iv_c (1 + v696)]) (by decide +kernel) (by decide) (by decide) rfl (by first | decide | omega) (by first | decide | omega) (by first | decide | omega) rfl ?_
        refine x_goto (np := 150) (x := 118) (by decide +kernel) ?_
        exact i700 v718 (1 + v696) (by first | decide | omega) (by first | decide | omega) (by first | decide | omega)
    exact p698 _ 2147483648 2147483648 (Nat.lt_succ_self _) (by first | decide | omega) (by first | decide | omega)
  · refine x_tsw1 (np := 9) (x := 0) (by decide +kernel) la1 (i := 7) (lo9 := 2147483648) (hi9 := 2147483659) (tg := 152) (by decide +kernel) (by first | decide | omega) (by first | decide | omega) ?_
    refine x_const (np := 153) (x := 9223372039002259456) (a := 2147483648) (by decide +kernel) (by decide) (by decide) ?_
    refine x_istore (np := 154) (x := 3) (lo' := [x_r 75, iv_c a1, iv_c 2147483648, iv_c 2147483648]) (by decide +kernel) (by decide) (Nat.le_of_ble_eq_true rfl) rfl ?_
    have p1255 : ∀ (n : Nat) (v1251 : Nat) (v1253 : Nat), 4294967296 - v1253 < n → (0 ≤ v1251 ∧ v1251 ≤ 4294967295) → (2147483648 ≤ v1253 ∧ v1253 ≤ 2147483654) → X sc 268 (d + 5) (xI fun r h' => J h' ∧ Fr 135291600897 h h' ∧ (0 ≤ r ∧ r ≤ 4294967295)) 0 0 154 [x_r 75, iv_c a1, iv_c v1251, iv_c v1253] [] h1 := by
      intro n
      induction n with
      | zero => intro v1251 v1253 q1256; exact absurd q1256 (Nat.not_lt_zero _)
      | succ n i1257 =>
        intro v1251 v1253 q1256 b1252 b1254
        refine x_iload (np := 155) (x := 3) (by decide +kernel) rfl (by first | decide | omega) ?_
        refine x_aload (np := 156) (x := 0) (by decide +kernel) rfl (x_nc_le (by decide)) ?_
        refine x_nI (t := 6) (mj := 157) (n := 1) (rc := 12) (ml := 1) (nr := 1) (np := 159) (as := [x_r 75]) (rest := [iv_c v1253]) (lo1 := [x_r 75]) (by decide +kernel) (by decide) (by decide +kernel) (x_rb_of (by decide +kernel)) rfl rfl (x_wr (by decide) x_wn) (x_wi (by first | decide | omega) x_wn) (by decide) rfl ?_
        refine x_aload (np := 1) (x := 0) (by decide +kernel) rfl (x_nc_le (by decide)) ?_
        have q1258 : h1 75 1 = 76 := by have z := jB (e := 1) 0 j2 rg_75_1_0_1 (by decide) (by decide); omega
        refine x_getR (np := 4) (x := 705) (f := 1) (q := 76) (by decide +kernel) (by decide) (by decide +kernel) q1258 ?_
        refine x_const (np := 5) (x := 9223372039002259456) (a := 2147483648) (by decide +kernel) (by decide) (by decide) ?_
        have q1259 : h1 76 0 = h 76 0 := by rw [← e3]; exact x_up_k (by decide)
        have b1260 := jB (e := 0) 0 hJ rg_76_0_0_1 (by first | decide | omega) (by first | decide | omega)
        refine x_aldC (np := 6) (x := 0) (n := 1952) (i := 0) (q := (h 76 0)) (by decide +kernel) (by decide +kernel) (by first | decide | omega) (by first | decide | omega) (by decide) q1259 (fun l1261 => ?_)
        refine x_retI (np := 7) (x := 0) (by decide +kernel) l1261 (Or.inl (by decide +kernel)) ⟨_, rfl, l1261, ?_⟩
        refine x_icmp (k := 3) (tg := 190) (np := 162) (by decide +kernel) (by decide) (by first | decide | omega) l1261 (fun q1262 => ?_) (fun q1263 => ?_)
        · have q1262 : (h 76 0) ≤ v1253 := q1262
          refine x_iload (np := 191) (x := 2) (by decide +kernel) rfl (by first | decide | omega) ?_
          refine x_retI (np := 192) (x := 0) (by decide +kernel) (by first | decide | omega) (Or.inl (by decide +kernel)) ⟨_, rfl, (by first | decide | omega), ?_⟩
          exact ⟨j2, f4, (by first | decide | omega)⟩
        have q1263 : ¬ ((h 76 0) ≤ v1253) := q1263
        refine x_iload (np := 163) (x := 2) (by decide +kernel) rfl (by first | decide | omega) ?_
        refine x_aload (np := 164) (x := 0) (by decide +kernel) rfl (x_nc_le (by decide)) ?_
        have q1264 : h1 75 1 = 76 := by have z := jB (e := 1) 0 j2 rg_75_1_0_1 (by decide) (by decide); omega
        refine x_getR (np := 167) (x := 705) (f := 1) (q := 76) (by decide +kernel) (by decide) (by decide +kernel) q1264 ?_
        refine x_const (np := 169) (x := 9223372073361997832) (a := 2147483656) (by decide +kernel) (by decide) (by decide) ?_
        refine x_iload (np := 170) (x := 3) (by decide +kernel) rfl (by first | decide | omega) ?_
        refine x_iadd (np := 171) (x := 0) (v := (8 + v1253)) (by decide +kernel) (by decide) (by first | decide | omega) (by first | decide | omega) (by first | decide | omega) ?_
        obtain ⟨u1265, q1266⟩ : ∃ z, v1253 = 2147483648 + z := ⟨v1253 - 2147483648, by first | decide | omega⟩
        have q1267 : h1 76 (8 + u1265) = h 76 (8 + u1265) := by rw [← e3]; exact x_up_k (by decide)
        refine x_aldC (np := 172) (x := 0) (n := 1952) (i := (8 + u1265)) (q := (h 76 (8 + u1265))) (by decide +kernel) (by decide +kernel) (by first | decide | omega) (by first | decide | omega) (by decide) q1267 (fun l1268 => ?_)
        refine x_const (np := 174) (x := 9223372464204021859) (a := 2147483747) (by decide +kernel) (by decide) (by decide) ?_
        refine x_icmp (k := 3) (tg := 181) (np := 177) (by decide +kernel) (by decide) l1268 (by decide) (fun q1269 => ?_) (fun q1270 => ?_)
        · have q1269 : 2147483747 ≤ (h 76 (8 + u1265)) := q1269
          refine x_const (np := 182) (x := 9223372039002259456) (a := 2147483648) (by decide +kernel) (by decide) (by decide) ?_
          refine x_iadd (np := 183) (x := 0) (v := v1251) (by decide +kernel) (by first | decide | omega) (by decide) (by first | decide | omega) (by first | decide | omega) ?_
          refine x_istore (np := 184) (x := 2) (lo' := [x_r 75, iv_c a1, iv_c v1251, iv_c v1253]) (by decide +kernel) (by first | decide | omega) (Nat.le_of_ble_eq_true rfl) rfl ?_
          refine x_iinc (np := 187) (i := 3) (j := 2147483649) (v := (1 + v1253)) (lo' := [x_r 75, iv_c a1, iv_c v1251, iv_c (1 + v1253)]) (by decide +kernel) (by decide) (by decide) rfl (by first | decide | omega) (by first | decide | omega) (by first | decide | omega) rfl ?_
          refine x_goto (np := 190) (x := 154) (by decide +kernel) ?_
          exact i1257 v1251 (1 + v1253) (by first | decide | omega) (by first | decide | omega) (by first | decide | omega)
        have q1270 : ¬ (2147483747 ≤ (h 76 (8 + u1265))) := q1270
        refine x_const (np := 178) (x := 9223372043297226753) (a := 2147483649) (by decide +kernel) (by decide) (by decide) ?_
        refine x_goto (np := 181) (x := 182) (by decide +kernel) ?_
        refine x_addA (by rw [tb_b268]; decide +kernel) (by first | decide | omega) (by decide) (fun v1271 l1272 => ?_)
        refine x_istore (np := 184) (x := 2) (lo' := [x_r 75, iv_c a1, iv_c v1271, iv_c v1253]) (by decide +kernel) l1272 (Nat.le_of_ble_eq_true rfl) rfl ?_
        refine x_iinc (np := 187) (i := 3) (j := 2147483649) (v := (1 + v1253)) (lo' := [x_r 75, iv_c a1, iv_c v1271, iv_c (1 + v1253)]) (by decide +kernel) (by decide) (by decide) rfl (by first | decide | omega) (by first | decide | omega) (by first | decide | omega) rfl ?_
        refine x_goto (np := 190) (x := 154) (by decide +kernel) ?_
        exact i1257 v1271 (1 + v1253) (by first | decide | omega) (by first | decide | omega) (by first | decide | omega)
    exact p1255 _ 2147483648 2147483648 (Nat.lt_succ_self _) (by first | decide | omega) (by first | decide | omega)
  · refine x_tsw1 (np := 9) (x := 0) (by decide +kernel) la1 (i := 8) (lo9 := 2147483648) (hi9 := 2147483659) (tg := 192) (by decide +kernel) (by first | decide | omega) (by first | decide | omega) ?_
    refine x_aload (np := 193) (x := 0) (by decide +kernel) rfl (x_nc_le (by decide)) ?_
    have q1273 : h1 75 1 = 76 := by have z := jB (e := 1) 0 j2 rg_75_1_0_1 (by decide) (by decide); omega
    refine x_getR (np := 196) (x := 705) (f := 1) (q := 76) (by decide +kernel) (by decide) (by decide +kernel) q1273 ?_
    refine x_const (np := 198) (x := 9223372069067030535) (a := 2147483655) (by decide +kernel) (by decide) (by decide) ?_
    have q1274 : h1 76 7 = h 76 7 := by rw [← e3]; exact x_up_k (by decide)
    refine x_aldC (np := 199) (x := 0) (n := 1952) (i := 7) (q := (h 76 7)) (by decide +kernel) (by decide +kernel) (by first | decide | omega) (by first | decide | omega) (by decide) q1274 (fun l1275 => ?_)
    refine x_nI (t := 7) (mj := 310) (n := 1) (rc := 0) (ml := 1) (nr := 0) (np := 202) (as := [iv_c (h 76 7)]) (rest := []) (lo1 := [iv_c (h 76 7)]) (by decide +kernel) (by decide) (by decide +kernel) (Or.inl rfl) rfl rfl (x_wi l1275 x_wn) x_wn (by decide) rfl ?_
    refine x_iload (np := 1) (x := 0) (by decide +kernel) rfl l1275 ?_
    refine x_iload (np := 2) (x := 0) (by decide +kernel) rfl l1275 ?_
    refine x_const (np := 3) (x := 9223372043297226753) (a := 2147483649) (by decide +kernel) (by decide) (by decide) ?_
    refine x_any (np := 4) (k9 := 5) (by decide +kernel) (by decide) l1275 (by decide) (fun v1276 l1277 => ?_)
    refine x_const (np := 7) (x := 15372286730238776661) (a := 3579139413) (by decide +kernel) (by decide) (by decide) ?_
    refine x_any (np := 8) (k9 := 0) (by decide +kernel) (by decide) l1277 (by decide) (fun v1278 l1279 => ?_)
    refine x_subA (by rw [tb_b310]; decide +kernel) l1275 l1279 (fun v1280 l1281 => ?_)
    refine x_istore (np := 10) (x := 0) (lo' := [iv_c v1280]) (by decide +kernel) l1281 (Nat.le_of_ble_eq_true rfl) rfl ?_
    refine x_iload (np := 11) (x := 0) (by decide +kernel) rfl l1281 ?_
    refine x_const (np := 14) (x := 12912720853744169779) (a := 3006477107) (by decide +kernel) (by decide) (by decide) ?_
    refine x_any (np := 15) (k9 := 0) (by decide +kernel) (by decide) l1281 (by decide) (fun v1282 l1283 => ?_)
    refine x_iload (np := 16) (x := 0) (by decide +kernel) rfl l1281 ?_
    refine x_const (np := 17) (x := 9223372047592194050) (a := 2147483650) (by decide +kernel) (by decide) (by decide) ?_
    refine x_any (np := 18) (k9 := 5) (by decide +kernel) (by decide) l1281 (by decide) (fun v1284 l1285 => ?_)
    refine x_const (np := 21) (x := 12912720853744169779) (a := 3006477107) (by decide +kernel) (by decide) (by decide) ?_
    refine x_any (np := 22) (k9 := 0) (by decide +kernel) (by decide) l1285 (by decide) (fun v1286 l1287 => ?_)
    refine x_addA (by rw [tb_b310]; decide +kernel) l1283 l1287 (fun v1288 l1289 => ?_)
    refine x_istore (np := 24) (x := 0) (lo' := [iv_c v1288]) (by decide +kernel) l1289 (Nat.le_of_ble_eq_true rfl) rfl ?_
    refine x_iload (np := 25) (x := 0) (by decide +kernel) rfl l1289 ?_
    refine x_iload (np := 26) (x := 0) (by decide +kernel) rfl l1289 ?_
    refine x_const (np := 27) (x := 9223372056182128644) (a := 2147483652) (by decide +kernel) (by decide) (by decide) ?_
    refine x_any (np := 28) (k9 := 5) (by decide +kernel) (by decide) l1289 (by decide) (fun v1290 l1291 => ?_)
    refine x_addA (by rw [tb_b310]; decide +kernel) l1289 l1291 (fun v1292 l1293 => ?_)
    refine x_const (np := 32) (x := 10308474631573409551) (a := 2400128783) (by decide +kernel) (by decide) (by decide) ?_
    refine x_any (np := 33) (k9 := 0) (by decide +kernel) (by decide) l1293 (by decide) (fun v1294 l1295 => ?_)
    refine x_istore (np := 34) (x := 0) (lo' := [iv_c v1294]) (by decide +kernel) l1295 (Nat.le_of_ble_eq_true rfl) rfl ?_
    refine x_iload (np := 35) (x := 0) (by decide +kernel) rfl l1295 ?_
    refine x_iload (np := 36) (x := 0) (by decide +kernel) rfl l1295 ?_
    refine x_const (np := 38) (x := 9223372073361997832) (a := 2147483656) (by decide +kernel) (by decide) (by decide) ?_
    refine x_any (np := 39) (k9 := 5) (by decide +kernel) (by decide) l1295 (by decide) (fun v1296 l1297 => ?_)
    refine x_addA (by rw [tb_b310]; decide +kernel) l1295 l1297 (fun v1298 l1299 => ?_)
    refine x_istore (np := 41) (x := 0) (lo' := [iv_c v1298]) (by decide +kernel) l1299 (Nat.le_of_ble_eq_true rfl) rfl ?_
    refine x_iload (np := 42) (x := 0) (by decide +kernel) rfl l1299 ?_
    refine x_iload (np := 43) (x := 0) (by decide +kernel) rfl l1299 ?_
    refine x_const (np := 45) (x := 9223372107721736208) (a := 2147483664) (by decide +kernel) (by decide) (by decide) ?_
    refine x_any (np := 46) (k9 := 5) (by decide +kernel) (by decide) l1299 (by decide) (fun v1300 l1301 => ?_)
    refine x_addA (by rw [tb_b310]; decide +kernel) l1299 l1301 (fun v1302 l1303 => ?_)
    refine x_istore (np := 48) (x := 0) (lo' := [iv_c v1302]) (by decide +kernel) l1303 (Nat.le_of_ble_eq_true rfl) rfl ?_
    refine x_iload (np := 49) (x := 0) (by decide +kernel) rfl l1303 ?_
    refine x_const (np := 51) (x := 9223372309585199167) (a := 2147483711) (by decide +kernel) (by decide) (by decide) ?_
    refine x_mask (np := 52) (m := 6) (k9 := 64) (by decide +kernel) l1303 (by decide +kernel) (by decide) (by decide) (by decide) (fun u1304 l1305 => ?_)
    refine x_retI (np := 53) (x := 0) (by decide +kernel) (by first | decide | omega) (Or.inl (by decide +kernel)) ⟨_, rfl, (by first | decide | omega), ?_⟩
    refine x_retI (np := 203) (x := 0) (by decide +kernel) (by first | decide | omega) (Or.inl (by decide +kernel)) ⟨_, rfl, (by first | decide | omega), ?_⟩
    exact ⟨j2, f4, (by first | decide | omega)⟩
  · refine x_tsw1 (np := 9) (x := 0) (by decide +kernel) la1 (i := 9) (lo9 := 2147483648) (hi9 := 2147483659) (tg := 203) (by decide +kernel) (by first | decide | omega) (by first | decide | omega) ?_
    refine x_const (np := 204) (x := 9223372039002259456) (a := 2147483648) (by decide +kernel) (by decide) (by decide) ?_
    refine x_istore (np := 205) (x := 3) (lo' := [x_r 75, iv_c a1, iv_c 2147483648, iv_c 2147483648]) (by decide +kernel) (by decide) (Nat.le_of_ble_eq_true rfl) rfl ?_
    have p1996 : ∀ (n : Nat) (v1992 : Nat) (v1994 : Nat), 4294967296 - v1994 < n → (0 ≤ v1992 ∧ v1992 ≤ 4294967295) → (2147483648 ≤ v1994 ∧ v1994 ≤ 2147483658) → X sc 268 (d + 5) (xI fun r h' => J h' ∧ Fr 135291600897 h h' ∧ (0 ≤ r ∧ r ≤ 4294967295)) 0 0 205 [x_r 75, iv_c a1, iv_c v1992, iv_c v1994] [] h1 := by
      intro n
      induction n with
      | zero => intro v1992 v1994 q1997; exact absurd q1997 (Nat.not_lt_zero _)
      | succ n i1998 =>
        intro v1992 v1994 q1997 b1993 b1995
        refine x_iload (np := 206) (x := 3) (by decide +kernel) rfl (by first | decide | omega) ?_
        refine x_aload (np := 207) (x := 0) (by decide +kernel) rfl (x_nc_le (by decide)) ?_
        have q1999 : h1 75 1 = 76 := by have z := jB (e := 1) 0 j2 rg_75_1_0_1 (by decide) (by decide); omega
        refine x_getR (np := 210) (x := 705) (f := 1) (q := 76) (by decide +kernel) (by decide) (by decide +kernel) q1999 ?_
        refine x_const (np := 211) (x := 9223372051887161347) (a := 2147483651) (by decide +kernel) (by decide) (by decide) ?_
        have q2000 : h1 76 3 = h 76 3 := by rw [← e3]; exact x_up_k (by decide)
        have b2001 := jB (e := 3) 0 hJ rg_76_3_0_1 (by first | decide | omega) (by first | decide | omega)
        refine x_aldC (np := 212) (x := 0) (n := 1952) (i := 3) (q := (h 76 3)) (by decide +kernel) (by decide +kernel) (by first | decide | omega) (by first | decide | omega) (by decide) q2000 (fun l2002 => ?_)
        refine x_icmp (k := 3) (tg := 237) (np := 215) (by decide +kernel) (by decide) (by first | decide | omega) l2002 (fun q2003 => ?_) (fun q2004 => ?_)
        · have q2003 : (h 76 3) ≤ v1994 := q2003
          refine x_iload (np := 238) (x := 2) (by decide +kernel) rfl (by first | decide | omega) ?_
          refine x_retI (np := 239) (x := 0) (by decide +kernel) (by first | decide | omega) (Or.inl (by decide +kernel)) ⟨_, rfl, (by first | decide | omega), ?_⟩
          exact ⟨j2, f4, (by first | decide | omega)⟩
        have q2004 : ¬ ((h 76 3) ≤ v1994) := q2004
        refine x_iload (np := 216) (x := 2) (by decide +kernel) rfl (by first | decide | omega) ?_
        refine x_aload (np := 217) (x := 0) (by decide +kernel) rfl (x_nc_le (by decide)) ?_
        refine x_iload (np := 218) (x := 3) (by decide +kernel) rfl (by first | decide | omega) ?_
        refine x_nI (t := 6) (mj := 252) (n := 2) (rc := 12) (ml := 2) (nr := 1) (np := 221) (as := [x_r 75, iv_c v1994]) (rest := [iv_c v1992]) (lo1 := [x_r 75, iv_c v1994]) (by decide +kernel) (by decide) (by decide +kernel) (x_rb_of (by decide +kernel)) rfl rfl (x_wr (by decide) (x_wi (by first | decide | omega) x_wn)) (x_wi (by first | decide | omega) x_wn) (by decide) rfl ?_
        refine x_aload (np := 1) (x := 0) (by decide +kernel) rfl (x_nc_le (by decide)) ?_
        refine x_iload (np := 2) (x := 1) (by decide +kernel) rfl (by first | decide | omega) ?_
        refine x_const (np := 3) (x := 9223372051887161347) (a := 2147483651) (by decide +kernel) (by decide) (by decide) ?_
        refine x_nI (t := 6) (mj := 162) (n := 3) (rc := 12) (ml := 3) (nr := 0) (np := 6) (as := [x_r 75, iv_c v1994, iv_c 2147483651]) (rest := []) (lo1 := [x_r 75, iv_c v1994, iv_c 2147483651]) (by decide +kernel) (by decide) (by decide +kernel) (x_rb_of (by decide +kernel)) rfl rfl (x_wr (by decide) (x_wi (by first | decide | omega) (x_wi (by decide) x_wn))) x_wn (by decide) rfl ?_
        refine x_aload (np := 1) (x := 0) (by decide +kernel) rfl (x_nc_le (by decide)) ?_
        have q2005 : h1 75 1 = 76 := by have z := jB (e := 1) 0 j2 rg_75_1_0_1 (by decide) (by decide); omega
        refine x_getR (np := 4) (x := 705) (f := 1) (q := 76) (by decide +kernel) (by decide) (by decide +kernel) q2005 ?_
        refine x_const (np := 7) (x := 9223372726197026976) (a := 2147483808) (by decide +kernel) (by decide) (by decide) ?_
        refine x_const (np := 8) (x := 9223372056182128644) (a := 2147483652) (by decide +kernel) (by decide) (by decide) ?_
        refine x_iload (np := 9) (x := 1) (by decide +kernel) rfl (by first | decide | omega) ?_
        obtain ⟨u2006, q2007⟩ : ∃ z, v1994 = 2147483648 + z := ⟨v1994 - 2147483648, by first | decide | omega⟩
        refine x_imul (np := 10) (x := 0) (i := 4) (j := u2006) (v := (2147483648 + 4 * u2006)) (by decide +kernel) (by first | decide | omega) (by first | decide | omega) (by first | decide | omega) (by first | decide | omega) (by decide) (by first | decide | omega) ?_
        refine x_iadd (np := 11) (x := 0) (v := (2147483808 + 4 * u2006)) (by decide +kernel) (by decide) (by first | decide | omega) (by first | decide | omega) (by first | decide | omega) ?_
        refine x_iload (np := 12) (x := 2) (by decide +kernel) rfl (by decide) ?_
        refine x_iadd (np := 13) (x := 0) (v := (2147483811 + 4 * u2006)) (by decide +kernel) (by first | decide | omega) (by decide) (by first | decide | omega) (by first | decide | omega) ?_
        have q2009 : h1 76 (163 + 4 * u2006) = h 76 (163 + 4 * u2006) := by rw [← e3]; exact x_up_k (by decide)
        refine x_aldC (np := 14) (x := 0) (n := 1952) (i := (163 + 4 * u2006)) (q := ((h 76 (163 + 4 * u2006)))) (by decide +kernel) (by decide +kernel) (by first | decide | omega) (by first | decide | omega) (by decide) q2009 (fun l2010 => ?_)
        refine x_retI (np := 15) (x := 0) (by decide +kernel) l2010 (Or.inl (by decide +kernel)) ⟨_, rfl, l2010, ?_⟩
        refine x_ifz (k := 2) (tg := 13) (np := 9) (by decide +kernel) (by decide) l2010 (fun q2011 => ?_) (fun q2012 => ?_)
        · have q2011 : ((h 76 (163 + 4 * u2006))) < 2147483648 := q2011
          refine x_const (np := 14) (x := 9223372039002259456) (a := 2147483648) (by decide +kernel) (by decide) (by decide) ?_
          refine x_retI (np := 15) (x := 0) (by decide +kernel) (by decide) (Or.inr ⟨by decide +kernel, by first | decide | omega, by first | decide | omega⟩) ⟨_, rfl, (by decide), ?_⟩
          refine x_ifz (k := 0) (tg := 228) (np := 224) (by decide +kernel) (by decide) (by decide) (fun q2013 => ?_) (fun q2014 => ?_)
          · have q2013 : 2147483648 = 2147483648 := q2013
            refine x_const (np := 229) (x := 9223372039002259456) (a := 2147483648) (by decide +kernel) (by decide) (by decide) ?_
            refine x_iadd (np := 230) (x := 0) (v := v1992) (by decide +kernel) (by first | decide | omega) (by decide) (by first | decide | omega) (by first | decide | omega) ?_
            refine x_istore (np := 231) (x := 2) (lo' := [x_r 75, iv_c a1, iv_c v1992, iv_c v1994]) (by decide +kernel) (by first | decide | omega) (Nat.le_of_ble_eq_true rfl) rfl ?_
            refine x_iinc (np := 234) (i := 3) (j := 2147483649) (v := (1 + v1994)) (lo' := [x_r 75, iv_c a1, iv_c v1992, iv_c (1 + v1994)]) (by decide +kernel) (by decide) (by decide) rfl (by first | decide | omega) (by first | decide | omega) (by first | decide | omega) rfl ?_
            refine x_goto (np := 237) (x := 205) (by decide +kernel) ?_
            exact i1998 v1992 (1 + v1994) (by first | decide | omega) (by first | decide | omega) (by first | decide | omega)
          have q2014 : ¬ (2147483648 = 2147483648) := q2014
          exfalso; omega
        have q2012 : ¬ (((h 76 (163 + 4 * u2006))) < 2147483648) := q2012
        refine x_const (np := 10) (x := 9223372043297226753) (a := 2147483649) (by decide +kernel) (by decide) (by decide) ?_
        refine x_goto (np := 13) (x := 14) (by decide +kernel) ?_
        refine x_retI (np := 15) (x := 0) (by decide +kernel) (by decide) (Or.inr ⟨by decide +kernel, by first | decide | omega, by first | decide | omega⟩) ⟨_, rfl, (by decide), ?_⟩
        refine x_ifz (k := 0) (tg := 228) (np := 224) (by decide +kernel) (by decide) (by decide) (fun q2015 => ?_) (fun q2016 => ?_)
        · have q2015 : 2147483649 = 2147483648 := q2015
          exfalso; omega
        have q2016 : ¬ (2147483649 = 2147483648) := q2016
        refine x_const (np := 225) (x := 9223372043297226753) (a := 2147483649) (by decide +kernel) (by decide) (by decide) ?_
        refine x_goto (np := 228) (x := 229) (by decide +kernel) ?_
        refine x_addA (by rw [tb_b268]; decide +kernel) (by first | decide | omega) (by decide) (fun v2017 l2018 => ?_)
        refine x_istore (np := 231) (x := 2) (lo' := [x_r 75, iv_c a1, iv_c v2017, iv_c v1994]) (by decide +kernel) l2018 (Nat.le_of_ble_eq_true rfl) rfl ?_
        refine x_iinc (np := 234) (i := 3) (j := 2147483649) (v := (1 + v1994)) (lo' := [x_r 75, iv_c a1, iv_c v2017, iv_c (1 + v1994)]) (by decide +kernel) (by decide) (by decide) rfl (by first | decide | omega) (by first | decide | omega) (by first | decide | omega) rfl ?_
        refine x_goto (np := 237) (x := 205) (by decide +kernel) ?_
        exact i1998 v2017 (1 + v1994) (by first | decide | omega) (by first | decide | omega) (by first | decide | omega)
    exact p1996 _ 2147483648 2147483648 (Nat.lt_succ_self _) (by first | decide | omega) (by first | decide | omega)
  · refine x_tsw1 (np := 9) (x := 0) (by decide +kernel) la1 (i := 10) (lo9 := 2147483648) (hi9 := 2147483659) (tg := 239) (by decide +kernel) (by first | decide | omega) (by first | decide | omega) ?_
    refine x_aload (np := 240) (x := 0) (by decide +kernel) rfl (x_nc_le (by decide)) ?_
    have q2019 : h1 75 1 = 76 := by have z := jB (e := 1) 0 j2 rg_75_1_0_1 (by decide) (by decide); omega
    refine x_getR (np := 243) (x := 705) (f := 1) (q := 76) (by decide +kernel) (by decide) (by decide +kernel) q2019 ?_
    refine x_const (np := 245) (x := 9223372064772063238) (a := 2147483654) (by decide +kernel) (by decide) (by decide) ?_
    have q2020 : h1 76 6 = h 76 6 := by rw [← e3]; exact x_up_k (by decide)
    refine x_aldC (np := 246) (x := 0) (n := 1952) (i := 6) (q := (h 76 6)) (by decide +kernel) (by decide +kernel) (by first | decide | omega) (by first | decide | omega) (by decide) q2020 (fun l2021 => ?_)
    refine x_const (np := 247) (x := 9223372043297226753) (a := 2147483649) (by decide +kernel) (by decide) (by decide) ?_
    refine x_icmp (k := 1) (tg := 261) (np := 250) (by decide +kernel) (by decide) l2021 (by decide) (fun q2022 => ?_) (fun q2023 => ?_)
    · have q2022 : (h 76 6) ≠ 2147483649 := q2022
      refine x_const (np := 262) (x := 9223372039002259456) (a := 2147483648) (by decide +kernel) (by decide) (by decide) ?_
      refine x_retI (np := 263) (x := 0) (by decide +kernel) (by decide) (Or.inl (by decide +kernel)) ⟨_, rfl, (by decide), ?_⟩
      exact ⟨j2, f4, (by first | decide | omega)⟩
    have q2023 : ¬ ((h 76 6) ≠ 2147483649) := q2023
    refine x_aload (np := 251) (x := 0) (by decide +kernel) rfl (x_nc_le (by decide)) ?_
    have q2024 : h1 75 1 = 76 := by have z := jB (e := 1) 0 j2 rg_75_1_0_1 (by decide) (by decide); omega
    refine x_getR (np := 254) (x := 705) (f := 1) (q := 76) (by decide +kernel) (by decide) (by decide +kernel) q2024 ?_
    refine x_const (np := 257) (x := 9223373284542775586) (a := 2147483938) (by decide +kernel) (by decide) (by decide) ?_
    have q2025 : h1 76 290 = h 76 290 := by rw [← e3]; exact x_up_k (by decide)
    have b2026 := jB (e := 290) 0 hJ rg_76_290_0_1 (by first | decide | omega) (by first | decide | omega)
    refine x_aldC (np := 258) (x := 0) (n := 1952) (i := 290) (q := (h 76 290)) (by decide +kernel) (by decide +kernel) (by first | decide | omega) (by first | decide | omega) (by decide) q2025 (fun l2027 => ?_)
    refine x_goto (np := 261) (x := 262) (by decide +kernel) ?_
    refine x_retI (np := 263) (x := 0) (by decide +kernel) l2027 (Or.inl (by decide +kernel)) ⟨_, rfl, l2027, ?_⟩
    exact ⟨j2, f4, (by first | decide | omega)⟩
  · refine x_tsw1 (np := 9) (x := 0) (by decide +kernel) la1 (i := 11) (lo9 := 2147483648) (hi9 := 2147483659) (tg := 263) (by decide +kernel) (by first | decide | omega) (by first | decide | omega) ?_
    refine x_const (np := 264) (x := 9223372039002259456) (a := 2147483648) (by decide +kernel) (by decide) (by decide) ?_
    refine x_istore (np := 265) (x := 3) (lo' := [x_r 75, iv_c a1, iv_c 2147483648, iv_c 2147483648]) (by decide +kernel) (by decide) (Nat.le_of_ble_eq_true rfl) rfl ?_
    have p2134 : ∀ (n : Nat) (v2130 : Nat) (v2132 : Nat), 4294967296 - v2132 < n → (0 ≤ v2130 ∧ v2130 ≤ 4294967295) → (2147483648 ≤ v2132 ∧ v2132 ≤ 2147483654) → X sc 268 (d + 5) (xI fun r h' => J h' ∧ Fr 135291600897 h h' ∧ (0 ≤ r ∧ r ≤ 4294967295)) 0 0 265 [x_r 75, iv_c a1, iv_c v2130, iv_c v2132] [] h1 := by
      intro n
      induction n with
      | zero => intro v2130 v2132 q2135; exact absurd q2135 (Nat.not_lt_zero _)
      | succ n i2136 =>
        intro v2130 v2132 q2135 b2131 b2133
        refine x_iload (np := 266) (x := 3) (by decide +kernel) rfl (by first | decide | omega) ?_
        refine x_aload (np := 267) (x := 0) (by decide +kernel) rfl (x_nc_le (by decide)) ?_
        refine x_nI (t := 6) (mj := 157) (n := 1) (rc := 12) (ml := 1) (nr := 1) (np := 270) (as := [x_r 75]) (rest := [iv_c v2132]) (lo1 := [x_r 75]) (by decide +kernel) (by decide) (by decide +kernel) (x_rb_of (by decide +kernel)) rfl rfl (x_wr (by decide) x_wn) (x_wi (by first | decide | omega) x_wn) (by decide) rfl ?_
        refine x_aload (np := 1) (x := 0) (by decide +kernel) rfl (x_nc_le (by decide)) ?_
        have q2137 : h1 75 1 = 76 := by have z := jB (e := 1) 0 j2 rg_75_1_0_1 (by decide) (by decide); omega
        refine x_getR (np := 4) (x := 705) (f := 1) (q := 76) (by decide +kernel) (by decide) (by decide +kernel) q2137 ?_
        refine x_const (np := 5) (x := 9223372039002259456) (a := 2147483648) (by decide +kernel) (by decide) (by decide) ?_
        have q2138 : h1 76 0 = h 76 0 := by rw [← e3]; exact x_up_k (by decide)
        have b2139 := jB (e := 0) 0 hJ rg_76_0_0_1 (by first | decide | omega) (by first | decide | omega)
        refine x_aldC (np := 6) (x := 0) (n := 1952) (i := 0) (q := (h 76 0)) (by decide +kernel) (by decide +kernel) (by first | decide | omega) (by first | decide | omega) (by decide) q2138 (fun l2140 => ?_)
        refine x_retI (np := 7) (x := 0) (by decide +kernel) l2140 (Or.inl (by decide +kernel)) ⟨_, rfl, l2140, ?_⟩
        refine x_icmp (k := 3) (tg := 291) (np := 273) (by decide +kernel) (by decide) (by first | decide | omega) l2140 (fun q2141 => ?_) (fun q2142 => ?_)
        · have q2141 : (h 76 0) ≤ v2132 := q2141
          refine x_iload (np := 292) (x := 2) (by decide +kernel) rfl (by first | decide | omega) ?_
          refine x_retI (np := 293) (x := 0) (by decide +kernel) (by first | decide | omega) (Or.inl (by decide +kernel)) ⟨_, rfl, (by first | decide | omega), ?_⟩
          exact ⟨j2, f4, (by first | decide | omega)⟩
        have q2142 : ¬ ((h 76 0) ≤ v2132) := q2142
        refine x_iload (np := 274) (x := 2) (by decide +kernel) rfl (by first | decide | omega) ?_
        refine x_aload (np := 275) (x := 0) (by decide +kernel) rfl (x_nc_le (by decide)) ?_
        have q2143 : h1 75 1 = 76 := by have z := jB (e := 1) 0 j2 rg_75_1_0_1 (by decide) (by decide); omega
        refine x_getR (np := 278) (x := 705) (f := 1) (q := 76) (by decide +kernel) (by decide) (by decide +kernel) q2143 ?_
        refine x_const (np := 280) (x := 9223372099131801614) (a := 2147483662) (by decide +kernel) (by decide) (by decide) ?_
        refine x_iload (np := 281) (x := 3) (by decide +kernel) rfl (by first | decide | omega) ?_
        refine x_iadd (np := 282) (x := 0) (v := (14 + v2132)) (by decide +kernel) (by decide) (by first | decide | omega) (by first | decide | omega) (by first | decide | omega) ?_
        obtain ⟨u2144, q2145⟩ : ∃ z, v2132 = 2147483648 + z := ⟨v2132 - 2147483648, by first | decide | omega⟩
        have q2146 : h1 76 (14 + u2144) = h 76 (14 + u2144) := by rw [← e3]; exact x_up_k (by decide)
        refine x_aldC (np := 283) (x := 0) (n := 1952) (i := (14 + u2144)) (q := (h 76 (14 + u2144))) (by decide +kernel) (by decide +kernel) (by first | decide | omega) (by first | decide | omega) (by decide) q2146 (fun l2147 => ?_)
        refine x_addA (by rw [tb_b268]; decide +kernel) (by first | decide | omega) l2147 (fun v2148 l2149 => ?_)
        refine x_istore (np := 285) (x := 2) (lo' := [x_r 75, iv_c a1, iv_c v2148, iv_c v2132]) (by decide +kernel) l2149 (Nat.le_of_ble_eq_true rfl) rfl ?_
        refine x_iinc (np := 288) (i := 3) (j := 2147483649) (v := (1 + v2132)) (lo' := [x_r 75, iv_c a1, iv_c v2148, iv_c (1 + v2132)]) (by decide +kernel) (by decide) (by decide) rfl (by first | decide | omega) (by first | decide | omega) (by first | decide | omega) rfl ?_
        refine x_goto (np := 291) (x := 265) (by decide +kernel) ?_
        exact i2136 v2148 (1 + v2132) (by first | decide | omega) (by first | decide | omega) (by first | decide | omega)
    exact p2134 _ 2147483648 2147483648 (Nat.lt_succ_self _) (by first | decide | omega) (by first | decide | omega)
set_option maxHeartbeats 0 in
/-- LentNames$Town.copy(LLentNames$Town;)V -/
theorem c84_T0_T0 {sc : Nat × Nat} {d ra0 ra1 : Nat} {h : xh} (hJ : J h) (ta0 : tw ra0) (ta1 : tw ra1) : X sc 84 (d + 1) (xV fun h' => J h' ∧ Fr 1407374883553409 h h' ∧ (h' ra0 7 = h ra1 7) ∧ (h' ra0 8 = h ra1 8) ∧ (h' (ra0 + 1) 2 = h (ra1 + 1) 2) ∧ (h' (ra0 + 3) 2 = h (ra1 + 3) 2) ∧ (h' (ra0 + 5) 2 = h (ra1 + 5) 2) ∧ (h' (ra0 + 7) 2 = h (ra1 + 7) 2) ∧ Ot ra0 h h') 0 0 0 [x_r ra0, x_r ra1] [] h := by
  have hF := Fr.refl 1407374883553409 h
  refine x_aload (np := 1) (x := 0) (by decide +kernel) rfl (x_nc_le (tn_0 ta0)) ?_
  have q1 : h ra0 0 = (ra0 + 1) := tf_0_0 hJ ta0
  refine x_getR (np := 4) (x := 512) (f := 0) (q := (ra0 + 1)) (by decide +kernel) (by decide) (tg_0_512_0_1 ta0) q1 ?_
  refine x_aload (np := 5) (x := 1) (by decide +kernel) rfl (x_nc_le (tn_0 ta1)) ?_
  have q2 : h ra1 0 = (ra1 + 1) := tf_0_0 hJ ta1
  refine x_getR (np := 8) (x := 512) (f := 0) (q := (ra1 + 1)) (by decide +kernel) (by decide) (tg_0_512_0_1 ta1) q2 ?_
  refine x_nV (t := 6) (mj := 70) (n := 2) (rc := 7) (ml := 2) (nr := 0) (np := 11) (as := [x_r (ra0 + 1), x_r (ra1 + 1)]) (rest := []) (lo1 := [x_r (ra0 + 1), x_r (ra1 + 1)]) (by decide +kernel) (by decide) (by decide +kernel) (x_rb_of (tr_1_7 ta0)) rfl rfl (x_wr (tn_1 ta0) (x_wr (tn_1 ta1) x_wn)) x_wn (by decide) rfl ?_
  refine x_aload (np := 1) (x := 0) (by decide +kernel) rfl (x_nc_le (tn_1 ta0)) ?_
  refine x_aload (np := 2) (x := 1) (by decide +kernel) rfl (x_nc_le (tn_1 ta1)) ?_
  have b3 := jB (e := 2) 0 hJ (rg_T1_2_0_1 ta1) (by first | decide | omega) (by first | decide | omega)
  refine x_getC (np := 5) (x := 386) (f := 2) (q := (h (ra1 + 1) 2)) (by decide +kernel) (by decide) (tg_1_386_2_0 ta1) rfl (fun l4 => ?_)
  refine x_putI (np := 8) (x := 386) (f := 2) (by decide +kernel) (tg_1_386_2_0 ta0) l4 (Or.inl (by decide)) ?_
  have j6 := jU (e := 2) (v := (h (ra1 + 1) 2)) 0 hJ (rg_T1_2_0_1 ta0) (by first | decide | omega) (by first | decide | omega) (by first | decide | omega)
  have f8 := jF (e := 2) (v := (h (ra1 + 1) 2)) 0 hF (rg_T1_2_0_1 ta0) (by first | decide | omega) (by first | decide | omega) (by decide)
  generalize e7 : x_up h (ra0 + 1) 2 (h (ra1 + 1) 2) = h5 at j6 f8 ⊢
  refine x_aload (np := 9) (x := 1) (by decide +kernel) rfl (x_nc_le (tn_1 ta1)) ?_
  have q9 : h5 (ra1 + 1) 1 = (ra1 + 2) := tf_1_1 j6 ta1
  refine x_getR (np := 12) (x := 385) (f := 1) (q := (ra1 + 2)) (by decide +kernel) (by decide) (tg_1_385_1_1 ta1) q9 ?_
  refine x_const (np := 13) (x := 9223372039002259456) (a := 2147483648) (by decide +kernel) (by decide) (by decide) ?_
  refine x_aload (np := 14) (x := 0) (by decide +kernel) rfl (x_nc_le (tn_1 ta0)) ?_
  have q10 : h5 (ra0 + 1) 1 = (ra0 + 2) := tf_1_1 j6 ta0
  refine x_getR (np := 17) (x := 385) (f := 1) (q := (ra0 + 2)) (by decide +kernel) (by decide) (tg_1_385_1_1 ta0) q10 ?_
  refine x_const (np := 18) (x := 9223372039002259456) (a := 2147483648) (by decide +kernel) (by decide) (by decide) ?_
  refine x_aload (np := 19) (x := 0) (by decide +kernel) rfl (x_nc_le (tn_1 ta0)) ?_
  have q11 : h5 (ra0 + 1) 1 = (ra0 + 2) := tf_1_1 j6 ta0
  refine x_getR (np := 22) (x := 385) (f := 1) (q := (ra0 + 2)) (by decide +kernel) (by decide) (tg_1_385_1_1 ta0) q11 ?_
  refine x_alen (np := 23) (x := 0) (n := 140) (by decide +kernel) (tn_2 ta0) (tl_2 ta0).1 (tl_2 ta0).2 (by decide) ?_
  show X _ _ _ _ _ _ _ _ [iv_c 2147483788, iv_c 2147483648, x_r (ra0 + 2), iv_c 2147483648, x_r (ra1 + 2)] _
  refine x_aload (np := 24) (x := 1) (by decide +kernel) rfl (x_nc_le (tn_1 ta1)) ?_
  have q12 : h5 (ra1 + 1) 1 = (ra1 + 2) := tf_1_1 j6 ta1
  refine x_getR (np := 27) (x := 385) (f := 1) (q := (ra1 + 2)) (by decide +kernel) (by decide) (tg_1_385_1_1 ta1) q12 ?_
  refine x_alen (np := 28) (x := 0) (n := 140) (by decide +kernel) (tn_2 ta1) (tl_2 ta1).1 (tl_2 ta1).2 (by decide) ?_
  show X _ _ _ _ _ _ _ _ [iv_c 2147483788, iv_c 2147483788, iv_c 2147483648, x_r (ra0 + 2), iv_c 2147483648, x_r (ra1 + 2)] _
  refine x_min (np := 31) (by decide +kernel) (by decide) (by decide) (Nat.le_trans (x_wi (by decide) (x_wi (by decide) (x_wi (by decide) (x_wr (tn_2 ta0) (x_wi (by decide) (x_wr (tn_2 ta1) x_wn)))))) (by decide)) ?_
  rw [show min 2147483788 2147483788 = 2147483788 by decide]
  refine x_copy (np := 34) (q := (ra0 + 2)) (r := (ra1 + 2)) (N := 140) (nq := 140) (nr := 140) (n8 := 0) (by decide +kernel) (ta_2_140 ta1) (ta_2_140 ta0) (by decide) (by decide) (by decide) (by decide) x_wn (by decide) ?_
  have j16 := J_cp (q := (ra0 + 2)) (r := (ra1 + 2)) (N := 140) j6 (tn_2 ta1) (ctb_T2_T2_140 ta0 ta1).1 (ctb_T2_T2_140 ta0 ta1).2.1 (ctb_T2_T2_140 ta0 ta1).2.2
  have f17 := Fr_cp (q := (ra0 + 2)) (r := (ra1 + 2)) (N := 140) (Fr.refl 128 h5) (fun i _ => by rw [tgr_2 ta0]; decide)
  generalize e18 : x_cp h5 (ra0 + 2) (ra1 + 2) 140 = h15 at j16 f17 ⊢
  have f19 := Fr.trans f8 f17 (by decide)
  refine x_retV (np := 35) (x := 0) (by decide +kernel) (by decide +kernel) ⟨rfl, ?_⟩
  refine x_aload (np := 12) (x := 0) (by decide +kernel) rfl (x_nc_le (tn_0 ta0)) ?_
  have q20 : h15 ra0 1 = (ra0 + 3) := tf_0_1 j16 ta0
  refine x_getR (np := 15) (x := 513) (f := 1) (q := (ra0 + 3)) (by decide +kernel) (by decide) (tg_0_513_1_1 ta0) q20 ?_
  refine x_aload (np := 16) (x := 1) (by decide +kernel) rfl (x_nc_le (tn_0 ta1)) ?_
  have q21 : h15 ra1 1 = (ra1 + 3) := tf_0_1 j16 ta1
  refine x_getR (np := 19) (x := 513) (f := 1) (q := (ra1 + 3)) (by decide +kernel) (by decide) (tg_0_513_1_1 ta1) q21 ?_
  refine x_nV (t := 6) (mj := 70) (n := 2) (rc := 7) (ml := 2) (nr := 0) (np := 22) (as := [x_r (ra0 + 3), x_r (ra1 + 3)]) (rest := []) (lo1 := [x_r (ra0 + 3), x_r (ra1 + 3)]) (by decide +kernel) (by decide) (by decide +kernel) (x_rb_of (tr_3_7 ta0)) rfl rfl (x_wr (tn_3 ta0) (x_wr (tn_3 ta1) x_wn)) x_wn (by decide) rfl ?_
  refine x_aload (np := 1) (x := 0) (by decide +kernel) rfl (x_nc_le (tn_3 ta0)) ?_
  refine x_aload (np := 2) (x := 1) (by decide +kernel) rfl (x_nc_le (tn_3 ta1)) ?_
  have q22 : h15 (ra1 + 3) 2 = h5 (ra1 + 3) 2 := jK 0 f17 (rg_T3_2_0_1 ta1) (by first | decide | omega) (by first | decide | omega) (by decide)
  have q23 : h5 (ra1 + 3) 2 = h (ra1 + 3) 2 := by rw [← e7]; exact x_up_k (tnn_3_1 ta1 ta0)
  have b24 := jB (e := 2) 0 hJ (rg_T3_2_0_1 ta1) (by first | decide | omega) (by first | decide | omega)
  refine x_getC (np := 5) (x := 386) (f := 2) (q := (h (ra1 + 3) 2)) (by decide +kernel) (by decide) (tg_3_386_2_0 ta1) (q22.trans q23) (fun l25 => ?_)
  refine x_putI (np := 8) (x := 386) (f := 2) (by decide +kernel) (tg_3_386_2_0 ta0) l25 (Or.inl (by decide)) ?_
  have j27 := jU (e := 2) (v := (h (ra1 + 3) 2)) 0 j16 (rg_T3_2_0_1 ta0) (by first | decide | omega) (by first | decide | omega) (by first | decide | omega)
  have f29 := jF (e := 2) (v := (h (ra1 + 3) 2)) 0 f19 (rg_T3_2_0_1 ta0) (by first | decide | omega) (by first | decide | omega) (by decide)
  generalize e28 : x_up h15 (ra0 + 3) 2 (h (ra1 + 3) 2) = h26 at j27 f29 ⊢
  refine x_aload (np := 9) (x := 1) (by decide +kernel) rfl (x_nc_le (tn_3 ta1)) ?_
  have q30 : h26 (ra1 + 3) 1 = (ra1 + 4) := tf_3_1 j27 ta1
  refine x_getR (np := 12) (x := 385) (f := 1) (q := (ra1 + 4)) (by decide +kernel) (by decide) (tg_3_385_1_1 ta1) q30 ?_
  refine x_const (np := 13) (x := 9223372039002259456) (a := 2147483648) (by decide +kernel) (by decide) (by decide) ?_
  refine x_aload (np := 14) (x := 0) (by decide +kernel) rfl (x_nc_le (tn_3 ta0)) ?_
  have q31 : h26 (ra0 + 3) 1 = (ra0 + 4) := tf_3_1 j27 ta0
  refine x_getR (np := 17) (x := 385) (f := 1) (q := (ra0 + 4)) (by decide +kernel) (by decide) (tg_3_385_1_1 ta0) q31 ?_
  refine x_const (np := 18) (x := 9223372039002259456) (a := 2147483648) (by decide +kernel) (by decide) (by decide) ?_
  refine x_aload (np := 19) (x := 0) (by decide +kernel) rfl (x_nc_le (tn_3 ta0)) ?_
  have q32 : h26 (ra0 + 3) 1 = (ra0 + 4) := tf_3_1 j27 ta0
  refine x_getR (np := 22) (x := 385) (f := 1) (q := (ra0 + 4)) (by decide +kernel) (by decide) (tg_3_385_1_1 ta0) q32 ?_
  refine x_alen (np := 23) (x := 0) (n := 40) (by decide +kernel) (tn_4 ta0) (tl_4 ta0).1 (tl_4 ta0).2 (by decide) ?_
  show X _ _ _ _ _ _ _ _ [iv_c 2147483688, iv_c 2147483648, x_r (ra0 + 4), iv_c 2147483648, x_r (ra1 + 4)] _
  refine x_aload (np := 24) (x := 1) (by decide +kernel) rfl (x_nc_le (tn_3 ta1)) ?_
  have q33 : h26 (ra1 + 3) 1 = (ra1 + 4) := tf_3_1 j27 ta1
  refine x_getR (np := 27) (x := 385) (f := 1) (q := (ra1 + 4)) (by decide +kernel) (by decide) (tg_3_385_1_1 ta1) q33 ?_
  refine x_alen (np := 28) (x := 0) (n := 40) (by decide +kernel) (tn_4 ta1) (tl_4 ta1).1 (tl_4 ta1).2 (by decide) ?_
  show X _ _ _ _ _ _ _ _ [iv_c 2147483688, iv_c 2147483688, iv_c 2147483648, x_r (ra0 + 4), iv_c 2147483648, x_r (ra1 + 4)] _
  refine x_min (np := 31) (by decide +kernel) (by decide) (by decide) (Nat.le_trans (x_wi (by decide) (x_wi (by decide) (x_wi (by decide) (x_wr (tn_4 ta0) (x_wi (by decide) (x_wr (tn_4 ta1) x_wn)))))) (by decide)) ?_
  rw [show min 2147483688 2147483688 = 2147483688 by decide]
  refine x_copy (np := 34) (q := (ra0 + 4)) (r := (ra1 + 4)) (N := 40) (nq := 40) (nr := 40) (n8 := 0) (by decide +kernel) (ta_4_40 ta1) (ta_4_40 ta0) (by decide) (by decide) (by decide) (by decide) x_wn (by decide) ?_
  have j37 := J_cp (q := (ra0 + 4)) (r := (ra1 + 4)) (N := 40) j27 (tn_4 ta1) (ctb_T4_T4_40 ta0 ta1).1 (ctb_T4_T4_40 ta0 ta1).2.1 (ctb_T4_T4_40 ta0 ta1).2.2
  have f38 := Fr_cp (q := (ra0 + 4)) (r := (ra1 + 4)) (N := 40) (Fr.refl 128 h26) (fun i _ => by rw [tgr_4 ta0]; decide)
  generalize e39 : x_cp h26 (ra0 + 4) (ra1 + 4) 40 = h36 at j37 f38 ⊢
  have f40 := Fr.trans f29 f38 (by decide)
  refine x_retV (np := 35) (x := 0) (by decide +kernel) (by decide +kernel) ⟨rfl, ?_⟩
  refine x_aload (np := 23) (x := 0) (by decide +kernel) rfl (x_nc_le (tn_0 ta0)) ?_
  have q41 : h36 ra0 2 = (ra0 + 5) := tf_0_2 j37 ta0
  refine x_getR (np := 26) (x := 514) (f := 2) (q := (ra0 + 5)) (by decide +kernel) (by decide) (tg_0_514_2_1 ta0) q41 ?_
  refine x_aload (np := 27) (x := 1) (by decide +kernel) rfl (x_nc_le (tn_0 ta1)) ?_
  have q42 : h36 ra1 2 = (ra1 + 5) := tf_0_2 j37 ta1
  refine x_getR (np := 30) (x := 514) (f := 2) (q := (ra1 + 5)) (by decide +kernel) (by decide) (tg_0_514_2_1 ta1) q42 ?_
  refine x_nV (t := 6) (mj := 70) (n := 2) (rc := 7) (ml := 2) (nr := 0) (np := 33) (as := [x_r (ra0 + 5), x_r (ra1 + 5)]) (rest := []) (lo1 := [x_r (ra0 + 5), x_r (ra1 + 5)]) (by decide +kernel) (by decide) (by decide +kernel) (x_rb_of (tr_5_7 ta0)) rfl rfl (x_wr (tn_5 ta0) (x_wr (tn_5 ta1) x_wn)) x_wn (by decide) rfl ?_
  refine x_aload (np := 1) (x := 0) (by decide +kernel) rfl (x_nc_le (tn_5 ta0)) ?_
  refine x_aload (np := 2) (x := 1) (by decide +kernel) rfl (x_nc_le (tn_5 ta1)) ?_
  have q43 : h36 (ra1 + 5) 2 = h26 (ra1 + 5) 2 := jK 0 f38 (rg_T5_2_0_1 ta1) (by first | decide | omega) (by first | decide | omega) (by decide)
  have q44 : h26 (ra1 + 5) 2 = h15 (ra1 + 5) 2 := by rw [← e28]; exact x_up_k (tnn_5_3 ta1 ta0)
  have q45 : h15 (ra1 + 5) 2 = h5 (ra1 + 5) 2 := jK 0 f17 (rg_T5_2_0_1 ta1) (by first | decide | omega) (by first | decide | omega) (by decide)
  have q46 : h5 (ra1 + 5) 2 = h (ra1 + 5) 2 := by rw [← e7]; exact x_up_k (tnn_5_1 ta1 ta0)
  have b47 := jB (e := 2) 0 hJ (rg_T5_2_0_1 ta1) (by first | decide | omega) (by first | decide | omega)
  refine x_getC (np := 5) (x := 386) (f := 2) (q := (h (ra1 + 5) 2)) (by decide +kernel) (by decide) (tg_5_386_2_0 ta1) (((q43.trans q44).trans q45).trans q46) (fun l48 => ?_)
  refine x_putI (np := 8) (x := 386) (f := 2) (by decide +kernel) (tg_5_386_2_0 ta0) l48 (Or.inl (by decide)) ?_
  have j50 := jU (e := 2) (v := (h (ra1 + 5) 2)) 0 j37 (rg_T5_2_0_1 ta0) (by first | decide | omega) (by first | decide | omega) (by first | decide | omega)
  have f52 := jF (e := 2) (v := (h (ra1 + 5) 2)) 0 f40 (rg_T5_2_0_1 ta0) (by first | decide | omega) (by first | decide | omega) (by decide)
  generalize e51 : x_up h36 (ra0 + 5) 2 (h (ra1 + 5) 2) = h49 at j50 f52 ⊢
  refine x_aload (np := 9) (x := 1) (by decide +kernel) rfl (x_nc_le (tn_5 ta1)) ?_
  have q53 : h49 (ra1 + 5) 1 = (ra1 + 6) := tf_5_1 j50 ta1
  refine x_getR (np := 12) (x := 385) (f := 1) (q := (ra1 + 6)) (by decide +kernel) (by decide) (tg_5_385_1_1 ta1) q53 ?_
  refine x_const (np := 13) (x := 9223372039002259456) (a := 2147483648) (by decide +kernel) (by decide) (by decide) ?_
  refine x_aload (np := 14) (x := 0) (by decide +kernel) rfl (x_nc_le (tn_5 ta0)) ?_
  have q54 : h49 (ra0 + 5) 1 = (ra0 + 6) := tf_5_1 j50 ta0
  refine x_getR (np := 17) (x := 385) (f := 1) (q := (ra0 + 6)) (by decide +kernel) (by decide) (tg_5_385_1_1 ta0) q54 ?_
  refine x_const (np := 18) (x := 9223372039002259456) (a := 2147483648) (by decide +kernel) (by decide) (by decide) ?_
  refine x_aload (np := 19) (x := 0) (by decide +kernel) rfl (x_nc_le (tn_5 ta0)) ?_
  have q55 : h49 (ra0 + 5) 1 = (ra0 + 6) := tf_5_1 j50 ta0
  refine x_getR (np := 22) (x := 385) (f := 1) (q := (ra0 + 6)) (by decide +kernel) (by decide) (tg_5_385_1_1 ta0) q55 ?_
  refine x_alen (np := 23) (x := 0) (n := 40) (by decide +kernel) (tn_6 ta0) (tl_6 ta0).1 (tl_6 ta0).2 (by decide) ?_
  show X _ _ _ _ _ _ _ _ [iv_c 2147483688, iv_c 2147483648, x_r (ra0 + 6), iv_c 2147483648, x_r (ra1 + 6)] _
  refine x_aload (np := 24) (x := 1) (by decide +kernel) rfl (x_nc_le (tn_5 ta1)) ?_
  have q56 : h49 (ra1 + 5) 1 = (ra1 + 6) := tf_5_1 j50 ta1
  refine x_getR (np := 27) (x := 385) (f := 1) (q := (ra1 + 6)) (by decide +kernel) (by decide) (tg_5_385_1_1 ta1) q56 ?_
  refine x_alen (np := 28) (x := 0) (n := 40) (by decide +kernel) (tn_6 ta1) (tl_6 ta1).1 (tl_6 ta1).2 (by decide) ?_
  show X _ _ _ _ _ _ _ _ [iv_c 2147483688, iv_c 2147483688, iv_c 2147483648, x_r (ra0 + 6), iv_c 2147483648, x_r (ra1 + 6)] _
  refine x_min (np := 31) (by decide +kernel) (by decide) (by decide) (Nat.le_trans (x_wi (by decide) (x_wi (by decide) (x_wi (by decide) (x_wr (tn_6 ta0) (x_wi (by decide) (x_wr (tn_6 ta1) x_wn)))))) (by decide)) ?_
  rw [show min 2147483688 2147483688 = 2147483688 by decide]
  refine x_copy (np := 34) (q := (ra0 + 6)) (r := (ra1 + 6)) (N := 40) (nq := 40) (nr := 40) (n8 := 0) (by decide +kernel) (ta_6_40 ta1) (ta_6_40 ta0) (by decide) (by decide) (by decide) (by decide) x_wn (by decide) ?_
  have j60 := J_cp (q := (ra0 + 6)) (r := (ra1 + 6)) (N := 40) j50 (tn_6 ta1) (ctb_T6_T6_40 ta0 ta1).1 (ctb_T6_T6_40 ta0 ta1).2.1 (ctb_T6_T6_40 ta0 ta1).2.2
  have f61 := Fr_cp (q := (ra0 + 6)) (r := (ra1 + 6)) (N := 40) (Fr.refl 128 h49) (fun i _ => by rw [tgr_6 ta0]; decide)
  generalize e62 : x_cp h49 (ra0 + 6) (ra1 + 6) 40 = h59 at j60 f61 ⊢
  have f63 := Fr.trans f52 f61 (by decide)
  refine x_retV (np := 35) (x := 0) (by decide +kernel) (by decide +kernel) ⟨rfl, ?_⟩
  refine x_aload (np := 34) (x := 0) (by decide +kernel) rfl (x_nc_le (tn_0 ta0)) ?_
  have q64 : h59 ra0 3 = (ra0 + 7) := tf_0_3 j60 ta0
  refine x_getR (np := 37) (x := 515) (f := 3) (q := (ra0 + 7)) (by decide +kernel) (by decide) (tg_0_515_3_1 ta0) q64 ?_
  refine x_aload (np := 38) (x := 1) (by decide +kernel) rfl (x_nc_le (tn_0 ta1)) ?_
  have q65 : h59 ra1 3 = (ra1 + 7) := tf_0_3 j60 ta1
  refine x_getR (np := 41) (x := 515) (f := 3) (q := (ra1 + 7)) (by decide +kernel) (by decide) (tg_0_515_3_1 ta1) q65 ?_
  refine x_nV (t := 6) (mj := 70) (n := 2) (rc := 7) (ml := 2) (nr := 0) (np := 44) (as := [x_r (ra0 + 7), x_r (ra1 + 7)]) (rest := []) (lo1 := [x_r (ra0 + 7), x_r (ra1 + 7)]) (by decide +kernel) (by decide) (by decide +kernel) (x_rb_of (tr_7_7 ta0)) rfl rfl (x_wr (tn_7 ta0) (x_wr (tn_7 ta1) x_wn)) x_wn (by decide) rfl ?_
  refine x_aload (np := 1) (x := 0) (by decide +kernel) rfl (x_nc_le (tn_7 ta0)) ?_
  refine x_aload (np := 2) (x := 1) (by decide +kernel) rfl (x_nc_le (tn_7 ta1)) ?_
  have q66 : h59 (ra1 + 7) 2 = h49 (ra1 + 7) 2 := jK 0 f61 (rg_T7_2_0_1 ta1) (by first | decide | omega) (by first | decide | omega) (by decide)
  have q67 : h49 (ra1 + 7) 2 = h36 (ra1 + 7) 2 := by rw [← e51]; exact x_up_k (tnn_7_5 ta1 ta0)
  have q68 : h36 (ra1 + 7) 2 = h26 (ra1 + 7) 2 := jK 0 f38 (rg_T7_2_0_1 ta1) (by first | decide | omega) (by first | decide | omega) (by decide)
  have q69 : h26 (ra1 + 7) 2 = h15 (ra1 + 7) 2 := by rw [← e28]; exact x_up_k (tnn_7_3 ta1 ta0)
  have q70 : h15 (ra1 + 7) 2 = h5 (ra1 + 7) 2 := jK 0 f17 (rg_T7_2_0_1 ta1) (by first | decide | omega) (by first | decide | omega) (by decide)
  have q71 : h5 (ra1 + 7) 2 = h (ra1 + 7) 2 := by rw [← e7]; exact x_up_k (tnn_7_1 ta1 ta0)
  have b72 := jB (e := 2) 0 hJ (rg_T7_2_0_1 ta1) (by first | decide | omega) (by first | decide | omega)
  refine x_getC (np := 5) (x := 386) (f := 2) (q := (h (ra1 + 7) 2)) (by decide +kernel) (by decide) (tg_7_386_2_0 ta1) (((((q66.trans q67).trans q68).trans q69).trans q70).trans q71) (fun l73 => ?_)
  refine x_putI (np := 8) (x := 386) (f := 2) (by decide +kernel) (tg_7_386_2_0 ta0) l73 (Or.inl (by decide)) ?_
  have j75 := jU (e := 2) (v := (h (ra1 + 7) 2)) 0 j60 (rg_T7_2_0_1 ta0) (by first | decide | omega) (by first | decide | omega) (by first | decide | omega)
  have f77 := jF (e := 2) (v := (h (ra1 + 7) 2)) 0 f63 (rg_T7_2_0_1 ta0) (by first | decide | omega) (by first | decide | omega) (by decide)
  generalize e76 : x_up h59 (ra0 + 7) 2 (h (ra1 + 7) 2) = h74 at j75 f77 ⊢
  refine x_aload (np := 9) (x := 1) (by decide +kernel) rfl (x_nc_le (tn_7 ta1)) ?_
  have q78 : h74 (ra1 + 7) 1 = (ra1 + 8) := tf_7_1 j75 ta1
  refine x_getR (np := 12) (x := 385) (f := 1) (q := (ra1 + 8)) (by decide +kernel) (by decide) (tg_7_385_1_1 ta1) q78 ?_
  refine x_const (np := 13) (x := 9223372039002259456) (a := 2147483648) (by decide +kernel) (by decide) (by decide) ?_
  refine x_aload (np := 14) (x := 0) (by decide +kernel) rfl (x_nc_le (tn_7 ta0)) ?_
  have q79 : h74 (ra0 + 7) 1 = (ra0 + 8) := tf_7_1 j75 ta0
  refine x_getR (np := 17) (x := 385) (f := 1) (q := (ra0 + 8)) (by decide +kernel) (by decide) (tg_7_385_1_1 ta0) q79 ?_
  refine x_const (np := 18) (x := 9223372039002259456) (a := 2147483648) (by decide +kernel) (by decide) (by decide) ?_
  refine x_aload (np := 19) (x := 0) (by decide +kernel) rfl (x_nc_le (tn_7 ta0)) ?_
  have q80 : h74 (ra0 + 7) 1 = (ra0 + 8) := tf_7_1 j75 ta0
  refine x_getR (np := 22) (x := 385) (f := 1) (q := (ra0 + 8)) (by decide +kernel) (by decide) (tg_7_385_1_1 ta0) q80 ?_
  refine x_alen (np := 23) (x := 0) (n := 40) (by decide +kernel) (tn_8 ta0) (tl_8 ta0).1 (tl_8 ta0).2 (by decide) ?_
  show X _ _ _ _ _ _ _ _ [iv_c 2147483688, iv_c 2147483648, x_r (ra0 + 8), iv_c 2147483648, x_r (ra1 + 8)] _
  refine x_aload (np := 24) (x := 1) (by decide +kernel) rfl (x_nc_le (tn_7 ta1)) ?_
  have q81 : h74 (ra1 + 7) 1 = (ra1 + 8) := tf_7_1 j75 ta1
  refine x_getR (np := 27) (x := 385) (f := 1) (q := (ra1 + 8)) (by decide +kernel) (by decide) (tg_7_385_1_1 ta1) q81 ?_
  refine x_alen (np := 28) (x := 0) (n := 40) (by decide +kernel) (tn_8 ta1) (tl_8 ta1).1 (tl_8 ta1).2 (by decide) ?_
  show X _ _ _ _ _ _ _ _ [iv_c 2147483688, iv_c 2147483688, iv_c 2147483648, x_r (ra0 + 8), iv_c 2147483648, x_r (ra1 + 8)] _
  refine x_min (np := 31) (by decide +kernel) (by decide) (by decide) (Nat.le_trans (x_wi (by decide) (x_wi (by decide) (x_wi (by decide) (x_wr (tn_8 ta0) (x_wi (by decide) (x_wr (tn_8 ta1) x_wn)))))) (by decide)) ?_
  rw [show min 2147483688 2147483688 = 2147483688 by decide]
  refine x_copy (np := 34) (q := (ra0 + 8)) (r := (ra1 + 8)) (N := 40) (nq := 40) (nr := 40) (n8 := 0) (by decide +kernel) (ta_8_40 ta1) (ta_8_40 ta0) (by decide) (by decide) (by decide) (by decide) x_wn (by decide) ?_
  have j85 := J_cp (q := (ra0 + 8)) (r := (ra1 + 8)) (N := 40) j75 (tn_8 ta1) (ctb_T8_T8_40 ta0 ta1).1 (ctb_T8_T8_40 ta0 ta1).2.1 (ctb_T8_T8_40 ta0 ta1).2.2
  have f86 := Fr_cp (q := (ra0 + 8)) (r := (ra1 + 8)) (N := 40) (Fr.refl 128 h74) (fun i _ => by rw [tgr_8 ta0]; decide)
  generalize e87 : x_cp h74 (ra0 + 8) (ra1 + 8) 40 = h84 at j85 f86 ⊢
  have f88 := Fr.trans f77 f86 (by decide)
  refine x_retV (np := 35) (x := 0) (by decide +kernel) (by decide +kernel) ⟨rfl, ?_⟩
  refine x_aload (np := 45) (x := 1) (by decide +kernel) rfl (x_nc_le (tn_0 ta1)) ?_
  have q89 : h84 ra1 4 = (ra1 + 9) := tf_0_4 j85 ta1
  refine x_getR (np := 48) (x := 516) (f := 4) (q := (ra1 + 9)) (by decide +kernel) (by decide) (tg_0_516_4_1 ta1) q89 ?_
  refine x_const (np := 49) (x := 9223372039002259456) (a := 2147483648) (by decide +kernel) (by decide) (by decide) ?_
  refine x_aload (np := 50) (x := 0) (by decide +kernel) rfl (x_nc_le (tn_0 ta0)) ?_
  have q90 : h84 ra0 4 = (ra0 + 9) := tf_0_4 j85 ta0
  refine x_getR (np := 53) (x := 516) (f := 4) (q := (ra0 + 9)) (by decide +kernel) (by decide) (tg_0_516_4_1 ta0) q90 ?_
  refine x_const (np := 54) (x := 9223372039002259456) (a := 2147483648) (by decide +kernel) (by decide) (by decide) ?_
  refine x_const (np := 56) (x := 9223372064772063238) (a := 2147483654) (by decide +kernel) (by decide) (by decide) ?_
  refine x_copy (np := 59) (q := (ra0 + 9)) (r := (ra1 + 9)) (N := 6) (nq := 6) (nr := 6) (n8 := 0) (by decide +kernel) (ta_9_6 ta1) (ta_9_6 ta0) (by decide) (by decide) (by decide) (by decide) x_wn (by decide) ?_
  have j92 := J_cp (q := (ra0 + 9)) (r := (ra1 + 9)) (N := 6) j85 (tn_9 ta1) (ctb_T9_T9_6 ta0 ta1).1 (ctb_T9_T9_6 ta0 ta1).2.1 (ctb_T9_T9_6 ta0 ta1).2.2
  have f93 := Fr_cp (q := (ra0 + 9)) (r := (ra1 + 9)) (N := 6) (Fr.refl 128 h84) (fun i _ => by rw [tgr_9 ta0]; decide)
  generalize e94 : x_cp h84 (ra0 + 9) (ra1 + 9) 6 = h91 at j92 f93 ⊢
  have f95 := Fr.trans f88 f93 (by decide)
  refine x_aload (np := 60) (x := 1) (by decide +kernel) rfl (x_nc_le (tn_0 ta1)) ?_
  have q96 : h91 ra1 5 = (ra1 + 10) := tf_0_5 j92 ta1
  refine x_getR (np := 63) (x := 517) (f := 5) (q := (ra1 + 10)) (by decide +kernel) (by decide) (tg_0_517_5_1 ta1) q96 ?_
  refine x_const (np := 64) (x := 9223372039002259456) (a := 2147483648) (by decide +kernel) (by decide) (by decide) ?_
  refine x_aload (np := 65) (x := 0) (by decide +kernel) rfl (x_nc_le (tn_0 ta0)) ?_
  have q97 : h91 ra0 5 = (ra0 + 10) := tf_0_5 j92 ta0
  refine x_getR (np := 68) (x := 517) (f := 5) (q := (ra0 + 10)) (by decide +kernel) (by decide) (tg_0_517_5_1 ta0) q97 ?_
  refine x_const (np := 69) (x := 9223372039002259456) (a := 2147483648) (by decide +kernel) (by decide) (by decide) ?_
  refine x_const (np := 71) (x := 9223372064772063238) (a := 2147483654) (by decide +kernel) (by decide) (by decide) ?_
  refine x_copy (np := 74) (q := (ra0 + 10)) (r := (ra1 + 10)) (N := 6) (nq := 6) (nr := 6) (n8 := 0) (by decide +kernel) (ta_10_6 ta1) (ta_10_6 ta0) (by decide) (by decide) (by decide) (by decide) x_wn (by decide) ?_
  have j99 := J_cp (q := (ra0 + 10)) (r := (ra1 + 10)) (N := 6) j92 (tn_10 ta1) (ctb_T10_T10_6 ta0 ta1).1 (ctb_T10_T10_6 ta0 ta1).2.1 (ctb_T10_T10_6 ta0 ta1).2.2
  have f100 := Fr_cp (q := (ra0 + 10)) (r := (ra1 + 10)) (N := 6) (Fr.refl 1125899906842624 h91) (fun i _ => by rw [tgr_10 ta0]; decide)
  generalize e101 : x_cp h91 (ra0 + 10) (ra1 + 10) 6 = h98 at j99 f100 ⊢
  have f102 := Fr.trans f95 f100 (by decide)
  refine x_aload (np := 75) (x := 0) (by decide +kernel) rfl (x_nc_le (tn_0 ta0)) ?_
  have q103 : h98 ra0 6 = (ra0 + 11) := tf_0_6 j99 ta0
  refine x_getR (np := 78) (x := 518) (f := 6) (q := (ra0 + 11)) (by decide +kernel) (by decide) (tg_0_518_6_1 ta0) q103 ?_
  refine x_aload (np := 79) (x := 1) (by decide +kernel) rfl (x_nc_le (tn_0 ta1)) ?_
  have q104 : h98 ra1 6 = (ra1 + 11) := tf_0_6 j99 ta1
  refine x_getR (np := 82) (x := 518) (f := 6) (q := (ra1 + 11)) (by decide +kernel) (by decide) (tg_0_518_6_1 ta1) q104 ?_
  refine x_nV (t := 6) (mj := 37) (n := 2) (rc := 3) (ml := 2) (nr := 0) (np := 85) (as := [x_r (ra0 + 11), x_r (ra1 + 11)]) (rest := []) (lo1 := [x_r (ra0 + 11), x_r (ra1 + 11)]) (by decide +kernel) (by decide) (by decide +kernel) (x_rb_of (tr_11_3 ta0)) rfl rfl (x_wr (tn_11 ta0) (x_wr (tn_11 ta1) x_wn)) x_wn (by decide) rfl ?_
  refine x_aload (np := 1) (x := 0) (by decide +kernel) rfl (x_nc_le (tn_11 ta0)) ?_
  refine x_aload (np := 2) (x := 1) (by decide +kernel) rfl (x_nc_le (tn_11 ta1)) ?_
  have q105 : h98 (ra1 + 11) 2 = h91 (ra1 + 11) 2 := jK 0 f100 (rg_T11_2_0_1 ta1) (by first | decide | omega) (by first | decide | omega) (by decide)
  have b106 := jB (e := 2) 0 j92 (rg_T11_2_0_1 ta1) (by first | decide | omega) (by first | decide | omega)
  refine x_getC (np := 5) (x := 130) (f := 2) (q := (h91 (ra1 + 11) 2)) (by decide +kernel) (by decide) (tg_11_130_2_0 ta1) q105 (fun l107 => ?_)
  refine x_putI (np := 8) (x := 130) (f := 2) (by decide +kernel) (tg_11_130_2_0 ta0) l107 (Or.inl (by decide)) ?_
  have j109 := jU (e := 2) (v := (h91 (ra1 + 11) 2)) 0 j99 (rg_T11_2_0_1 ta0) (by first | decide | omega) (by first | decide | omega) (by first | decide | omega)
  have f111 := jF (e := 2) (v := (h91 (ra1 + 11) 2)) 0 f102 (rg_T11_2_0_1 ta0) (by first | decide | omega) (by first | decide | omega) (by decide)
  generalize e110 : x_up h98 (ra0 + 11) 2 (h91 (ra1 + 11) 2) = h108 at j109 f111 ⊢
  refine x_aload (np := 9) (x := 0) (by decide +kernel) rfl (x_nc_le (tn_11 ta0)) ?_
  refine x_aload (np := 10) (x := 1) (by decide +kernel) rfl (x_nc_le (tn_11 ta1)) ?_
  have q112 : h108 (ra1 + 11) 3 = h98 (ra1 + 11) 3 := by rw [← e110]; exact x_up_i (by first | decide | omega)
  have q113 : h98 (ra1 + 11) 3 = h91 (ra1 + 11) 3 := jK 0 f100 (rg_T11_3_0_1 ta1) (by first | decide | omega) (by first | decide | omega) (by decide)
  refine x_getC (np := 13) (x := 131) (f := 3) (q := (h91 (ra1 + 11) 3)) (by decide +kernel) (by decide) (tg_11_131_3_0 ta1) (q112.trans q113) (fun l114 => ?_)
  refine x_putI (np := 16) (x := 131) (f := 3) (by decide +kernel) (tg_11_131_3_0 ta0) l114 (Or.inl (by decide)) ?_
  have j116 := jU (e := 3) (v := (h91 (ra1 + 11) 3)) 0 j109 (rg_T11_3_0_1 ta0) (by first | decide | omega) (by first | decide | omega) (by first | decide | omega)
  have f118 := jF (e := 3) (v := (h91 (ra1 + 11) 3)) 0 f111 (rg_T11_3_0_1 ta0) (by first | decide | omega) (by first | decide | omega) (by decide)
  generalize e117 : x_up h108 (ra0 + 11) 3 (h91 (ra1 + 11) 3) = h115 at j116 f118 ⊢
  refine x_aload (np := 17) (x := 1) (by decide +kernel) rfl (x_nc_le (tn_11 ta1)) ?_
  have q119 : h115 (ra1 + 11) 0 = (ra1 + 12) := tf_11_0 j116 ta1
  refine x_getR (np := 20) (x := 128) (f := 0) (q := (ra1 + 12)) (by decide +kernel) (by decide) (tg_11_128_0_1 ta1) q119 ?_
  refine x_const (np := 21) (x := 9223372039002259456) (a := 2147483648) (by decide +kernel) (by decide) (by decide) ?_
  refine x_aload (np := 22) (x := 0) (by decide +kernel) rfl (x_nc_le (tn_11 ta0)) ?_
  have q120 : h115 (ra0 + 11) 0 = (ra0 + 12) := tf_11_0 j116 ta0
  refine x_getR (np := 25) (x := 128) (f := 0) (q := (ra0 + 12)) (by decide +kernel) (by decide) (tg_11_128_0_1 ta0) q120 ?_
  refine x_const (np := 26) (x := 9223372039002259456) (a := 2147483648) (by decide +kernel) (by decide) (by decide) ?_
  refine x_const (np := 29) (x := 9223373756989178256) (a := 2147484048) (by decide +kernel) (by decide) (by decide) ?_
  refine x_copy (np := 32) (q := (ra0 + 12)) (r := (ra1 + 12)) (N := 400) (nq := 400) (nr := 400) (n8 := 0) (by decide +kernel) (ta_12_400 ta1) (ta_12_400 ta0) (by decide) (by decide) (by decide) (by decide) x_wn (by decide) ?_
  have j122 := J_cp (q := (ra0 + 12)) (r := (ra1 + 12)) (N := 400) j116 (tn_12 ta1) (ctb_T12_T12_400 ta0 ta1).1 (ctb_T12_T12_400 ta0 ta1).2.1 (ctb_T12_T12_400 ta0 ta1).2.2
  have f123 := Fr_cp (q := (ra0 + 12)) (r := (ra1 + 12)) (N := 400) (Fr.refl 128 h115) (fun i _ => by rw [tgr_12 ta0]; decide)
  generalize e124 : x_cp h115 (ra0 + 12) (ra1 + 12) 400 = h121 at j122 f123 ⊢
  have f125 := Fr.trans f118 f123 (by decide)
  refine x_retV (np := 33) (x := 0) (by decide +kernel) (by decide +kernel) ⟨rfl, ?_⟩
  refine x_aload (np := 86) (x := 0) (by decide +kernel) rfl (x_nc_le (tn_0 ta0)) ?_
  refine x_aload (np := 87) (x := 1) (by decide +kernel) rfl (x_nc_le (tn_0 ta1)) ?_
  have q126 : h121 ra1 7 = h115 ra1 7 := jK 0 f123 (rg_T0_7_0_1 ta1) (by first | decide | omega) (by first | decide | omega) (by decide)
  have q127 : h115 ra1 7 = h108 ra1 7 := by rw [← e117]; exact x_up_k (tnn_0_11 ta1 ta0)
  have q128 : h108 ra1 7 = h98 ra1 7 := by rw [← e110]; exact x_up_k (tnn_0_11 ta1 ta0)
  have q129 : h98 ra1 7 = h91 ra1 7 := jK 0 f100 (rg_T0_7_0_1 ta1) (by first | decide | omega) (by first | decide | omega) (by decide)
  have q130 : h91 ra1 7 = h84 ra1 7 := jK 0 f93 (rg_T0_7_0_1 ta1) (by first | decide | omega) (by first | decide | omega) (by decide)
  have q131 : h84 ra1 7 = h74 ra1 7 := jK 0 f86 (rg_T0_7_0_1 ta1) (by first | decide | omega) (by first | decide | omega) (by decide)
  have q132 : h74 ra1 7 = h59 ra1 7 := by rw [← e76]; exact x_up_k (tnn_0_7 ta1 ta0)
  have q133 : h59 ra1 7 = h49 ra1 7 := jK 0 f61 (rg_T0_7_0_1 ta1) (by first | decide | omega) (by first | decide | omega) (by decide)
  have q134 : h49 ra1 7 = h36 ra1 7 := by rw [← e51]; exact x_up_k (tnn_0_5 ta1 ta0)
  have q135 : h36 ra1 7 = h26 ra1 7 := jK 0 f38 (rg_T0_7_0_1 ta1) (by first | decide | omega) (by first | decide | omega) (by decide)
  have q136 : h26 ra1 7 = h15 ra1 7 := by rw [← e28]; exact x_up_k (tnn_0_3 ta1 ta0)
  have q137 : h15 ra1 7 = h5 ra1 7 := jK 0 f17 (rg_T0_7_0_1 ta1) (by first | decide | omega) (by first | decide | omega) (by decide)
  have q138 : h5 ra1 7 = h ra1 7 := by rw [← e7]; exact x_up_k (tnn_0_1 ta1 ta0)
  have b139 := jB (e := 7) 0 hJ (rg_T0_7_0_1 ta1) (by first | decide | omega) (by first | decide | omega)
  refine x_getC (np := 90) (x := 519) (f := 7) (q := (h ra1 7)) (by decide +kernel) (by decide) (tg_0_519_7_0 ta1) ((((((((((((q126.trans q127).trans q128).trans q129).trans q130).trans q131).trans q132).trans q133).trans q134).trans q135).trans q136).trans q137).trans q138) (fun l140 => ?_)
  refine x_putI (np := 93) (x := 519) (f := 7) (by decide +kernel) (tg_0_519_7_0 ta0) l140 (Or.inl (by decide)) ?_
  have j142 := jU (e := 7) (v := (h ra1 7)) 0 j122 (rg_T0_7_0_1 ta0) (by first | decide | omega) (by first | decide | omega) (by first | decide | omega)
  have f144 := jF (e := 7) (v := (h ra1 7)) 0 f125 (rg_T0_7_0_1 ta0) (by first | decide | omega) (by first | decide | omega) (by decide)
  generalize e143 : x_up h121 ra0 7 (h ra1 7) = h141 at j142 f144 ⊢
  refine x_aload (np := 94) (x := 0) (by decide +kernel) rfl (x_nc_le (tn_0 ta0)) ?_
  refine x_aload (np := 95) (x := 1) (by decide +kernel) rfl (x_nc_le (tn_0 ta1)) ?_
  have q145 : h141 ra1 8 = h121 ra1 8 := by rw [← e143]; exact x_up_i (by first | decide | omega)
  have q146 : h121 ra1 8 = h115 ra1 8 := jK 0 f123 (rg_T0_8_0_1 ta1) (by first | decide | omega) (by first | decide | omega) (by decide)
  have q147 : h115 ra1 8 = h108 ra1 8 := by rw [← e117]; exact x_up_k (tnn_0_11 ta1 ta0)
  have q148 : h108 ra1 8 = h98 ra1 8 := by rw [← e110]; exact x_up_k (tnn_0_11 ta1 ta0)
  have q149 : h98 ra1 8 = h91 ra1 8 := jK 0 f100 (rg_T0_8_0_1 ta1) (by first | decide | omega) (by first | decide | omega) (by decide)
  have q150 : h91 ra1 8 = h84 ra1 8 := jK 0 f93 (rg_T0_8_0_1 ta1) (by first | decide | omega) (by first | decide | omega) (by decide)
  have q151 : h84 ra1 8 = h74 ra1 8 := jK 0 f86 (rg_T0_8_0_1 ta1) (by first | decide | omega) (by first | decide | omega) (by decide)
  have q152 : h74 ra1 8 = h59 ra1 8 := by rw [← e76]; exact x_up_k (tnn_0_7 ta1 ta0)
  have q153 : h59 ra1 8 = h49 ra1 8 := jK 0 f61 (rg_T0_8_0_1 ta1) (by first | decide | omega) (by first | decide | omega) (by decide)
  have q154 : h49 ra1 8 = h36 ra1 8 := by rw [← e51]; exact x_up_k (tnn_0_5 ta1 ta0)
  have q155 : h36 ra1 8 = h26 ra1 8 := jK 0 f38 (rg_T0_8_0_1 ta1) (by first | decide | omega) (by first | decide | omega) (by decide)
  have q156 : h26 ra1 8 = h15 ra1 8 := by rw [← e28]; exact x_up_k (tnn_0_3 ta1 ta0)
  have q157 : h15 ra1 8 = h5 ra1 8 := jK 0 f17 (rg_T0_8_0_1 ta1) (by first | decide | omega) (by first | decide | omega) (by decide)
  have q158 : h5 ra1 8 = h ra1 8 := by rw [← e7]; exact x_up_k (tnn_0_1 ta1 ta0)
  refine x_getC (np := 98) (x := 520) (f := 8) (q := (h ra1 8)) (by decide +kernel) (by decide) (tg_0_520_8_0 ta1) (((((((((((((q145.trans q146).trans q147).trans q148).trans q149).trans q150).trans q151).trans q152).trans q153).trans q154).trans q155).trans q156).trans q157).trans q158) (fun l159 => ?_)
  refine x_putI (np := 101) (x := 520) (f := 8) (by decide +kernel) (tg_0_520_8_0 ta0) l159 (Or.inl (by decide)) ?_
  have j161 := jU (e := 8) (v := (h ra1 8)) 0 j142 (rg_T0_8_0_1 ta0) (by first | decide | omega) (by first | decide | omega) (by first | decide | omega)
  have f163 := jF (e := 8) (v := (h ra1 8)) 0 f144 (rg_T0_8_0_1 ta0) (by first | decide | omega) (by first | decide | omega) (by decide)
  generalize e162 : x_up h141 ra0 8 (h ra1 8) = h160 at j161 f163 ⊢
  refine x_aload (np := 102) (x := 0) (by decide +kernel) rfl (x_nc_le (tn_0 ta0)) ?_
  refine x_aload (np := 103) (x := 1) (by decide +kernel) rfl (x_nc_le (tn_0 ta1)) ?_
  have q164 : h160 ra1 9 = h141 ra1 9 := by rw [← e162]; exact x_up_i (by first | decide | omega)
  have q165 : h141 ra1 9 = h121 ra1 9 := by rw [← e143]; exact x_up_i (by first | decide | omega)
  refine x_getC (np := 106) (x := 521) (f := 9) (q := (h121 ra1 9)) (by decide +kernel) (by decide) (tg_0_521_9_0 ta1) (q164.trans q165) (fun l166 => ?_)
  refine x_putI (np := 109) (x := 521) (f := 9) (by decide +kernel) (tg_0_521_9_0 ta0) l166 (Or.inl (by decide)) ?_
  have j168 := jU (e := 9) (v := (h121 ra1 9)) 0 j161 (rg_T0_9_0_1 ta0) (by first | decide | omega) (by first | decide | omega) (by first | decide | omega)
  have f170 := jF (e := 9) (v := (h121 ra1 9)) 0 f163 (rg_T0_9_0_1 ta0) (by first | decide | omega) (by first | decide | omega) (by decide)
  generalize e169 : x_up h160 ra0 9 (h121 ra1 9) = h167 at j168 f170 ⊢
  have q171 : h167 ra0 7 = h160 ra0 7 := by rw [← e169]; exact x_up_i (by first | decide | omega)
  have q172 : h160 ra0 7 = h141 ra0 7 := by rw [← e162]; exact x_up_i (by first | decide | omega)
  have q173 : h141 ra0 7 = (h ra1 7) := by rw [← e143]; exact x_up_at
  have q174 : h167 ra0 8 = h160 ra0 8 := by rw [← e169]; exact x_up_i (by first | decide | omega)
  have q175 : h160 ra0 8 = (h ra1 8) := by rw [← e162]; exact x_up_at
  have q176 : h167 (ra0 + 1) 2 = h160 (ra0 + 1) 2 := by rw [← e169]; exact x_up_k tof_1_0
  have q177 : h160 (ra0 + 1) 2 = h141 (ra0 + 1) 2 := by rw [← e162]; exact x_up_k tof_1_0
  have q178 : h141 (ra0 + 1) 2 = h121 (ra0 + 1) 2 := by rw [← e143]; exact x_up_k tof_1_0
  have q179 : h121 (ra0 + 1) 2 = h115 (ra0 + 1) 2 := jK 0 f123 (rg_T1_2_0_1 ta0) (by first | decide | omega) (by first | decide | omega) (by decide)
  have q180 : h115 (ra0 + 1) 2 = h108 (ra0 + 1) 2 := by rw [← e117]; exact x_up_k tof_1_11
  have q181 : h108 (ra0 + 1) 2 = h98 (ra0 + 1) 2 := by rw [← e110]; exact x_up_k tof_1_11
  have q182 : h98 (ra0 + 1) 2 = h91 (ra0 + 1) 2 := jK 0 f100 (rg_T1_2_0_1 ta0) (by first | decide | omega) (by first | decide | omega) (by decide)
  have q183 : h91 (ra0 + 1) 2 = h84 (ra0 + 1) 2 := jK 0 f93 (rg_T1_2_0_1 ta0) (by first | decide | omega) (by first | decide | omega) (by decide)
  have q184 : h84 (ra0 + 1) 2 = h74 (ra0 + 1) 2 := jK 0 f86 (rg_T1_2_0_1 ta0) (by first | decide | omega) (by first | decide | omega) (by decide)
  have q185 : h74 (ra0 + 1) 2 = h59 (ra0 + 1) 2 := by rw [← e76]; exact x_up_k tof_1_7
  have q186 : h59 (ra0 + 1) 2 = h49 (ra0 + 1) 2 := jK 0 f61 (rg_T1_2_0_1 ta0) (by first | decide | omega) (by first | decide | omega) (by decide)
  have q187 : h49 (ra0 + 1) 2 = h36 (ra0 + 1) 2 := by rw [← e51]; exact x_up_k tof_1_5
  have q188 : h36 (ra0 + 1) 2 = h26 (ra0 + 1) 2 := jK 0 f38 (rg_T1_2_0_1 ta0) (by first | decide | omega) (by first | decide | omega) (by decide)
  have q189 : h26 (ra0 + 1) 2 = h15 (ra0 + 1) 2 := by rw [← e28]; exact x_up_k tof_1_3
  have q190 : h15 (ra0 + 1) 2 = h5 (ra0 + 1) 2 := jK 0 f17 (rg_T1_2_0_1 ta0) (by first | decide | omega) (by first | decide | omega) (by decide)
  have q191 : h5 (ra0 + 1) 2 = (h (ra1 + 1) 2) := by rw [← e7]; exact x_up_at
  have q192 : h167 (ra0 + 3) 2 = h160 (ra0 + 3) 2 := by rw [← e169]; exact x_up_k tof_3_0
  have q193 : h160 (ra0 + 3) 2 = h141 (ra0 + 3) 2 := by rw [← e162]; exact x_up_k tof_3_0
  have q194 : h141 (ra0 + 3) 2 = h121 (ra0 + 3) 2 := by rw [← e143]; exact x_up_k tof_3_0
  have q195 : h121 (ra0 + 3) 2 = h115 (ra0 + 3) 2 := jK 0 f123 (rg_T3_2_0_1 ta0) (by first | decide | omega) (by first | decide | omega) (by decide)
  have q196 : h115 (ra0 + 3) 2 = h108 (ra0 + 3) 2 := by rw [← e117]; exact x_up_k tof_3_11
  have q197 : h108 (ra0 + 3) 2 = h98 (ra0 + 3) 2 := by rw [← e110]; exact x_up_k tof_3_11
  have q198 : h98 (ra0 + 3) 2 = h91 (ra0 + 3) 2 := jK 0 f100 (rg_T3_2_0_1 ta0) (by first | decide | omega) (by first | decide | omega) (by decide)
  have q199 : h91 (ra0 + 3) 2 = h84 (ra0 + 3) 2 := jK 0 f93 (rg_T3_2_0_1 ta0) (by first | decide | omega) (by first | decide | omega) (by decide)
  have q200 : h84 (ra0 + 3) 2 = h74 (ra0 + 3) 2 := jK 0 f86 (rg_T3_2_0_1 ta0) (by first | decide | omega) (by first | decide | omega) (by decide)
  have q201 : h74 (ra0 + 3) 2 = h59 (ra0 + 3) 2 := by rw [← e76]; exact x_up_k tof_3_7
  have q202 : h59 (ra0 + 3) 2 = h49 (ra0 + 3) 2 := jK 0 f61 (rg_T3_2_0_1 ta0) (by first | decide | omega) (by first | decide | omega) (by decide)
  have q203 : h49 (ra0 + 3) 2 = h36 (ra0 + 3) 2 := by rw [← e51]; exact x_up_k tof_3_5
  have q204 : h36 (ra0 + 3) 2 = h26 (ra0 + 3) 2 := jK 0 f38 (rg_T3_2_0_1 ta0) (by first | decide | omega) (by first | decide | omega) (by decide)
  have q205 : h26 (ra0 + 3) 2 = (h (ra1 + 3) 2) := by rw [← e28]; exact x_up_at
  have q206 : h167 (ra0 + 5) 2 = h160 (ra0 + 5) 2 := by rw [← e169]; exact x_up_k tof_5_0
  have q207 : h160 (ra0 + 5) 2 = h141 (ra0 + 5) 2 := by rw [← e162]; exact x_up_k tof_5_0
  have q208 : h141 (ra0 + 5) 2 = h121 (ra0 + 5) 2 := by rw [← e143]; exact x_up_k tof_5_0
  have q209 : h121 (ra0 + 5) 2 = h115 (ra0 + 5) 2 := jK 0 f123 (rg_T5_2_0_1 ta0) (by first | decide | omega) (by first | decide | omega) (by decide)
  have q210 : h115 (ra0 + 5) 2 = h108 (ra0 + 5) 2 := by rw [← e117]; exact x_up_k tof_5_11
  have q211 : h108 (ra0 + 5) 2 = h98 (ra0 + 5) 2 := by rw [← e110]; exact x_up_k tof_5_11
  have q212 : h98 (ra0 + 5) 2 = h91 (ra0 + 5) 2 := jK 0 f100 (rg_T5_2_0_1 ta0) (by first | decide | omega) (by first | decide | omega) (by decide)
  have q213 : h91 (ra0 + 5) 2 = h84 (ra0 + 5) 2 := jK 0 f93 (rg_T5_2_0_1 ta0) (by first | decide | omega) (by first | decide | omega) (by decide)
  have q214 : h84 (ra0 + 5) 2 = h74 (ra0 + 5) 2 := jK 0 f86 (rg_T5_2_0_1 ta0) (by first | decide | omega) (by first | decide | omega) (by decide)
  have q215 : h74 (ra0 + 5) 2 = h59 (ra0 + 5) 2 := by rw [← e76]; exact x_up_k tof_5_7
  have q216 : h59 (ra0 + 5) 2 = h49 (ra0 + 5) 2 := jK 0 f61 (rg_T5_2_0_1 ta0) (by first | decide | omega) (by first | decide | omega) (by decide)
  have q217 : h49 (ra0 + 5) 2 = (h (ra1 + 5) 2) := by rw [← e51]; exact x_up_at
  have q218 : h167 (ra0 + 7) 2 = h160 (ra0 + 7) 2 := by rw [← e169]; exact x_up_k tof_7_0
  have q219 : h160 (ra0 + 7) 2 = h141 (ra0 + 7) 2 := by rw [← e162]; exact x_up_k tof_7_0
  have q220 : h141 (ra0 + 7) 2 = h121 (ra0 + 7) 2 := by rw [← e143]; exact x_up_k tof_7_0
  have q221 : h121 (ra0 + 7) 2 = h115 (ra0 + 7) 2 := jK 0 f123 (rg_T7_2_0_1 ta0) (by first | decide | omega) (by first | decide | omega) (by decide)
  have q222 : h115 (ra0 + 7) 2 = h108 (ra0 + 7) 2 := by rw [← e117]; exact x_up_k tof_7_11
  have q223 : h108 (ra0 + 7) 2 = h98 (ra0 + 7) 2 := by rw [← e110]; exact x_up_k tof_7_11
  have q224 : h98 (ra0 + 7) 2 = h91 (ra0 + 7) 2 := jK 0 f100 (rg_T7_2_0_1 ta0) (by first | decide | omega) (by first | decide | omega) (by decide)
  have q225 : h91 (ra0 + 7) 2 = h84 (ra0 + 7) 2 := jK 0 f93 (rg_T7_2_0_1 ta0) (by first | decide | omega) (by first | decide | omega) (by decide)
  have q226 : h84 (ra0 + 7) 2 = h74 (ra0 + 7) 2 := jK 0 f86 (rg_T7_2_0_1 ta0) (by first | decide | omega) (by first | decide | omega) (by decide)
  have q227 : h74 (ra0 + 7) 2 = (h (ra1 + 7) 2) := by rw [← e76]; exact x_up_at
  have m228 : Ot ra0 h h5 := by rw [← e7]; exact Ot.up (o := 1) Ot.refl ta0 (by decide) rfl
  have m229 : Ot ra0 h h15 := by rw [← e18]; exact Ot.cp (o := 2) m228 ta0 (by decide) rfl
  have m230 : Ot ra0 h h26 := by rw [← e28]; exact Ot.up (o := 3) m229 ta0 (by decide) rfl
  have m231 : Ot ra0 h h36 := by rw [← e39]; exact Ot.cp (o := 4) m230 ta0 (by decide) rfl
  have m232 : Ot ra0 h h49 := by rw [← e51]; exact Ot.up (o := 5) m231 ta0 (by decide) rfl
  have m233 : Ot ra0 h h59 := by rw [← e62]; exact Ot.cp (o := 6) m232 ta0 (by decide) rfl
  have m234 : Ot ra0 h h74 := by rw [← e76]; exact Ot.up (o := 7) m233 ta0 (by decide) rfl
  have m235 : Ot ra0 h h84 := by rw [← e87]; exact Ot.cp (o := 8) m234 ta0 (by decide) rfl
  have m236 : Ot ra0 h h91 := by rw [← e94]; exact Ot.cp (o := 9) m235 ta0 (by decide) rfl
  have m237 : Ot ra0 h h98 := by rw [← e101]; exact Ot.cp (o := 10) m236 ta0 (by decide) rfl
  have m238 : Ot ra0 h h108 := by rw [← e110]; exact Ot.up (o := 11) m237 ta0 (by decide) rfl
  have m239 : Ot ra0 h h115 := by rw [← e117]; exact Ot.up (o := 11) m238 ta0 (by decide) rfl
  have m240 : Ot ra0 h h121 := by rw [← e124]; exact Ot.cp (o := 12) m239 ta0 (by decide) rfl
  have m241 : Ot ra0 h h141 := by rw [← e143]; exact Ot.up (o := 0) m240 ta0 (by decide) rfl
  have m242 : Ot ra0 h h160 := by rw [← e162]; exact Ot.up (o := 0) m241 ta0 (by decide) rfl
  have m243 : Ot ra0 h h167 := by rw [← e169]; exact Ot.up (o := 0) m242 ta0 (by decide) rfl
  refine x_retV (np := 110) (x := 0) (by decide +kernel) (by decide +kernel) ⟨rfl, ?_⟩
  exact ⟨j168, f170, (by first | decide | omega), (by first | decide | omega), (by first | decide | omega), (by first | decide | omega), (by first | decide | omega), (by first | decide | omega), m243⟩
