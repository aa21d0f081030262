/-! ===== methods ===== -/
set_option maxHeartbeats 0 in
/-- LentNames.secrets(II)I -/
theorem c136_0 {sc : Nat × Nat} {d a1 a2 : Nat} {h : xh} (hJ : J h) (ba1 : 0 ≤ a1 ∧ a1 ≤ 4294967295) (ba2 : 0 ≤ a2 ∧ a2 ≤ 4294967295) : X sc 136 (d + 25) (xT (fun r h' => J h' ∧ Fr 65537 h h' ∧ (0 ≤ r ∧ r ≤ 4294967295)) (fun E h' => J h' ∧ Fr 65537 h h' ∧ (E = 0 ∨ E = 2))) 0 0 0 [x_r 0, iv_c a1, iv_c a2] [] h := by
  have la1 : a1 < 4294967296 := by first | decide | omega
  have la2 : a2 < 4294967296 := by first | decide | omega
  have hF := Fr.refl 65537 h
  refine x_iload (np := 1) (x := 1) (by decide +kernel) rfl la1 ?_
  refine x_nU (t := 0) (mj := 146) (n := 1) (rc := 0) (ml := 1) (cc := 1) (ss := 6) (nr := 0) (np := 4) (as := [iv_c a1]) (rest := []) (lo1 := [iv_c a1]) (by decide +kernel) (by decide) (by decide +kernel) (by decide +kernel) (Or.inl rfl) rfl rfl (x_wi la1 x_wn) x_wn (by decide) rfl ?_
  refine x_iload (np := 1) (x := 0) (by decide +kernel) rfl la1 ?_
  refine x_ifz (k := 2) (tg := 10) (np := 4) (by decide +kernel) (by decide) la1 (fun q1 => ?_) (fun q2 => ?_)
  · have q1 : a1 < 2147483648 := q1
    refine x_thr (np := 13) (x := 2) (by decide +kernel) (by decide +kernel) (Nat.le_trans x_wn (by decide)) (Or.inr ⟨_, rfl, ?_⟩)
    refine Or.inr ⟨_, rfl, ?_⟩
    exact ⟨hJ, hF, by decide⟩
  have q2 : ¬ (a1 < 2147483648) := q2
  refine x_iload (np := 5) (x := 0) (by decide +kernel) rfl la1 ?_
  refine x_const (np := 7) (x := 9223372090541867020) (a := 2147483660) (by decide +kernel) (by decide) (by decide) ?_
  refine x_icmp (k := 2) (tg := 21) (np := 10) (by decide +kernel) (by decide) la1 (by decide) (fun q3 => ?_) (fun q4 => ?_)
  · have q3 : a1 < 2147483660 := q3
    refine x_retV (np := 22) (x := 0) (by decide +kernel) (by decide +kernel) (Or.inl ⟨rfl, ?_⟩)
    refine x_iload (np := 5) (x := 2) (by decide +kernel) rfl la2 ?_
    refine x_const (np := 7) (x := 9223372030412324862) (a := 2147483646) (by decide +kernel) (by decide) (by decide) ?_
    refine x_icmp (k := 3) (tg := 21) (np := 10) (by decide +kernel) (by decide) la2 (by decide) (fun q5 => ?_) (fun q6 => ?_)
    · have q5 : 2147483646 ≤ a2 := q5
      refine x_aload (np := 22) (x := 0) (by decide +kernel) rfl (x_nc_le (by decide)) ?_
      have q7 : h 0 6 = 69 := by have z := jB (e := 6) 0 hJ rg_0_6_0_1 (by decide) (by decide); omega
      refine x_getR (np := 25) (x := 646) (f := 6) (q := 69) (by decide +kernel) (by decide) (by decide +kernel) q7 ?_
      refine x_iload (np := 26) (x := 1) (by decide +kernel) rfl la1 ?_
      refine x_cV (t := 8) (mj := 271) (n := 2) (rc := 6) (ml := 3) (nr := 0) (np := 29) (as := [x_r 69, iv_c a1]) (rest := []) (lo1 := [x_r 69, iv_c a1, 147573952589676412928]) (by decide +kernel) (by decide) (by decide +kernel) (x_rb_of (by decide +kernel)) rfl rfl (x_wr (by decide) (x_wi la1 x_wn)) x_wn (by decide) rfl (c271_69 hJ  (by first | decide | omega)) (fun h11 q10 => ?_)
      obtain ⟨j12, f13⟩ := q10
      have f16 := Fr.trans hF f13 (by decide)
      refine x_aload (np := 30) (x := 0) (by decide +kernel) rfl (x_nc_le (by decide)) ?_
      have q17 : h11 0 6 = 69 := by have z := jB (e := 6) 0 j12 rg_0_6_0_1 (by decide) (by decide); omega
      refine x_getR (np := 33) (x := 646) (f := 6) (q := 69) (by decide +kernel) (by decide) (by decide +kernel) q17 ?_
      have b18 := jB (e := 9) 0 j12 rg_69_9_0_1 (by first | decide | omega) (by first | decide | omega)
      refine x_getC (np := 36) (x := 777) (f := 9) (q := (h11 69 9)) (by decide +kernel) (by decide) (by decide +kernel) rfl (fun l19 => ?_)
      refine x_ifz (k := 0) (tg := 42) (np := 39) (by decide +kernel) (by decide) l19 (fun q20 => ?_) (fun q21 => ?_)
      · have q20 : (h11 69 9) = 2147483648 := q20
        refine x_iload (np := 43) (x := 2) (by decide +kernel) rfl la2 ?_
        refine x_const (np := 45) (x := 9223372030412324862) (a := 2147483646) (by decide +kernel) (by decide) (by decide) ?_
        refine x_icmp (k := 1) (tg := 70) (np := 48) (by decide +kernel) (by decide) la2 (by decide) (fun q22 => ?_) (fun q23 => ?_)
        · have q22 : a2 ≠ 2147483646 := q22
          refine x_aload (np := 71) (x := 0) (by decide +kernel) rfl (x_nc_le (by decide)) ?_
          have q24 : h11 0 6 = 69 := by have z := jB (e := 6) 0 j12 rg_0_6_0_1 (by decide) (by decide); omega
          refine x_getR (np := 74) (x := 646) (f := 6) (q := 69) (by decide +kernel) (by decide) (by decide +kernel) q24 ?_
          refine x_iload (np := 75) (x := 2) (by decide +kernel) rfl la2 ?_
          refine x_nI (t := 8) (mj := 272) (n := 2) (rc := 6) (ml := 2) (nr := 0) (np := 78) (as := [x_r 69, iv_c a2]) (rest := []) (lo1 := [x_r 69, iv_c a2]) (by decide +kernel) (by decide) (by decide +kernel) (x_rb_of (by decide +kernel)) rfl rfl (x_wr (by decide) (x_wi la2 x_wn)) x_wn (by decide) rfl ?_
          refine x_aload (np := 1) (x := 0) (by decide +kernel) rfl (x_nc_le (by decide)) ?_
          refine x_getC (np := 4) (x := 776) (f := 8) (q := (h11 69 8)) (by decide +kernel) (by decide) (by decide +kernel) rfl (fun l25 => ?_)
          refine x_ifz (k := 1) (tg := 9) (np := 7) (by decide +kernel) (by decide) l25 (fun q26 => ?_) (fun q27 => ?_)
          · have q26 : (h11 69 8) ≠ 2147483648 := q26
            refine x_iload (np := 10) (x := 1) (by decide +kernel) rfl la2 ?_
            refine x_const (np := 11) (x := 9223372034707292159) (a := 2147483647) (by decide +kernel) (by decide) (by decide) ?_
            refine x_icmp (k := 1) (tg := 19) (np := 14) (by decide +kernel) (by decide) la2 (by decide) (fun q28 => ?_) (fun q29 => ?_)
            · have q28 : a2 ≠ 2147483647 := q28
              refine x_iload (np := 20) (x := 1) (by decide +kernel) rfl la2 ?_
              refine x_ifz (k := 2) (tg := 40) (np := 23) (by decide +kernel) (by decide) la2 (fun q30 => ?_) (fun q31 => ?_)
              · have q30 : a2 < 2147483648 := q30
                exfalso; omega
              have q31 : ¬ (a2 < 2147483648) := q31
              refine x_iload (np := 24) (x := 1) (by decide +kernel) rfl la2 ?_
              refine x_aload (np := 25) (x := 0) (by decide +kernel) rfl (x_nc_le (by decide)) ?_
              have b32 := jB (e := 15) 0 j12 rg_69_15_0_1 (by first | decide | omega) (by first | decide | omega)
              refine x_getC (np := 28) (x := 783) (f := 15) (q := (h11 69 15)) (by decide +kernel) (by decide) (by decide +kernel) rfl (fun l33 => ?_)
              refine x_icmp (k := 3) (tg := 40) (np := 31) (by decide +kernel) (by decide) la2 l33 (fun q34 => ?_) (fun q35 => ?_)
              · have q34 : (h11 69 15) ≤ a2 := q34
                refine x_const (np := 41) (x := 9223372034707292159) (a := 2147483647) (by decide +kernel) (by decide) (by decide) ?_
                refine x_retI (np := 42) (x := 0) (by decide +kernel) (by decide) (Or.inl (by decide +kernel)) ⟨_, rfl, (by decide), ?_⟩
                refine x_retI (np := 79) (x := 0) (by decide +kernel) (by decide) (Or.inl (by decide +kernel)) (Or.inl ⟨_, rfl, (by decide), ?_⟩)
                exact ⟨j12, f16, (by first | decide | omega)⟩
              have q35 : ¬ ((h11 69 15) ≤ a2) := q35
              refine x_aload (np := 32) (x := 0) (by decide +kernel) rfl (x_nc_le (by decide)) ?_
              have q36 : h11 69 4 = 74 := by have z := jB (e := 4) 0 j12 rg_69_4_0_1 (by decide) (by decide); omega
              refine x_getR (np := 35) (x := 772) (f := 4) (q := 74) (by decide +kernel) (by decide) (by decide +kernel) q36 ?_
              refine x_iload (np := 36) (x := 1) (by decide +kernel) rfl la2 ?_
              obtain ⟨u37, q38⟩ : ∃ z, a2 = 2147483648 + z := ⟨a2 - 2147483648, by first | decide | omega⟩
              refine x_aldC (np := 37) (x := 0) (n := 5) (i := u37) (q := (h11 74 u37)) (by decide +kernel) (by decide +kernel) (by first | decide | omega) (by first | decide | omega) (by decide) rfl (fun l39 => ?_)
              refine x_goto (np := 40) (x := 41) (by decide +kernel) ?_
              refine x_retI (np := 42) (x := 0) (by decide +kernel) l39 (Or.inl (by decide +kernel)) ⟨_, rfl, l39, ?_⟩
              refine x_retI (np := 79) (x := 0) (by decide +kernel) l39 (Or.inl (by decide +kernel)) (Or.inl ⟨_, rfl, l39, ?_⟩)
              exact ⟨j12, f16, (by first | decide | omega)⟩
            have q29 : ¬ (a2 ≠ 2147483647) := q29
            refine x_aload (np := 15) (x := 0) (by decide +kernel) rfl (x_nc_le (by decide)) ?_
            have b40 := jB (e := 15) 0 j12 rg_69_15_0_1 (by first | decide | omega) (by first | decide | omega)
            refine x_getC (np := 18) (x := 783) (f := 15) (q := (h11 69 15)) (by decide +kernel) (by decide) (by decide +kernel) rfl (fun l41 => ?_)
            refine x_retI (np := 19) (x := 0) (by decide +kernel) l41 (Or.inl (by decide +kernel)) ⟨_, rfl, l41, ?_⟩
            refine x_retI (np := 79) (x := 0) (by decide +kernel) l41 (Or.inl (by decide +kernel)) (Or.inl ⟨_, rfl, l41, ?_⟩)
            exact ⟨j12, f16, (by first | decide | omega)⟩
          have q27 : ¬ ((h11 69 8) ≠ 2147483648) := q27
          refine x_const (np := 8) (x := 9223372034707292159) (a := 2147483647) (by decide +kernel) (by decide) (by decide) ?_
          refine x_retI (np := 9) (x := 0) (by decide +kernel) (by decide) (Or.inl (by decide +kernel)) ⟨_, rfl, (by decide), ?_⟩
          refine x_retI (np := 79) (x := 0) (by decide +kernel) (by decide) (Or.inl (by decide +kernel)) (Or.inl ⟨_, rfl, (by decide), ?_⟩)
          exact ⟨j12, f16, (by first | decide | omega)⟩
        have q23 : ¬ (a2 ≠ 2147483646) := q23
        refine x_aload (np := 49) (x := 0) (by decide +kernel) rfl (x_nc_le (by decide)) ?_
        have q42 : h11 0 6 = 69 := by have z := jB (e := 6) 0 j12 rg_0_6_0_1 (by decide) (by decide); omega
        refine x_getR (np := 52) (x := 646) (f := 6) (q := 69) (by decide +kernel) (by decide) (by decide +kernel) q42 ?_
        refine x_getC (np := 55) (x := 776) (f := 8) (q := (h11 69 8)) (by decide +kernel) (by decide) (by decide +kernel) rfl (fun l43 => ?_)
        refine x_ifz (k := 1) (tg := 62) (np := 58) (by decide +kernel) (by decide) l43 (fun q44 => ?_) (fun q45 => ?_)
        · have q44 : (h11 69 8) ≠ 2147483648 := q44
          refine x_aload (np := 63) (x := 0) (by decide +kernel) rfl (x_nc_le (by decide)) ?_
          have q46 : h11 0 6 = 69 := by have z := jB (e := 6) 0 j12 rg_0_6_0_1 (by decide) (by decide); omega
          refine x_getR (np := 66) (x := 646) (f := 6) (q := 69) (by decide +kernel) (by decide) (by decide +kernel) q46 ?_
          refine x_getC (np := 69) (x := 776) (f := 8) (q := (h11 69 8)) (by decide +kernel) (by decide) (by decide +kernel) rfl (fun l47 => ?_)
          refine x_retI (np := 70) (x := 0) (by decide +kernel) l43 (Or.inl (by decide +kernel)) (Or.inl ⟨_, rfl, l43, ?_⟩)
          exact ⟨j12, f16, (by first | decide | omega)⟩
        have q45 : ¬ ((h11 69 8) ≠ 2147483648) := q45
        refine x_const (np := 59) (x := 9223372034707292159) (a := 2147483647) (by decide +kernel) (by decide) (by decide) ?_
        refine x_goto (np := 62) (x := 69) (by decide +kernel) ?_
        refine x_retI (np := 70) (x := 0) (by decide +kernel) (by decide) (Or.inl (by decide +kernel)) (Or.inl ⟨_, rfl, (by decide), ?_⟩)
        exact ⟨j12, f16, (by first | decide | omega)⟩
      have q21 : ¬ ((h11 69 9) = 2147483648) := q21
      refine x_const (np := 41) (x := 9223372026117357565) (a := 2147483645) (by decide +kernel) (by decide) (by decide) ?_
      refine x_retI (np := 42) (x := 0) (by decide +kernel) (by decide) (Or.inl (by decide +kernel)) (Or.inl ⟨_, rfl, (by decide), ?_⟩)
      exact ⟨j12, f16, (by first | decide | omega)⟩
    have q6 : ¬ (2147483646 ≤ a2) := q6
    refine x_thr (np := 13) (x := 0) (by decide +kernel) (by decide +kernel) (Nat.le_trans x_wn (by decide)) (Or.inr ⟨_, rfl, ?_⟩)
    exact ⟨hJ, hF, by decide⟩
  have q4 : ¬ (a1 < 2147483660) := q4
  refine x_thr (np := 13) (x := 2) (by decide +kernel) (by decide +kernel) (Nat.le_trans x_wn (by decide)) (Or.inr ⟨_, rfl, ?_⟩)
  refine Or.inr ⟨_, rfl, ?_⟩
  exact ⟨hJ, hF, by decide⟩
set_option maxHeartbeats 0 in
/-- LentNamesLaw.secrets(LLentNames;II[J)I -/
theorem c304_0_97 {sc : Nat × Nat} {d a1 a2 : Nat} {h : xh} (hJ : J h) (ba1 : 0 ≤ a1 ∧ a1 ≤ 4294967295) (ba2 : 0 ≤ a2 ∧ a2 ≤ 4294967295) : X sc 304 (d + 26) (xI fun r h' => J h' ∧ Fr 70368744243201 h h' ∧ (2147483648 ≤ r ∧ r ≤ 2147483650)) 0 0 0 [x_r 0, iv_c a1, iv_c a2, x_r 97, 147573952589676412928] [] h := by
  have la1 : a1 < 4294967296 := by first | decide | omega
  have la2 : a2 < 4294967296 := by first | decide | omega
  have hF := Fr.refl 70368744243201 h
  refine x_aload (np := 1) (x := 3) (by decide +kernel) rfl (x_nc_le (by decide)) ?_
  refine x_const (np := 2) (x := 9223372039002259456) (a := 2147483648) (by decide +kernel) (by decide) (by decide) ?_
  refine x_aload (np := 3) (x := 0) (by decide +kernel) rfl (x_nc_le (by decide)) ?_
  refine x_iload (np := 4) (x := 1) (by decide +kernel) rfl la1 ?_
  refine x_iload (np := 5) (x := 2) (by decide +kernel) rfl la2 ?_
  refine x_cT (t := 6) (mj := 136) (n := 3) (rc := 11) (ml := 3) (cc := 2) (ss := 12) (nr := 2) (np := 8) (as := [x_r 0, iv_c a1, iv_c a2]) (rest := [iv_c 2147483648, x_r 97]) (lo1 := [x_r 0, iv_c a1, iv_c a2]) (by decide +kernel) (by decide) (by decide +kernel) (x_rb_of (by decide +kernel)) rfl rfl (x_wr (by decide) (x_wi la1 (x_wi la2 x_wn))) (x_wi (by decide) (x_wr (by decide) x_wn)) (by decide) rfl (c136_0 hJ  (by first | decide | omega) (by first | decide | omega)) (fun v1 h4 l2 q3 => ?_) (fun E6 h7 q5 => ?_)
  · obtain ⟨j8, f9, b10⟩ := q3
    have f11 := Fr.trans hF f9 (by decide)
    refine x_i2l (np := 9) (x := 0) (by decide +kernel) l2 ?_
    refine x_last (np := 10) (x := 0) (n := 1) (i := 0) (by decide +kernel) (by decide) (by decide +kernel) (by decide +kernel) (by first | decide | omega) (by first | decide | omega) (by decide) l2 ?_
    have j13 := jU (e := 0) (v := v1) 0 j8 rg_97_0_1_1 (by first | decide | omega) (by first | decide | omega) (by first | decide | omega)
    have f15 := jF (e := 0) (v := v1) 0 f11 rg_97_0_1_1 (by first | decide | omega) (by first | decide | omega) (by decide)
    generalize e14 : x_up h4 97 0 v1 = h12 at j13 f15 ⊢
    refine x_goto (np := 13) (x := 21) (by decide +kernel) ?_
    refine x_const (np := 22) (x := 9223372039002259456) (a := 2147483648) (by decide +kernel) (by decide) (by decide) ?_
    refine x_retI (np := 23) (x := 0) (by decide +kernel) (by decide) (Or.inl (by decide +kernel)) ⟨_, rfl, (by decide), ?_⟩
    exact ⟨j13, f15, (by first | decide | omega)⟩
  obtain ⟨j16, f17, e18⟩ := q5
  have f19 := Fr.trans hF f17 (by decide)
  rcases e18 with rfl | rfl
  · refine ⟨17, fun _ _ => rfl, ?_⟩
    refine x_astE (np := 19) (x := 4) (lo' := [x_r 0, iv_c a1, iv_c a2, x_r 97, 55340232221128654850]) (by decide +kernel) (Nat.le_of_ble_eq_true rfl) rfl ?_
    refine x_const (np := 20) (x := 9223372047592194050) (a := 2147483650) (by decide +kernel) (by decide) (by decide) ?_
    refine x_retI (np := 21) (x := 0) (by decide +kernel) (by decide) (Or.inl (by decide +kernel)) ⟨_, rfl, (by decide), ?_⟩
    exact ⟨j16, f19, (by first | decide | omega)⟩
  · refine ⟨13, fun _ _ => rfl, ?_⟩
    refine x_astE (np := 15) (x := 4) (lo' := [x_r 0, iv_c a1, iv_c a2, x_r 97, 55340232221128654850]) (by decide +kernel) (Nat.le_of_ble_eq_true rfl) rfl ?_
    refine x_const (np := 16) (x := 9223372043297226753) (a := 2147483649) (by decide +kernel) (by decide) (by decide) ?_
    refine x_retI (np := 17) (x := 0) (by decide +kernel) (by decide) (Or.inl (by decide +kernel)) ⟨_, rfl, (by decide), ?_⟩
    exact ⟨j16, f19, (by first | decide | omega)⟩
set_option maxHeartbeats 0 in
/-- LentNames.liars(I)I -/
theorem c137_0 {sc : Nat × Nat} {d a1 : Nat} {h : xh} (hJ : J h) (ba1 : 0 ≤ a1 ∧ a1 ≤ 4294967295) : X sc 137 (d + 4) (xT (fun r h' => J h' ∧ Fr 0 h h' ∧ (0 ≤ r ∧ r ≤ 4294967295)) (fun E h' => J h' ∧ Fr 0 h h' ∧ (E = 2))) 0 0 0 [x_r 0, iv_c a1, 147573952589676412928, 147573952589676412928, 147573952589676412928, 147573952589676412928] [] h := by
  have la1 : a1 < 4294967296 := by first | decide | omega
  have hF := Fr.refl 0 h
  refine x_iload (np := 1) (x := 1) (by decide +kernel) rfl la1 ?_
  refine x_nU (t := 0) (mj := 146) (n := 1) (rc := 0) (ml := 1) (cc := 1) (ss := 6) (nr := 0) (np := 4) (as := [iv_c a1]) (rest := []) (lo1 := [iv_c a1]) (by decide +kernel) (by decide) (by decide +kernel) (by decide +kernel) (Or.inl rfl) rfl rfl (x_wi la1 x_wn) x_wn (by decide) rfl ?_
  refine x_iload (np := 1) (x := 0) (by decide +kernel) rfl la1 ?_
  refine x_ifz (k := 2) (tg := 10) (np := 4) (by decide +kernel) (by decide) la1 (fun q1 => ?_) (fun q2 => ?_)
  · have q1 : a1 < 2147483648 := q1
    refine x_thr (np := 13) (x := 2) (by decide +kernel) (by decide +kernel) (Nat.le_trans x_wn (by decide)) (Or.inr ⟨_, rfl, ?_⟩)
    refine Or.inr ⟨_, rfl, ?_⟩
    exact ⟨hJ, hF, by decide⟩
  have q2 : ¬ (a1 < 2147483648) := q2
  refine x_iload (np := 5) (x := 0) (by decide +kernel) rfl la1 ?_
  refine x_const (np := 7) (x := 9223372090541867020) (a := 2147483660) (by decide +kernel) (by decide) (by decide) ?_
  refine x_icmp (k := 2) (tg := 21) (np := 10) (by decide +kernel) (by decide) la1 (by decide) (fun q3 => ?_) (fun q4 => ?_)
  · have q3 : a1 < 2147483660 := q3
    refine x_retV (np := 22) (x := 0) (by decide +kernel) (by decide +kernel) (Or.inl ⟨rfl, ?_⟩)
    refine x_aload (np := 5) (x := 0) (by decide +kernel) rfl (x_nc_le (by decide)) ?_
    have t5 : tw (h 0 8) := hJ.2.1
    refine x_getR (np := 8) (x := 648) (f := 8) (q := (h 0 8)) (by decide +kernel) (by decide) (by decide +kernel) rfl ?_
    refine x_iload (np := 9) (x := 1) (by decide +kernel) rfl la1 ?_
    refine x_cP (t := 6) (mj := 87) (n := 2) (rc := 9) (ml := 4) (nr := 0) (np := 12) (as := [x_r (h 0 8), iv_c a1]) (rest := []) (lo1 := [x_r (h 0 8), iv_c a1, 147573952589676412928, 147573952589676412928]) (by decide +kernel) (by decide) (by decide +kernel) (x_rb_of (tr_0_9 t5)) rfl rfl (x_wr (tn_0 t5) (x_wi la1 x_wn)) x_wn (by decide) rfl (c87_T0 hJ t5 (by first | decide | omega)) (fun v6 l7 q8 => ?_)
    refine x_istore (np := 13) (x := 2) (lo' := [x_r 0, iv_c a1, iv_c v6, 147573952589676412928, 147573952589676412928, 147573952589676412928]) (by decide +kernel) l7 (Nat.le_of_ble_eq_true rfl) rfl ?_
    refine x_iload (np := 14) (x := 2) (by decide +kernel) rfl l7 ?_
    refine x_aload (np := 15) (x := 0) (by decide +kernel) rfl (x_nc_le (by decide)) ?_
    refine x_cP (t := 6) (mj := 134) (n := 1) (rc := 11) (ml := 3) (nr := 1) (np := 18) (as := [x_r 0]) (rest := [iv_c v6]) (lo1 := [x_r 0, 147573952589676412928, 147573952589676412928]) (by decide +kernel) (by decide) (by decide +kernel) (x_rb_of (by decide +kernel)) rfl rfl (x_wr (by decide) x_wn) (x_wi l7 x_wn) (by decide) rfl (c134_0 hJ ) (fun v9 l10 q11 => ?_)
    refine x_const (np := 19) (x := 9223372034707292159) (a := 2147483647) (by decide +kernel) (by decide) (by decide) ?_
    refine x_any (np := 20) (k9 := 2) (by decide +kernel) (by decide) l10 (by decide) (fun v12 l13 => ?_)
    refine x_any (np := 21) (k9 := 0) (by decide +kernel) (by decide) l7 l13 (fun v14 l15 => ?_)
    refine x_istore (np := 22) (x := 3) (lo' := [x_r 0, iv_c a1, iv_c v6, iv_c v14, 147573952589676412928, 147573952589676412928]) (by decide +kernel) l15 (Nat.le_of_ble_eq_true rfl) rfl ?_
    refine x_const (np := 23) (x := 9223372039002259456) (a := 2147483648) (by decide +kernel) (by decide) (by decide) ?_
    refine x_istore (np := 25) (x := 4) (lo' := [x_r 0, iv_c a1, iv_c v6, iv_c v14, iv_c 2147483648, 147573952589676412928]) (by decide +kernel) (by decide) (Nat.le_of_ble_eq_true rfl) rfl ?_
    refine x_const (np := 26) (x := 9223372039002259456) (a := 2147483648) (by decide +kernel) (by decide) (by decide) ?_
    refine x_istore (np := 28) (x := 5) (lo' := [x_r 0, iv_c a1, iv_c v6, iv_c v14, iv_c 2147483648, iv_c 2147483648]) (by decide +kernel) (by decide) (Nat.le_of_ble_eq_true rfl) rfl ?_
    have p254 : ∀ (n : Nat) (v250 : Nat) (v252 : Nat), 4294967296 - v252 < n → (0 ≤ v250 ∧ v250 ≤ 4294967295) → (2147483648 ≤ v252 ∧ v252 ≤ 2147483658) → X sc 137 (d + 4) (xT (fun r h' => J h' ∧ Fr 0 h h' ∧ (0 ≤ r ∧ r ≤ 4294967295)) (fun E h' => J h' ∧ Fr 0 h h' ∧ (E = 2))) 1 6 28 [x_r 0, iv_c a1, iv_c v6, iv_c v14, iv_c v250, iv_c v252] [] h := by
      intro n
      induction n with
      | zero => intro v250 v252 q255; exact absurd q255 (Nat.not_lt_zero _)
      | succ n i256 =>
        intro v250 v252 q255 b251 b253
        refine x_iload (np := 30) (x := 5) (by decide +kernel) rfl (by first | decide | omega) ?_
        refine x_aload (np := 31) (x := 0) (by decide +kernel) rfl (x_nc_le (by decide)) ?_
        refine x_getR (np := 34) (x := 648) (f := 8) (q := (h 0 8)) (by decide +kernel) (by decide) (by decide +kernel) rfl ?_
        have q257 : h (h 0 8) 3 = ((h 0 8) + 7) := tf_0_3 hJ t5
        refine x_getR (np := 37) (x := 515) (f := 3) (q := ((h 0 8) + 7)) (by decide +kernel) (by decide) (tg_0_515_3_1 t5) q257 ?_
        have b258 := jB (e := 2) 0 hJ (rg_T7_2_0_1 t5) (by first | decide | omega) (by first | decide | omega)
        refine x_getC (np := 40) (x := 386) (f := 2) (q := (h ((h 0 8) + 7) 2)) (by decide +kernel) (by decide) (tg_7_386_2_0 t5) rfl (fun l259 => ?_)
        refine x_icmp (k := 3) (tg := 78) (np := 43) (by decide +kernel) (by decide) (by first | decide | omega) l259 (fun q260 => ?_) (fun q261 => ?_)
        · have q260 : (h ((h 0 8) + 7) 2) ≤ v252 := q260
          refine x_iload (np := 80) (x := 4) (by decide +kernel) rfl (by first | decide | omega) ?_
          refine x_retI (np := 81) (x := 0) (by decide +kernel) (by first | decide | omega) (Or.inl (by decide +kernel)) (Or.inl ⟨_, rfl, (by first | decide | omega), ?_⟩)
          exact ⟨hJ, hF, (by first | decide | omega)⟩
        have q261 : ¬ ((h ((h 0 8) + 7) 2) ≤ v252) := q261
        refine x_iload (np := 44) (x := 2) (by decide +kernel) rfl l7 ?_
        refine x_iload (np := 46) (x := 5) (by decide +kernel) rfl (by first | decide | omega) ?_
        refine x_cP (t := 0) (mj := 148) (n := 2) (rc := 0) (ml := 2) (nr := 0) (np := 49) (as := [iv_c v6, iv_c v252]) (rest := []) (lo1 := [iv_c v6, iv_c v252]) (by decide +kernel) (by decide) (by decide +kernel) (Or.inl rfl) rfl rfl (x_wi l7 (x_wi (by first | decide | omega) x_wn)) x_wn (by decide) rfl (c148 hJ (by first | decide | omega) (by first | decide | omega)) (fun v262 l263 q264 => ?_)
        refine x_ifz (k := 0) (tg := 72) (np := 52) (by decide +kernel) (by decide) l263 (fun q265 => ?_) (fun q266 => ?_)
        · have q265 : v262 = 2147483648 := q265
          refine x_iinc (np := 75) (i := 5) (j := 2147483649) (v := (1 + v252)) (lo' := [x_r 0, iv_c a1, iv_c v6, iv_c v14, iv_c v250, iv_c (1 + v252)]) (by decide +kernel) (by decide) (by decide) rfl (by first | decide | omega) (by first | decide | omega) (by first | decide | omega) rfl ?_
          refine x_goto (np := 78) (x := 28) (by decide +kernel) ?_
          exact i256 v250 (1 + v252) (by first | decide | omega) (by first | decide | omega) (by first | decide | omega)
        have q266 : ¬ (v262 = 2147483648) := q266
        refine x_iload (np := 53) (x := 3) (by decide +kernel) rfl l15 ?_
        refine x_const (np := 54) (x := 9223372043297226753) (a := 2147483649) (by decide +kernel) (by decide) (by decide) ?_
        refine x_iload (np := 56) (x := 5) (by decide +kernel) rfl (by first | decide | omega) ?_
        refine x_any (np := 57) (k9 := 3) (by decide +kernel) (by decide) (by decide) (by first | decide | omega) (fun v267 l268 => ?_)
        refine x_const (np := 58) (x := 9223372034707292159) (a := 2147483647) (by decide +kernel) (by decide) (by decide) ?_
        refine x_any (np := 59) (k9 := 2) (by decide +kernel) (by decide) l268 (by decide) (fun v269 l270 => ?_)
        refine x_any (np := 60) (k9 := 0) (by decide +kernel) (by decide) l15 l270 (fun v271 l272 => ?_)
        refine x_ifz (k := 1) (tg := 72) (np := 63) (by decide +kernel) (by decide) l272 (fun q273 => ?_) (fun q274 => ?_)
        · have q273 : v271 ≠ 2147483648 := q273
          refine x_iinc (np := 75) (i := 5) (j := 2147483649) (v := (1 + v252)) (lo' := [x_r 0, iv_c a1, iv_c v6, iv_c v14, iv_c v250, iv_c (1 + v252)]) (by decide +kernel) (by decide) (by decide) rfl (by first | decide | omega) (by first | decide | omega) (by first | decide | omega) rfl ?_
          refine x_goto (np := 78) (x := 28) (by decide +kernel) ?_
          exact i256 v250 (1 + v252) (by first | decide | omega) (by first | decide | omega) (by first | decide | omega)
        have q274 : ¬ (v271 ≠ 2147483648) := q274
        refine x_iload (np := 65) (x := 4) (by decide +kernel) rfl (by first | decide | omega) ?_
        refine x_const (np := 66) (x := 9223372043297226753) (a := 2147483649) (by decide +kernel) (by decide) (by decide) ?_
        refine x_iload (np := 68) (x := 5) (by decide +kernel) rfl (by first | decide | omega) ?_
        refine x_any (np := 69) (k9 := 3) (by decide +kernel) (by decide) (by decide) (by first | decide | omega) (fun v275 l276 => ?_)
        refine x_any (np := 70) (k9 := 1) (by decide +kernel) (by decide) (by first | decide | omega) l276 (fun v277 l278 => ?_)
        refine x_istore (np := 72) (x := 4) (lo' := [x_r 0, iv_c a1, iv_c v6, iv_c v14, iv_c v277, iv_c v252]) (by decide +kernel) l278 (Nat.le_of_ble_eq_true rfl) rfl ?_
        refine x_iinc (np := 75) (i := 5) (j := 2147483649) (v := (1 + v252)) (lo' := [x_r 0, iv_c a1, iv_c v6, iv_c v14, iv_c v277, iv_c (1 + v252)]) (by decide +kernel) (by decide) (by decide) rfl (by first | decide | omega) (by first | decide | omega) (by first | decide | omega) rfl ?_
        refine x_goto (np := 78) (x := 28) (by decide +kernel) ?_
        exact i256 v277 (1 + v252) (by first | decide | omega) (by first | decide | omega) (by first | decide | omega)
    exact p254 _ 2147483648 2147483648 (Nat.lt_succ_self _) (by first | decide | omega) (by first | decide | omega)
  have q4 : ¬ (a1 < 2147483660) := q4
  refine x_thr (np := 13) (x := 2) (by decide +kernel) (by decide +kernel) (Nat.le_trans x_wn (by decide)) (Or.inr ⟨_, rfl, ?_⟩)
  refine Or.inr ⟨_, rfl, ?_⟩
  exact ⟨hJ, hF, by decide⟩
set_option maxHeartbeats 0 in
/-- LentNamesLaw.liars(LLentNames;I[J)I -/
theorem c305_0_97 {sc : Nat × Nat} {d a1 : Nat} {h : xh} (hJ : J h) (ba1 : 0 ≤ a1 ∧ a1 ≤ 4294967295) : X sc 305 (d + 5) (xI fun r h' => J h' ∧ Fr 70368744177664 h h' ∧ (2147483648 ≤ r ∧ r ≤ 2147483649)) 0 0 0 [x_r 0, iv_c a1, x_r 97, 147573952589676412928] [] h := by
  have la1 : a1 < 4294967296 := by first | decide | omega
  have hF := Fr.refl 70368744177664 h
  refine x_aload (np := 1) (x := 2) (by decide +kernel) rfl (x_nc_le (by decide)) ?_
  refine x_const (np := 2) (x := 9223372039002259456) (a := 2147483648) (by decide +kernel) (by decide) (by decide) ?_
  refine x_aload (np := 3) (x := 0) (by decide +kernel) rfl (x_nc_le (by decide)) ?_
  refine x_iload (np := 4) (x := 1) (by decide +kernel) rfl la1 ?_
  refine x_cT (t := 6) (mj := 137) (n := 2) (rc := 11) (ml := 6) (cc := 1) (ss := 6) (nr := 2) (np := 7) (as := [x_r 0, iv_c a1]) (rest := [iv_c 2147483648, x_r 97]) (lo1 := [x_r 0, iv_c a1, 147573952589676412928, 147573952589676412928, 147573952589676412928, 147573952589676412928]) (by decide +kernel) (by decide) (by decide +kernel) (x_rb_of (by decide +kernel)) rfl rfl (x_wr (by decide) (x_wi la1 x_wn)) (x_wi (by decide) (x_wr (by decide) x_wn)) (by decide) rfl (c137_0 hJ  (by first | decide | omega)) (fun v1 h4 l2 q3 => ?_) (fun E6 h7 q5 => ?_)
  · obtain ⟨j8, f9, b10⟩ := q3
    have f11 := Fr.trans hF f9 (by decide)
    refine x_i2l (np := 8) (x := 0) (by decide +kernel) l2 ?_
    refine x_last (np := 9) (x := 0) (n := 1) (i := 0) (by decide +kernel) (by decide) (by decide +kernel) (by decide +kernel) (by first | decide | omega) (by first | decide | omega) (by decide) l2 ?_
    have j13 := jU (e := 0) (v := v1) 0 j8 rg_97_0_1_1 (by first | decide | omega) (by first | decide | omega) (by first | decide | omega)
    have f15 := jF (e := 0) (v := v1) 0 f11 rg_97_0_1_1 (by first | decide | omega) (by first | decide | omega) (by decide)
    generalize e14 : x_up h4 97 0 v1 = h12 at j13 f15 ⊢
    refine x_goto (np := 12) (x := 15) (by decide +kernel) ?_
    refine x_const (np := 16) (x := 9223372039002259456) (a := 2147483648) (by decide +kernel) (by decide) (by decide) ?_
    refine x_retI (np := 17) (x := 0) (by decide +kernel) (by decide) (Or.inl (by decide +kernel)) ⟨_, rfl, (by decide), ?_⟩
    exact ⟨j13, f15, (by first | decide | omega)⟩
  obtain ⟨j16, f17, e18⟩ := q5
  have f19 := Fr.trans hF f17 (by decide)
  rcases e18 with rfl
  · refine ⟨12, fun _ _ => rfl, ?_⟩
    refine x_astE (np := 13) (x := 3) (lo' := [x_r 0, iv_c a1, x_r 97, 55340232221128654850]) (by decide +kernel) (Nat.le_of_ble_eq_true rfl) rfl ?_
    refine x_const (np := 14) (x := 9223372043297226753) (a := 2147483649) (by decide +kernel) (by decide) (by decide) ?_
    refine x_retI (np := 15) (x := 0) (by decide +kernel) (by decide) (Or.inl (by decide +kernel)) ⟨_, rfl, (by decide), ?_⟩
    exact ⟨j16, f19, (by first | decide | omega)⟩
set_option maxHeartbeats 0 in
/-- LentNames.rich(I)I -/
theorem c117_0 {sc : Nat × Nat} {d a1 : Nat} {h : xh} (hJ : J h) (ba1 : 0 ≤ a1 ∧ a1 ≤ 4294967295) : X sc 117 (d + 3) (xT (fun r h' => J h' ∧ Fr 0 h h' ∧ (0 ≤ r ∧ r ≤ 4294967295)) (fun E h' => J h' ∧ Fr 0 h h' ∧ (E = 2))) 0 0 0 [x_r 0, iv_c a1, 147573952589676412928, 147573952589676412928] [] h := by
  have la1 : a1 < 4294967296 := by first | decide | omega
  have hF := Fr.refl 0 h
  refine x_iload (np := 1) (x := 1) (by decide +kernel) rfl la1 ?_
  refine x_nU (t := 0) (mj := 146) (n := 1) (rc := 0) (ml := 1) (cc := 1) (ss := 6) (nr := 0) (np := 4) (as := [iv_c a1]) (rest := []) (lo1 := [iv_c a1]) (by decide +kernel) (by decide) (by decide +kernel) (by decide +kernel) (Or.inl rfl) rfl rfl (x_wi la1 x_wn) x_wn (by decide) rfl ?_
  refine x_iload (np := 1) (x := 0) (by decide +kernel) rfl la1 ?_
  refine x_ifz (k := 2) (tg := 10) (np := 4) (by decide +kernel) (by decide) la1 (fun q1 => ?_) (fun q2 => ?_)
  · have q1 : a1 < 2147483648 := q1
    refine x_thr (np := 13) (x := 2) (by decide +kernel) (by decide +kernel) (Nat.le_trans x_wn (by decide)) (Or.inr ⟨_, rfl, ?_⟩)
    refine Or.inr ⟨_, rfl, ?_⟩
    exact ⟨hJ, hF, by decide⟩
  have q2 : ¬ (a1 < 2147483648) := q2
  refine x_iload (np := 5) (x := 0) (by decide +kernel) rfl la1 ?_
  refine x_const (np := 7) (x := 9223372090541867020) (a := 2147483660) (by decide +kernel) (by decide) (by decide) ?_
  refine x_icmp (k := 2) (tg := 21) (np := 10) (by decide +kernel) (by decide) la1 (by decide) (fun q3 => ?_) (fun q4 => ?_)
  · have q3 : a1 < 2147483660 := q3
    refine x_retV (np := 22) (x := 0) (by decide +kernel) (by decide +kernel) (Or.inl ⟨rfl, ?_⟩)
    refine x_const (np := 5) (x := 9223372039002259456) (a := 2147483648) (by decide +kernel) (by decide) (by decide) ?_
    refine x_istore (np := 6) (x := 2) (lo' := [x_r 0, iv_c a1, iv_c 2147483648, 147573952589676412928]) (by decide +kernel) (by decide) (Nat.le_of_ble_eq_true rfl) rfl ?_
    refine x_const (np := 7) (x := 9223372039002259456) (a := 2147483648) (by decide +kernel) (by decide) (by decide) ?_
    refine x_istore (np := 8) (x := 3) (lo' := [x_r 0, iv_c a1, iv_c 2147483648, iv_c 2147483648]) (by decide +kernel) (by decide) (Nat.le_of_ble_eq_true rfl) rfl ?_
    have p303 : ∀ (n : Nat) (v299 : Nat) (v301 : Nat), 4294967296 - v301 < n → (0 ≤ v299 ∧ v299 ≤ 4294967295) → (2147483648 ≤ v301 ∧ v301 ≤ 2147483654) → X sc 117 (d + 3) (xT (fun r h' => J h' ∧ Fr 0 h h' ∧ (0 ≤ r ∧ r ≤ 4294967295)) (fun E h' => J h' ∧ Fr 0 h h' ∧ (E = 2))) 1 6 8 [x_r 0, iv_c a1, iv_c v299, iv_c v301] [] h := by
      intro n
      induction n with
      | zero => intro v299 v301 q304; exact absurd q304 (Nat.not_lt_zero _)
      | succ n i305 =>
        intro v299 v301 q304 b300 b302
        refine x_iload (np := 9) (x := 3) (by decide +kernel) rfl (by first | decide | omega) ?_
        refine x_aload (np := 10) (x := 0) (by decide +kernel) rfl (x_nc_le (by decide)) ?_
        have t306 : tw (h 0 8) := hJ.2.1
        refine x_getR (np := 13) (x := 648) (f := 8) (q := (h 0 8)) (by decide +kernel) (by decide) (by decide +kernel) rfl ?_
        have b307 := jB (e := 7) 0 hJ (rg_T0_7_0_1 t306) (by first | decide | omega) (by first | decide | omega)
        refine x_getC (np := 16) (x := 519) (f := 7) (q := (h (h 0 8) 7)) (by decide +kernel) (by decide) (tg_0_519_7_0 t306) rfl (fun l308 => ?_)
        refine x_icmp (k := 3) (tg := 47) (np := 19) (by decide +kernel) (by decide) (by first | decide | omega) l308 (fun q309 => ?_) (fun q310 => ?_)
        · have q309 : (h (h 0 8) 7) ≤ v301 := q309
          refine x_iload (np := 48) (x := 2) (by decide +kernel) rfl (by first | decide | omega) ?_
          refine x_retI (np := 49) (x := 0) (by decide +kernel) (by first | decide | omega) (Or.inl (by decide +kernel)) (Or.inl ⟨_, rfl, (by first | decide | omega), ?_⟩)
          exact ⟨hJ, hF, (by first | decide | omega)⟩
        have q310 : ¬ ((h (h 0 8) 7) ≤ v301) := q310
        refine x_aload (np := 20) (x := 0) (by decide +kernel) rfl (x_nc_le (by decide)) ?_
        have q311 : h 0 1 = 45 := by have z := jB (e := 1) 0 hJ rg_0_1_0_1 (by decide) (by decide); omega
        refine x_getR (np := 23) (x := 641) (f := 1) (q := 45) (by decide +kernel) (by decide) (by decide +kernel) q311 ?_
        refine x_iload (np := 24) (x := 3) (by decide +kernel) rfl (by first | decide | omega) ?_
        refine x_iload (np := 25) (x := 1) (by decide +kernel) rfl la1 ?_
        refine x_cP (t := 6) (mj := 8) (n := 3) (rc := 2) (ml := 5) (nr := 0) (np := 28) (as := [x_r 45, iv_c v301, iv_c a1]) (rest := []) (lo1 := [x_r 45, iv_c v301, iv_c a1, 147573952589676412928, 147573952589676412928]) (by decide +kernel) (by decide) (by decide +kernel) (x_rb_of (by decide +kernel)) rfl rfl (x_wr (by decide) (x_wi (by first | decide | omega) (x_wi la1 x_wn))) x_wn (by decide) rfl (c8_45 hJ  (by first | decide | omega) (by first | decide | omega)) (fun v312 l313 q314 => ?_)
        refine x_nI (t := 7) (mj := 310) (n := 1) (rc := 0) (ml := 1) (nr := 0) (np := 31) (as := [iv_c v312]) (rest := []) (lo1 := [iv_c v312]) (by decide +kernel) (by decide) (by decide +kernel) (Or.inl rfl) rfl rfl (x_wi l313 x_wn) x_wn (by decide) rfl ?_
        refine x_iload (np := 1) (x := 0) (by decide +kernel) rfl l313 ?_
        refine x_iload (np := 2) (x := 0) (by decide +kernel) rfl l313 ?_
        refine x_const (np := 3) (x := 9223372043297226753) (a := 2147483649) (by decide +kernel) (by decide) (by decide) ?_
        refine x_any (np := 4) (k9 := 5) (by decide +kernel) (by decide) l313 (by decide) (fun v315 l316 => ?_)
        refine x_const (np := 7) (x := 15372286730238776661) (a := 3579139413) (by decide +kernel) (by decide) (by decide) ?_
        refine x_any (np := 8) (k9 := 0) (by decide +kernel) (by decide) l316 (by decide) (fun v317 l318 => ?_)
        refine x_subA (by rw [tb_b310]; decide +kernel) l313 l318 (fun v319 l320 => ?_)
        refine x_istore (np := 10) (x := 0) (lo' := [iv_c v319]) (by decide +kernel) l320 (Nat.le_of_ble_eq_true rfl) rfl ?_
        refine x_iload (np := 11) (x := 0) (by decide +kernel) rfl l320 ?_
        refine x_const (np := 14) (x := 12912720853744169779) (a := 3006477107) (by decide +kernel) (by decide) (by decide) ?_
        refine x_any (np := 15) (k9 := 0) (by decide +kernel) (by decide) l320 (by decide) (fun v321 l322 => ?_)
        refine x_iload (np := 16) (x := 0) (by decide +kernel) rfl l320 ?_
        refine x_const (np := 17) (x := 9223372047592194050) (a := 2147483650) (by decide +kernel) (by decide) (by decide) ?_
        refine x_any (np := 18) (k9 := 5) (by decide +kernel) (by decide) l320 (by decide) (fun v323 l324 => ?_)
        refine x_const (np := 21) (x := 12912720853744169779) (a := 3006477107) (by decide +kernel) (by decide) (by decide) ?_
        refine x_any (np := 22) (k9 := 0) (by decide +kernel) (by decide) l324 (by decide) (fun v325 l326 => ?_)
        refine x_addA (by rw [tb_b310]; decide +kernel) l322 l326 (fun v327 l328 => ?_)
        refine x_istore (np := 24) (x := 0) (lo' := [iv_c v327]) (by decide +kernel) l328 (Nat.le_of_ble_eq_true rfl) rfl ?_
        refine x_iload (np := 25) (x := 0) (by decide +kernel) rfl l328 ?_
        refine x_iload (np := 26) (x := 0) (by decide +kernel) rfl l328 ?_
        refine x_const (np := 27) (x := 9223372056182128644) (a := 2147483652) (by decide +kernel) (by decide) (by decide) ?_
        refine x_any (np := 28) (k9 := 5) (by decide +kernel) (by decide) l328 (by decide) (fun v329 l330 => ?_)
        refine x_addA (by rw [tb_b310]; decide +kernel) l328 l330 (fun v331 l332 => ?_)
        refine x_const (np := 32) (x := 10308474631573409551) (a := 2400128783) (by decide +kernel) (by decide) (by decide) ?_
        refine x_any (np := 33) (k9 := 0) (by decide +kernel) (by decide) l332 (by decide) (fun v333 l334 => ?_)
        refine x_istore (np := 34) (x := 0) (lo' := [iv_c v333]) (by decide +kernel) l334 (Nat.le_of_ble_eq_true rfl) rfl ?_
        refine x_iload (np := 35) (x := 0) (by decide +kernel) rfl l334 ?_
        refine x_iload (np := 36) (x := 0) (by decide +kernel) rfl l334 ?_
        refine x_const (np := 38) (x := 9223372073361997832) (a := 2147483656) (by decide +kernel) (by decide) (by decide) ?_
        refine x_any (np := 39) (k9 := 5) (by decide +kernel) (by decide) l334 (by decide) (fun v335 l336 => ?_)
        refine x_addA (by rw [tb_b310]; decide +kernel) l334 l336 (fun v337 l338 => ?_)
        refine x_istore (np := 41) (x := 0) (lo' := [iv_c v337]) (by decide +kernel) l338 (Nat.le_of_ble_eq_true rfl) rfl ?_
        refine x_iload (np := 42) (x := 0) (by decide +kernel) rfl l338 ?_
        refine x_iload (np := 43) (x := 0) (by decide +kernel) rfl l338 ?_
        refine x_const (np := 45) (x := 9223372107721736208) (a := 2147483664) (by decide +kernel) (by decide) (by decide) ?_
        refine x_any (np := 46) (k9 := 5) (by decide +kernel) (by decide) l338 (by decide) (fun v339 l340 => ?_)
        refine x_addA (by rw [tb_b310]; decide +kernel) l338 l340 (fun v341 l342 => ?_)
        refine x_istore (np := 48) (x := 0) (lo' := [iv_c v341]) (by decide +kernel) l342 (Nat.le_of_ble_eq_true rfl) rfl ?_
        refine x_iload (np := 49) (x := 0) (by decide +kernel) rfl l342 ?_
        refine x_const (np := 51) (x := 9223372309585199167) (a := 2147483711) (by decide +kernel) (by decide) (by decide) ?_
        refine x_mask (np := 52) (m := 6) (k9 := 64) (by decide +kernel) l342 (by decide +kernel) (by decide) (by decide) (by decide) (fun u343 l344 => ?_)
        refine x_retI (np := 53) (x := 0) (by decide +kernel) (by first | decide | omega) (Or.inl (by decide +kernel)) ⟨_, rfl, (by first | decide | omega), ?_⟩
        refine x_const (np := 32) (x := 9223372047592194050) (a := 2147483650) (by decide +kernel) (by decide) (by decide) ?_
        refine x_icmp (k := 2) (tg := 41) (np := 35) (by decide +kernel) (by decide) (by first | decide | omega) (by decide) (fun q345 => ?_) (fun q346 => ?_)
        · have q345 : (2147483648 + u343) < 2147483650 := q345
          refine x_iinc (np := 44) (i := 3) (j := 2147483649) (v := (1 + v301)) (lo' := [x_r 0, iv_c a1, iv_c v299, iv_c (1 + v301)]) (by decide +kernel) (by decide) (by decide) rfl (by first | decide | omega) (by first | decide | omega) (by first | decide | omega) rfl ?_
          refine x_goto (np := 47) (x := 8) (by decide +kernel) ?_
          exact i305 v299 (1 + v301) (by first | decide | omega) (by first | decide | omega) (by first | decide | omega)
        have q346 : ¬ ((2147483648 + u343) < 2147483650) := q346
        refine x_iload (np := 36) (x := 2) (by decide +kernel) rfl (by first | decide | omega) ?_
        refine x_const (np := 37) (x := 9223372043297226753) (a := 2147483649) (by decide +kernel) (by decide) (by decide) ?_
        refine x_iload (np := 38) (x := 3) (by decide +kernel) rfl (by first | decide | omega) ?_
        refine x_any (np := 39) (k9 := 3) (by decide +kernel) (by decide) (by decide) (by first | decide | omega) (fun v347 l348 => ?_)
        refine x_any (np := 40) (k9 := 1) (by decide +kernel) (by decide) (by first | decide | omega) l348 (fun v349 l350 => ?_)
        refine x_istore (np := 41) (x := 2) (lo' := [x_r 0, iv_c a1, iv_c v349, iv_c v301]) (by decide +kernel) l350 (Nat.le_of_ble_eq_true rfl) rfl ?_
        refine x_iinc (np := 44) (i := 3) (j := 2147483649) (v := (1 + v301)) (lo' := [x_r 0, iv_c a1, iv_c v349, iv_c (1 + v301)]) (by decide +kernel) (by decide) (by decide) rfl (by first | decide | omega) (by first | decide | omega) (by first | decide | omega) rfl ?_
        refine x_goto (np := 47) (x := 8) (by decide +kernel) ?_
        exact i305 v349 (1 + v301) (by first | decide | omega) (by first | decide | omega) (by first | decide | omega)
    exact p303 _ 2147483648 2147483648 (Nat.lt_succ_self _) (by first | decide | omega) (by first | decide | omega)
  have q4 : ¬ (a1 < 2147483660) := q4
  refine x_thr (np := 13) (x := 2) (by decide +kernel) (by decide +kernel) (Nat.le_trans x_wn (by decide)) (Or.inr ⟨_, rfl, ?_⟩)
  refine Or.inr ⟨_, rfl, ?_⟩
  exact ⟨hJ, hF, by decide⟩
set_option maxHeartbeats 0 in
/-- LentNamesLaw.rich(LLentNames;I[J)I -/
theorem c306_0_97 {sc : Nat × Nat} {d a1 : Nat} {h : xh} (hJ : J h) (ba1 : 0 ≤ a1 ∧ a1 ≤ 4294967295) : X sc 306 (d + 4) (xI fun r h' => J h' ∧ Fr 70368744177664 h h' ∧ (2147483648 ≤ r ∧ r ≤ 2147483649)) 0 0 0 [x_r 0, iv_c a1, x_r 97, 147573952589676412928] [] h := by
  have la1 : a1 < 4294967296 := by first | decide | omega
  have hF := Fr.refl 70368744177664 h
  refine x_aload (np := 1) (x := 2) (by decide +kernel) rfl (x_nc_le (by decide)) ?_
  refine x_const (np := 2) (x := 9223372039002259456) (a := 2147483648) (by decide +kernel) (by decide) (by decide) ?_
  refine x_aload (np := 3) (x := 0) (by decide +kernel) rfl (x_nc_le (by decide)) ?_
  refine x_iload (np := 4) (x := 1) (by decide +kernel) rfl la1 ?_
  refine x_cT (t := 6) (mj := 117) (n := 2) (rc := 11) (ml := 4) (cc := 1) (ss := 6) (nr := 2) (np := 7) (as := [x_r 0, iv_c a1]) (rest := [iv_c 2147483648, x_r 97]) (lo1 := [x_r 0, iv_c a1, 147573952589676412928, 147573952589676412928]) (by decide +kernel) (by decide) (by decide +kernel) (x_rb_of (by decide +kernel)) rfl rfl (x_wr (by decide) (x_wi la1 x_wn)) (x_wi (by decide) (x_wr (by decide) x_wn)) (by decide) rfl (c117_0 hJ  (by first | decide | omega)) (fun v1 h4 l2 q3 => ?_) (fun E6 h7 q5 => ?_)
  · obtain ⟨j8, f9, b10⟩ := q3
    have f11 := Fr.trans hF f9 (by decide)
    refine x_i2l (np := 8) (x := 0) (by decide +kernel) l2 ?_
    refine x_last (np := 9) (x := 0) (n := 1) (i := 0) (by decide +kernel) (by decide) (by decide +kernel) (by decide +kernel) (by first | decide | omega) (by first | decide | omega) (by decide) l2 ?_
    have j13 := jU (e := 0) (v := v1) 0 j8 rg_97_0_1_1 (by first | decide | omega) (by first | decide | omega) (by first | decide | omega)
    have f15 := jF (e := 0) (v := v1) 0 f11 rg_97_0_1_1 (by first | decide | omega) (by first | decide | omega) (by decide)
    generalize e14 : x_up h4 97 0 v1 = h12 at j13 f15 ⊢
    refine x_goto (np := 12) (x := 15) (by decide +kernel) ?_
    refine x_const (np := 16) (x := 9223372039002259456) (a := 2147483648) (by decide +kernel) (by decide) (by decide) ?_
    refine x_retI (np := 17) (x := 0) (by decide +kernel) (by decide) (Or.inl (by decide +kernel)) ⟨_, rfl, (by decide), ?_⟩
    exact ⟨j13, f15, (by first | decide | omega)⟩
  obtain ⟨j16, f17, e18⟩ := q5
  have f19 := Fr.trans hF f17 (by decide)
  rcases e18 with rfl
  · refine ⟨12, fun _ _ => rfl, ?_⟩
    refine x_astE (np := 13) (x := 3) (lo' := [x_r 0, iv_c a1, x_r 97, 55340232221128654850]) (by decide +kernel) (Nat.le_of_ble_eq_true rfl) rfl ?_
    refine x_const (np := 14) (x := 9223372043297226753) (a := 2147483649) (by decide +kernel) (by decide) (by decide) ?_
    refine x_retI (np := 15) (x := 0) (by decide +kernel) (by decide) (Or.inl (by decide +kernel)) ⟨_, rfl, (by decide), ?_⟩
    exact ⟨j16, f19, (by first | decide | omega)⟩
set_option maxHeartbeats 0 in
/-- LentNames.borne(II)I -/
theorem c118_0 {sc : Nat × Nat} {d a1 a2 : Nat} {h : xh} (hJ : J h) (ba1 : 0 ≤ a1 ∧ a1 ≤ 4294967295) (ba2 : 0 ≤ a2 ∧ a2 ≤ 4294967295) : X sc 118 (d + 1) (xT (fun r h' => J h' ∧ Fr 0 h h' ∧ (2147483648 ≤ r ∧ r ≤ 2147483711)) (fun E h' => J h' ∧ Fr 0 h h' ∧ (E = 2))) 0 0 0 [x_r 0, iv_c a1, iv_c a2] [] h := by
  have la1 : a1 < 4294967296 := by first | decide | omega
  have la2 : a2 < 4294967296 := by first | decide | omega
  have hF := Fr.refl 0 h
  refine x_aload (np := 1) (x := 0) (by decide +kernel) rfl (x_nc_le (by decide)) ?_
  refine x_iload (np := 2) (x := 1) (by decide +kernel) rfl la1 ?_
  refine x_nU (t := 6) (mj := 144) (n := 2) (rc := 11) (ml := 2) (cc := 1) (ss := 6) (nr := 0) (np := 5) (as := [x_r 0, iv_c a1]) (rest := []) (lo1 := [x_r 0, iv_c a1]) (by decide +kernel) (by decide) (by decide +kernel) (by decide +kernel) (x_rb_of (by decide +kernel)) rfl rfl (x_wr (by decide) (x_wi la1 x_wn)) x_wn (by decide) rfl ?_
  refine x_iload (np := 1) (x := 1) (by decide +kernel) rfl la1 ?_
  refine x_ifz (k := 2) (tg := 15) (np := 4) (by decide +kernel) (by decide) la1 (fun q1 => ?_) (fun q2 => ?_)
  · have q1 : a1 < 2147483648 := q1
    refine x_thr (np := 18) (x := 2) (by decide +kernel) (by decide +kernel) (Nat.le_trans x_wn (by decide)) (Or.inr ⟨_, rfl, ?_⟩)
    refine Or.inr ⟨_, rfl, ?_⟩
    exact ⟨hJ, hF, by decide⟩
  have q2 : ¬ (a1 < 2147483648) := q2
  refine x_iload (np := 5) (x := 1) (by decide +kernel) rfl la1 ?_
  refine x_aload (np := 6) (x := 0) (by decide +kernel) rfl (x_nc_le (by decide)) ?_
  have t3 : tw (h 0 8) := hJ.2.1
  refine x_getR (np := 9) (x := 648) (f := 8) (q := (h 0 8)) (by decide +kernel) (by decide) (by decide +kernel) rfl ?_
  have b4 := jB (e := 7) 0 hJ (rg_T0_7_0_1 t3) (by first | decide | omega) (by first | decide | omega)
  refine x_getC (np := 12) (x := 519) (f := 7) (q := (h (h 0 8) 7)) (by decide +kernel) (by decide) (tg_0_519_7_0 t3) rfl (fun l5 => ?_)
  refine x_icmp (k := 2) (tg := 26) (np := 15) (by decide +kernel) (by decide) la1 l5 (fun q6 => ?_) (fun q7 => ?_)
  · have q6 : a1 < (h (h 0 8) 7) := q6
    refine x_retV (np := 27) (x := 0) (by decide +kernel) (by decide +kernel) (Or.inl ⟨rfl, ?_⟩)
    refine x_aload (np := 6) (x := 0) (by decide +kernel) rfl (x_nc_le (by decide)) ?_
    refine x_iload (np := 7) (x := 2) (by decide +kernel) rfl la2 ?_
    refine x_nU (t := 6) (mj := 145) (n := 2) (rc := 11) (ml := 2) (cc := 1) (ss := 6) (nr := 0) (np := 10) (as := [x_r 0, iv_c a2]) (rest := []) (lo1 := [x_r 0, iv_c a2]) (by decide +kernel) (by decide) (by decide +kernel) (by decide +kernel) (x_rb_of (by decide +kernel)) rfl rfl (x_wr (by decide) (x_wi la2 x_wn)) x_wn (by decide) rfl ?_
    refine x_iload (np := 1) (x := 1) (by decide +kernel) rfl la2 ?_
    refine x_ifz (k := 2) (tg := 15) (np := 4) (by decide +kernel) (by decide) la2 (fun q8 => ?_) (fun q9 => ?_)
    · have q8 : a2 < 2147483648 := q8
      refine x_thr (np := 18) (x := 2) (by decide +kernel) (by decide +kernel) (Nat.le_trans x_wn (by decide)) (Or.inr ⟨_, rfl, ?_⟩)
      refine Or.inr ⟨_, rfl, ?_⟩
      exact ⟨hJ, hF, by decide⟩
    have q9 : ¬ (a2 < 2147483648) := q9
    refine x_iload (np := 5) (x := 1) (by decide +kernel) rfl la2 ?_
    refine x_aload (np := 6) (x := 0) (by decide +kernel) rfl (x_nc_le (by decide)) ?_
    refine x_getR (np := 9) (x := 648) (f := 8) (q := (h 0 8)) (by decide +kernel) (by decide) (by decide +kernel) rfl ?_
    refine x_getC (np := 12) (x := 519) (f := 7) (q := (h (h 0 8) 7)) (by decide +kernel) (by decide) (tg_0_519_7_0 t3) rfl (fun l10 => ?_)
    refine x_icmp (k := 2) (tg := 26) (np := 15) (by decide +kernel) (by decide) la2 l5 (fun q11 => ?_) (fun q12 => ?_)
    · have q11 : a2 < (h (h 0 8) 7) := q11
      refine x_retV (np := 27) (x := 0) (by decide +kernel) (by decide +kernel) (Or.inl ⟨rfl, ?_⟩)
      refine x_aload (np := 11) (x := 0) (by decide +kernel) rfl (x_nc_le (by decide)) ?_
      have q13 : h 0 1 = 45 := by have z := jB (e := 1) 0 hJ rg_0_1_0_1 (by decide) (by decide); omega
      refine x_getR (np := 14) (x := 641) (f := 1) (q := 45) (by decide +kernel) (by decide) (by decide +kernel) q13 ?_
      have q14 : h 45 1 = 47 := by have z := jB (e := 1) 0 hJ rg_45_1_0_1 (by decide) (by decide); omega
      refine x_getR (np := 17) (x := 65) (f := 1) (q := 47) (by decide +kernel) (by decide) (by decide +kernel) q14 ?_
      refine x_iload (np := 18) (x := 1) (by decide +kernel) rfl la1 ?_
      refine x_iload (np := 19) (x := 2) (by decide +kernel) rfl la2 ?_
      refine x_nI (t := 0) (mj := 149) (n := 2) (rc := 0) (ml := 2) (nr := 1) (np := 22) (as := [iv_c a1, iv_c a2]) (rest := [x_r 47]) (lo1 := [iv_c a1, iv_c a2]) (by decide +kernel) (by decide) (by decide +kernel) (Or.inl rfl) rfl rfl (x_wi la1 (x_wi la2 x_wn)) (x_wr (by decide) x_wn) (by decide) rfl ?_
      refine x_iload (np := 1) (x := 0) (by decide +kernel) rfl la1 ?_
      refine x_const (np := 3) (x := 9223372064772063238) (a := 2147483654) (by decide +kernel) (by decide) (by decide) ?_
      obtain ⟨u15, q16⟩ : ∃ z, a1 = 2147483648 + z := ⟨a1 - 2147483648, by first | decide | omega⟩
      refine x_imul (np := 4) (x := 0) (i := u15) (j := 6) (v := (2147483648 + 6 * u15)) (by decide +kernel) (by first | decide | omega) (by first | decide | omega) (by first | decide | omega) (by first | decide | omega) la1 (by decide) ?_
      refine x_iload (np := 5) (x := 1) (by decide +kernel) rfl la2 ?_
      refine x_iadd (np := 6) (x := 0) (v := (6 * u15 + a2)) (by decide +kernel) (by first | decide | omega) la2 (by first | decide | omega) (by first | decide | omega) ?_
      refine x_retI (np := 7) (x := 0) (by decide +kernel) (by first | decide | omega) (Or.inl (by decide +kernel)) ⟨_, rfl, (by first | decide | omega), ?_⟩
      obtain ⟨u18, q19⟩ : ∃ z, a2 = 2147483648 + z := ⟨a2 - 2147483648, by first | decide | omega⟩
      refine x_aldC (np := 23) (x := 0) (n := 36) (i := (6 * u15 + u18)) (q := ((h 47 (6 * u15 + u18)))) (by decide +kernel) (by decide +kernel) (by first | decide | omega) (by first | decide | omega) (by decide) rfl (fun l20 => ?_)
      refine x_nI (t := 7) (mj := 310) (n := 1) (rc := 0) (ml := 1) (nr := 0) (np := 26) (as := [iv_c ((h 47 (6 * u15 + u18)))]) (rest := []) (lo1 := [iv_c ((h 47 (6 * u15 + u18)))]) (by decide +kernel) (by decide) (by decide +kernel) (Or.inl rfl) rfl rfl (x_wi l20 x_wn) x_wn (by decide) rfl ?_
      refine x_iload (np := 1) (x := 0) (by decide +kernel) rfl l20 ?_
      refine x_iload (np := 2) (x := 0) (by decide +kernel) rfl l20 ?_
      refine x_const (np := 3) (x := 9223372043297226753) (a := 2147483649) (by decide +kernel) (by decide) (by decide) ?_
      refine x_any (np := 4) (k9 := 5) (by decide +kernel) (by decide) l20 (by decide) (fun v21 l22 => ?_)
      refine x_const (np := 7) (x := 15372286730238776661) (a := 3579139413) (by decide +kernel) (by decide) (by decide) ?_
      refine x_any (np := 8) (k9 := 0) (by decide +kernel) (by decide) l22 (by decide) (fun v23 l24 => ?_)
      refine x_subA (by rw [tb_b310]; decide +kernel) l20 l24 (fun v25 l26 => ?_)
      refine x_istore (np := 10) (x := 0) (lo' := [iv_c v25]) (by decide +kernel) l26 (Nat.le_of_ble_eq_true rfl) rfl ?_
      refine x_iload (np := 11) (x := 0) (by decide +kernel) rfl l26 ?_
      refine x_const (np := 14) (x := 12912720853744169779) (a := 3006477107) (by decide +kernel) (by decide) (by decide) ?_
      refine x_any (np := 15) (k9 := 0) (by decide +kernel) (by decide) l26 (by decide) (fun v27 l28 => ?_)
      refine x_iload (np := 16) (x := 0) (by decide +kernel) rfl l26 ?_
      refine x_const (np := 17) (x := 9223372047592194050) (a := 2147483650) (by decide +kernel) (by decide) (by decide) ?_
      refine x_any (np := 18) (k9 := 5) (by decide +kernel) (by decide) l26 (by decide) (fun v29 l30 => ?_)
      refine x_const (np := 21) (x := 12912720853744169779) (a := 3006477107) (by decide +kernel) (by decide) (by decide) ?_
      refine x_any (np := 22) (k9 := 0) (by decide +kernel) (by decide) l30 (by decide) (fun v31 l32 => ?_)
      refine x_addA (by rw [tb_b310]; decide +kernel) l28 l32 (fun v33 l34 => ?_)
      refine x_istore (np := 24) (x := 0) (lo' := [iv_c v33]) (by decide +kernel) l34 (Nat.le_of_ble_eq_true rfl) rfl ?_
      refine x_iload (np := 25) (x := 0) (by decide +kernel) rfl l34 ?_
      refine x_iload (np := 26) (x := 0) (by decide +kernel) rfl l34 ?_
      refine x_const (np := 27) (x := 9223372056182128644) (a := 2147483652) (by decide +kernel) (by decide) (by decide) ?_
      refine x_any (np := 28) (k9 := 5) (by decide +kernel) (by decide) l34 (by decide) (fun v35 l36 => ?_)
      refine x_addA (by rw [tb_b310]; decide +kernel) l34 l36 (fun v37 l38 => ?_)
      refine x_const (np := 32) (x := 10308474631573409551) (a := 2400128783) (by decide +kernel) (by decide) (by decide) ?_
      refine x_any (np := 33) (k9 := 0) (by decide +kernel) (by decide) l38 (by decide) (fun v39 l40 => ?_)
      refine x_istore (np := 34) (x := 0) (lo' := [iv_c v39]) (by decide +kernel) l40 (Nat.le_of_ble_eq_true rfl) rfl ?_
      refine x_iload (np := 35) (x := 0) (by decide +kernel) rfl l40 ?_
      refine x_iload (np := 36) (x := 0) (by decide +kernel) rfl l40 ?_
      refine x_const (np := 38) (x := 9223372073361997832) (a := 2147483656) (by decide +kernel) (by decide) (by decide) ?_
      refine x_any (np := 39) (k9 := 5) (by decide +kernel) (by decide) l40 (by decide) (fun v41 l42 => ?_)
      refine x_addA (by rw [tb_b310]; decide +kernel) l40 l42 (fun v43 l44 => ?_)
      refine x_istore (np := 41) (x := 0) (lo' := [iv_c v43]) (by decide +kernel) l44 (Nat.le_of_ble_eq_true rfl) rfl ?_
      refine x_iload (np := 42) (x := 0) (by decide +kernel) rfl l44 ?_
      refine x_iload (np := 43) (x := 0) (by decide +kernel) rfl l44 ?_
      refine x_const (np := 45) (x := 9223372107721736208) (a := 2147483664) (by decide +kernel) (by decide) (by decide) ?_
      refine x_any (np := 46) (k9 := 5) (by decide +kernel) (by decide) l44 (by decide) (fun v45 l46 => ?_)
      refine x_addA (by rw [tb_b310]; decide +kernel) l44 l46 (fun v47 l48 => ?_)
      refine x_istore (np := 48) (x := 0) (lo' := [iv_c v47]) (by decide +kernel) l48 (Nat.le_of_ble_eq_true rfl) rfl ?_
      refine x_iload (np := 49) (x := 0) (by decide +kernel) rfl l48 ?_
      refine x_const (np := 51) (x := 9223372309585199167) (a := 2147483711) (by decide +kernel) (by decide) (by decide) ?_
      refine x_mask (np := 52) (m := 6) (k9 := 64) (by decide +kernel) l48 (by decide +kernel) (by decide) (by decide) (by decide) (fun u49 l50 => ?_)
      refine x_retI (np := 53) (x := 0) (by decide +kernel) (by first | decide | omega) (Or.inl (by decide +kernel)) ⟨_, rfl, (by first | decide | omega), ?_⟩
      refine x_retI (np := 27) (x := 0) (by decide +kernel) (by first | decide | omega) (Or.inl (by decide +kernel)) (Or.inl ⟨_, rfl, (by first | decide | omega), ?_⟩)
      exact ⟨hJ, hF, (by first | decide | omega)⟩
    have q12 : ¬ (a2 < (h (h 0 8) 7)) := q12
    refine x_thr (np := 18) (x := 2) (by decide +kernel) (by decide +kernel) (Nat.le_trans x_wn (by decide)) (Or.inr ⟨_, rfl, ?_⟩)
    refine Or.inr ⟨_, rfl, ?_⟩
    exact ⟨hJ, hF, by decide⟩
  have q7 : ¬ (a1 < (h (h 0 8) 7)) := q7
  refine x_thr (np := 18) (x := 2) (by decide +kernel) (by decide +kernel) (Nat.le_trans x_wn (by decide)) (Or.inr ⟨_, rfl, ?_⟩)
  refine Or.inr ⟨_, rfl, ?_⟩
  exact ⟨hJ, hF, by decide⟩
set_option maxHeartbeats 0 in
/-- LentNamesLaw.borne(LLentNames;II[J)I -/
theorem c307_0_97 {sc : Nat × Nat} {d a1 a2 : Nat} {h : xh} (hJ : J h) (ba1 : 0 ≤ a1 ∧ a1 ≤ 4294967295) (ba2 : 0 ≤ a2 ∧ a2 ≤ 4294967295) : X sc 307 (d + 2) (xI fun r h' => J h' ∧ Fr 70368744177664 h h' ∧ (2147483648 ≤ r ∧ r ≤ 2147483649)) 0 0 0 [x_r 0, iv_c a1, iv_c a2, x_r 97, 147573952589676412928] [] h := by
  have la1 : a1 < 4294967296 := by first | decide | omega
  have la2 : a2 < 4294967296 := by first | decide | omega
  have hF := Fr.refl 70368744177664 h
  refine x_aload (np := 1) (x := 3) (by decide +kernel) rfl (x_nc_le (by decide)) ?_
  refine x_const (np := 2) (x := 9223372039002259456) (a := 2147483648) (by decide +kernel) (by decide) (by decide) ?_
  refine x_aload (np := 3) (x := 0) (by decide +kernel) rfl (x_nc_le (by decide)) ?_
  refine x_iload (np := 4) (x := 1) (by decide +kernel) rfl la1 ?_
  refine x_iload (np := 5) (x := 2) (by decide +kernel) rfl la2 ?_
  refine x_cT (t := 6) (mj := 118) (n := 3) (rc := 11) (ml := 3) (cc := 2) (ss := 12) (nr := 2) (np := 8) (as := [x_r 0, iv_c a1, iv_c a2]) (rest := [iv_c 2147483648, x_r 97]) (lo1 := [x_r 0, iv_c a1, iv_c a2]) (by decide +kernel) (by decide) (by decide +kernel) (x_rb_of (by decide +kernel)) rfl rfl (x_wr (by decide) (x_wi la1 (x_wi la2 x_wn))) (x_wi (by decide) (x_wr (by decide) x_wn)) (by decide) rfl (c118_0 hJ  (by first | decide | omega) (by first | decide | omega)) (fun v1 h4 l2 q3 => ?_) (fun E6 h7 q5 => ?_)
  · obtain ⟨j8, f9, b10⟩ := q3
    have f11 := Fr.trans hF f9 (by decide)
    refine x_i2l (np := 9) (x := 0) (by decide +kernel) l2 ?_
    refine x_last (np := 10) (x := 0) (n := 1) (i := 0) (by decide +kernel) (by decide) (by decide +kernel) (by decide +kernel) (by first | decide | omega) (by first | decide | omega) (by decide) l2 ?_
    have j13 := jU (e := 0) (v := v1) 0 j8 rg_97_0_1_1 (by first | decide | omega) (by first | decide | omega) (by first | decide | omega)
    have f15 := jF (e := 0) (v := v1) 0 f11 rg_97_0_1_1 (by first | decide | omega) (by first | decide | omega) (by decide)
    generalize e14 : x_up h4 97 0 v1 = h12 at j13 f15 ⊢
    refine x_goto (np := 13) (x := 17) (by decide +kernel) ?_
    refine x_const (np := 18) (x := 9223372039002259456) (a := 2147483648) (by decide +kernel) (by decide) (by decide) ?_
    refine x_retI (np := 19) (x := 0) (by decide +kernel) (by decide) (Or.inl (by decide +kernel)) ⟨_, rfl, (by decide), ?_⟩
    exact ⟨j13, f15, (by first | decide | omega)⟩
  obtain ⟨j16, f17, e18⟩ := q5
  have f19 := Fr.trans hF f17 (by decide)
  rcases e18 with rfl
  · refine ⟨13, fun _ _ => rfl, ?_⟩
    refine x_astE (np := 15) (x := 4) (lo' := [x_r 0, iv_c a1, iv_c a2, x_r 97, 55340232221128654850]) (by decide +kernel) (Nat.le_of_ble_eq_true rfl) rfl ?_
    refine x_const (np := 16) (x := 9223372043297226753) (a := 2147483649) (by decide +kernel) (by decide) (by decide) ?_
    refine x_retI (np := 17) (x := 0) (by decide +kernel) (by decide) (Or.inl (by decide +kernel)) ⟨_, rfl, (by decide), ?_⟩
    exact ⟨j16, f19, (by first | decide | omega)⟩
set_option maxHeartbeats 0 in
/-- LentNames.again(II)I -/
theorem c119_0 {sc : Nat × Nat} {d a1 a2 : Nat} {h : xh} (hJ : J h) (ba1 : 0 ≤ a1 ∧ a1 ≤ 4294967295) (ba2 : 0 ≤ a2 ∧ a2 ≤ 4294967295) : X sc 119 (d + 2) (xT (fun r h' => J h' ∧ Fr 0 h h' ∧ (2147483647 ≤ r ∧ r ≤ 2147483659)) (fun E h' => J h' ∧ Fr 0 h h' ∧ (E = 2))) 0 0 0 [x_r 0, iv_c a1, iv_c a2, 147573952589676412928] [] h := by
  have la1 : a1 < 4294967296 := by first | decide | omega
  have la2 : a2 < 4294967296 := by first | decide | omega
  have hF := Fr.refl 0 h
  refine x_aload (np := 1) (x := 0) (by decide +kernel) rfl (x_nc_le (by decide)) ?_
  refine x_iload (np := 2) (x := 1) (by decide +kernel) rfl la1 ?_
  refine x_nU (t := 6) (mj := 144) (n := 2) (rc := 11) (ml := 2) (cc := 1) (ss := 6) (nr := 0) (np := 5) (as := [x_r 0, iv_c a1]) (rest := []) (lo1 := [x_r 0, iv_c a1]) (by decide +kernel) (by decide) (by decide +kernel) (by decide +kernel) (x_rb_of (by decide +kernel)) rfl rfl (x_wr (by decide) (x_wi la1 x_wn)) x_wn (by decide) rfl ?_
  refine x_iload (np := 1) (x := 1) (by decide +kernel) rfl la1 ?_
  refine x_ifz (k := 2) (tg := 15) (np := 4) (by decide +kernel) (by decide) la1 (fun q1 => ?_) (fun q2 => ?_)
  · have q1 : a1 < 2147483648 := q1
    refine x_thr (np := 18) (x := 2) (by decide +kernel) (by decide +kernel) (Nat.le_trans x_wn (by decide)) (Or.inr ⟨_, rfl, ?_⟩)
    refine Or.inr ⟨_, rfl, ?_⟩
    exact ⟨hJ, hF, by decide⟩
  have q2 : ¬ (a1 < 2147483648) := q2
  refine x_iload (np := 5) (x := 1) (by decide +kernel) rfl la1 ?_
  refine x_aload (np := 6) (x := 0) (by decide +kernel) rfl (x_nc_le (by decide)) ?_
  have t3 : tw (h 0 8) := hJ.2.1
  refine x_getR (np := 9) (x := 648) (f := 8) (q := (h 0 8)) (by decide +kernel) (by decide) (by decide +kernel) rfl ?_
  have b4 := jB (e := 7) 0 hJ (rg_T0_7_0_1 t3) (by first | decide | omega) (by first | decide | omega)
  refine x_getC (np := 12) (x := 519) (f := 7) (q := (h (h 0 8) 7)) (by decide +kernel) (by decide) (tg_0_519_7_0 t3) rfl (fun l5 => ?_)
  refine x_icmp (k := 2) (tg := 26) (np := 15) (by decide +kernel) (by decide) la1 l5 (fun q6 => ?_) (fun q7 => ?_)
  · have q6 : a1 < (h (h 0 8) 7) := q6
    refine x_retV (np := 27) (x := 0) (by decide +kernel) (by decide +kernel) (Or.inl ⟨rfl, ?_⟩)
    refine x_iload (np := 6) (x := 2) (by decide +kernel) rfl la2 ?_
    refine x_nU (t := 0) (mj := 146) (n := 1) (rc := 0) (ml := 1) (cc := 1) (ss := 6) (nr := 0) (np := 9) (as := [iv_c a2]) (rest := []) (lo1 := [iv_c a2]) (by decide +kernel) (by decide) (by decide +kernel) (by decide +kernel) (Or.inl rfl) rfl rfl (x_wi la2 x_wn) x_wn (by decide) rfl ?_
    refine x_iload (np := 1) (x := 0) (by decide +kernel) rfl la2 ?_
    refine x_ifz (k := 2) (tg := 10) (np := 4) (by decide +kernel) (by decide) la2 (fun q8 => ?_) (fun q9 => ?_)
    · have q8 : a2 < 2147483648 := q8
      refine x_thr (np := 13) (x := 2) (by decide +kernel) (by decide +kernel) (Nat.le_trans x_wn (by decide)) (Or.inr ⟨_, rfl, ?_⟩)
      refine Or.inr ⟨_, rfl, ?_⟩
      exact ⟨hJ, hF, by decide⟩
    have q9 : ¬ (a2 < 2147483648) := q9
    refine x_iload (np := 5) (x := 0) (by decide +kernel) rfl la2 ?_
    refine x_const (np := 7) (x := 9223372090541867020) (a := 2147483660) (by decide +kernel) (by decide) (by decide) ?_
    refine x_icmp (k := 2) (tg := 21) (np := 10) (by decide +kernel) (by decide) la2 (by decide) (fun q10 => ?_) (fun q11 => ?_)
    · have q10 : a2 < 2147483660 := q10
      refine x_retV (np := 22) (x := 0) (by decide +kernel) (by decide +kernel) (Or.inl ⟨rfl, ?_⟩)
      refine x_iload (np := 10) (x := 2) (by decide +kernel) rfl la2 ?_
      refine x_istore (np := 11) (x := 3) (lo' := [x_r 0, iv_c a1, iv_c a2, iv_c a2]) (by decide +kernel) la2 (Nat.le_of_ble_eq_true rfl) rfl ?_
      have p34 : ∀ (n : Nat) (v32 : Nat), 4294967296 - v32 < n → (2147483648 ≤ v32 ∧ v32 ≤ 2147483660) → X sc 119 (d + 2) (xT (fun r h' => J h' ∧ Fr 0 h h' ∧ (2147483647 ≤ r ∧ r ≤ 2147483659)) (fun E h' => J h' ∧ Fr 0 h h' ∧ (E = 2))) 2 12 11 [x_r 0, iv_c a1, iv_c a2, iv_c v32] [] h := by
        intro n
        induction n with
        | zero => intro v32 q35; exact absurd q35 (Nat.not_lt_zero _)
        | succ n i36 =>
          intro v32 q35 b33
          refine x_iload (np := 12) (x := 3) (by decide +kernel) rfl (by first | decide | omega) ?_
          refine x_const (np := 14) (x := 9223372090541867020) (a := 2147483660) (by decide +kernel) (by decide) (by decide) ?_
          refine x_icmp (k := 3) (tg := 38) (np := 17) (by decide +kernel) (by decide) (by first | decide | omega) (by decide) (fun q37 => ?_) (fun q38 => ?_)
          · have q37 : 2147483660 ≤ v32 := q37
            refine x_const (np := 39) (x := 9223372034707292159) (a := 2147483647) (by decide +kernel) (by decide) (by decide) ?_
            refine x_retI (np := 40) (x := 0) (by decide +kernel) (by decide) (Or.inl (by decide +kernel)) (Or.inl ⟨_, rfl, (by decide), ?_⟩)
            exact ⟨hJ, hF, (by first | decide | omega)⟩
          have q38 : ¬ (2147483660 ≤ v32) := q38
          refine x_aload (np := 18) (x := 0) (by decide +kernel) rfl (x_nc_le (by decide)) ?_
          have q39 : h 0 1 = 45 := by have z := jB (e := 1) 0 hJ rg_0_1_0_1 (by decide) (by decide); omega
          refine x_getR (np := 21) (x := 641) (f := 1) (q := 45) (by decide +kernel) (by decide) (by decide +kernel) q39 ?_
          refine x_iload (np := 22) (x := 1) (by decide +kernel) rfl la1 ?_
          refine x_iload (np := 23) (x := 3) (by decide +kernel) rfl (by first | decide | omega) ?_
          refine x_cP (t := 6) (mj := 5) (n := 3) (rc := 2) (ml := 3) (nr := 0) (np := 26) (as := [x_r 45, iv_c a1, iv_c v32]) (rest := []) (lo1 := [x_r 45, iv_c a1, iv_c v32]) (by decide +kernel) (by decide) (by decide +kernel) (x_rb_of (by decide +kernel)) rfl rfl (x_wr (by decide) (x_wi la1 (x_wi (by first | decide | omega) x_wn))) x_wn (by decide) rfl (c5_45 hJ  (by first | decide | omega) (by first | decide | omega)) (fun v40 l41 q42 => ?_)
          refine x_iload (np := 27) (x := 1) (by decide +kernel) rfl la1 ?_
          refine x_icmp (k := 1) (tg := 32) (np := 30) (by decide +kernel) (by decide) l41 la1 (fun q43 => ?_) (fun q44 => ?_)
          · have q43 : v40 ≠ a1 := q43
            refine x_iinc (np := 35) (i := 3) (j := 2147483649) (v := (1 + v32)) (lo' := [x_r 0, iv_c a1, iv_c a2, iv_c (1 + v32)]) (by decide +kernel) (by decide) (by decide) rfl (by first | decide | omega) (by first | decide | omega) (by first | decide | omega) rfl ?_
            refine x_goto (np := 38) (x := 11) (by decide +kernel) ?_
            exact i36 (1 + v32) (by first | decide | omega) (by first | decide | omega)
          have q44 : ¬ (v40 ≠ a1) := q44
          refine x_iload (np := 31) (x := 3) (by decide +kernel) rfl (by first | decide | omega) ?_
          refine x_retI (np := 32) (x := 0) (by decide +kernel) (by first | decide | omega) (Or.inl (by decide +kernel)) (Or.inl ⟨_, rfl, (by first | decide | omega), ?_⟩)
          exact ⟨hJ, hF, (by first | decide | omega)⟩
      exact p34 _ a2 (Nat.lt_succ_self _) (by first | decide | omega)
    have q11 : ¬ (a2 < 2147483660) := q11
    refine x_thr (np := 13) (x := 2) (by decide +kernel) (by decide +kernel) (Nat.le_trans x_wn (by decide)) (Or.inr ⟨_, rfl, ?_⟩)
    refine Or.inr ⟨_, rfl, ?_⟩
    exact ⟨hJ, hF, by decide⟩
  have q7 : ¬ (a1 < (h (h 0 8) 7)) := q7
  refine x_thr (np := 18) (x := 2) (by decide +kernel) (by decide +kernel) (Nat.le_trans x_wn (by decide)) (Or.inr ⟨_, rfl, ?_⟩)
  refine Or.inr ⟨_, rfl, ?_⟩
  exact ⟨hJ, hF, by decide⟩
set_option maxHeartbeats 0 in
/-- LentNamesLaw.again(LLentNames;II[J)I -/
theorem c308_0_97 {sc : Nat × Nat} {d a1 a2 : Nat} {h : xh} (hJ : J h) (ba1 : 0 ≤ a1 ∧ a1 ≤ 4294967295) (ba2 : 0 ≤ a2 ∧ a2 ≤ 4294967295) : X sc 308 (d + 3) (xI fun r h' => J h' ∧ Fr 70368744177664 h h' ∧ (2147483648 ≤ r ∧ r ≤ 2147483649)) 0 0 0 [x_r 0, iv_c a1, iv_c a2, x_r 97, 147573952589676412928] [] h := by
  have la1 : a1 < 4294967296 := by first | decide | omega
  have la2 : a2 < 4294967296 := by first | decide | omega
  have hF := Fr.refl 70368744177664 h
  refine x_aload (np := 1) (x := 3) (by decide +kernel) rfl (x_nc_le (by decide)) ?_
  refine x_const (np := 2) (x := 9223372039002259456) (a := 2147483648) (by decide +kernel) (by decide) (by decide) ?_
  refine x_aload (np := 3) (x := 0) (by decide +kernel) rfl (x_nc_le (by decide)) ?_
  refine x_iload (np := 4) (x := 1) (by decide +kernel) rfl la1 ?_
  refine x_iload (np := 5) (x := 2) (by decide +kernel) rfl la2 ?_
  refine x_cT (t := 6) (mj := 119) (n := 3) (rc := 11) (ml := 4) (cc := 2) (ss := 12) (nr := 2) (np := 8) (as := [x_r 0, iv_c a1, iv_c a2]) (rest := [iv_c 2147483648, x_r 97]) (lo1 := [x_r 0, iv_c a1, iv_c a2, 147573952589676412928]) (by decide +kernel) (by decide) (by decide +kernel) (x_rb_of (by decide +kernel)) rfl rfl (x_wr (by decide) (x_wi la1 (x_wi la2 x_wn))) (x_wi (by decide) (x_wr (by decide) x_wn)) (by decide) rfl (c119_0 hJ  (by first | decide | omega) (by first | decide | omega)) (fun v1 h4 l2 q3 => ?_) (fun E6 h7 q5 => ?_)
  · obtain ⟨j8, f9, b10⟩ := q3
    have f11 := Fr.trans hF f9 (by decide)
    refine x_i2l (np := 9) (x := 0) (by decide +kernel) l2 ?_
    refine x_last (np := 10) (x := 0) (n := 1) (i := 0) (by decide +kernel) (by decide) (by decide +kernel) (by decide +kernel) (by first | decide | omega) (by first | decide | omega) (by decide) l2 ?_
    have j13 := jU (e := 0) (v := v1) 0 j8 rg_97_0_1_1 (by first | decide | omega) (by first | decide | omega) (by first | decide | omega)
    have f15 := jF (e := 0) (v := v1) 0 f11 rg_97_0_1_1 (by first | decide | omega) (by first | decide | omega) (by decide)
    generalize e14 : x_up h4 97 0 v1 = h12 at j13 f15 ⊢
    refine x_goto (np := 13) (x := 17) (by decide +kernel) ?_
    refine x_const (np := 18) (x := 9223372039002259456) (a := 2147483648) (by decide +kernel) (by decide) (by decide) ?_
    refine x_retI (np := 19) (x := 0) (by decide +kernel) (by decide) (Or.inl (by decide +kernel)) ⟨_, rfl, (by decide), ?_⟩
    exact ⟨j13, f15, (by first | decide | omega)⟩
  obtain ⟨j16, f17, e18⟩ := q5
  have f19 := Fr.trans hF f17 (by decide)
  rcases e18 with rfl
  · refine ⟨13, fun _ _ => rfl, ?_⟩
    refine x_astE (np := 15) (x := 4) (lo' := [x_r 0, iv_c a1, iv_c a2, x_r 97, 55340232221128654850]) (by decide +kernel) (Nat.le_of_ble_eq_true rfl) rfl ?_
    refine x_const (np := 16) (x := 9223372043297226753) (a := 2147483649) (by decide +kernel) (by decide) (by decide) ?_
    refine x_retI (np := 17) (x := 0) (by decide +kernel) (by decide) (Or.inl (by decide +kernel)) ⟨_, rfl, (by decide), ?_⟩
    exact ⟨j16, f19, (by first | decide | omega)⟩
