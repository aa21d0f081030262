/-! ===== methods ===== -/
set_option maxHeartbeats 0 in
/-- LentNamesLaw.meets(LLentNames;I[J)I -/
theorem c299_0_97 {sc : Nat × Nat} {d a1 : Nat} {h : xh} (hJ : J h) (ba1 : 0 ≤ a1 ∧ a1 ≤ 4294967295) : X sc 299 (d + 5) (xI fun r h' => J h' ∧ Fr 70368744185857 h h' ∧ (2147483648 ≤ r ∧ r ≤ 2147483649)) 0 0 0 [x_r 0, iv_c a1, x_r 97, 147573952589676412928] [] h := by
  have la1 : a1 < 4294967296 := by first | decide | omega
  have hF := Fr.refl 70368744185857 h
  refine x_aload (np := 1) (x := 2) (by decide +kernel) rfl (x_nc_le (by decide)) ?_
  refine x_const (np := 2) (x := 9223372039002259456) (a := 2147483648) (by decide +kernel) (by decide) (by decide) ?_
  refine x_aload (np := 3) (x := 0) (by decide +kernel) rfl (x_nc_le (by decide)) ?_
  refine x_iload (np := 4) (x := 1) (by decide +kernel) rfl la1 ?_
  refine x_cT (t := 6) (mj := 133) (n := 2) (rc := 11) (ml := 7) (cc := 1) (ss := 6) (nr := 2) (np := 7) (as := [x_r 0, iv_c a1]) (rest := [iv_c 2147483648, x_r 97]) (lo1 := [x_r 0, iv_c a1, 147573952589676412928, 147573952589676412928, 147573952589676412928, 147573952589676412928, 147573952589676412928]) (by decide +kernel) (by decide) (by decide +kernel) (x_rb_of (by decide +kernel)) rfl rfl (x_wr (by decide) (x_wi la1 x_wn)) (x_wi (by decide) (x_wr (by decide) x_wn)) (by decide) rfl (c133_0 hJ  (by first | decide | omega)) (fun v1 h4 l2 q3 => ?_) (fun E6 h7 q5 => ?_)
  · obtain ⟨j8, f9, b10⟩ := q3
    have f11 := Fr.trans hF f9 (by decide)
    refine x_i2l (np := 8) (x := 0) (by decide +kernel) l2 ?_
    refine x_last (np := 9) (x := 0) (n := 1) (i := 0) (by decide +kernel) (by decide) (by decide +kernel) (by decide +kernel) (by first | decide | omega) (by first | decide | omega) (by decide) l2 ?_
    have j13 := jU (e := 0) (v := v1) 0 j8 rg_97_0_1_1 (by first | decide | omega) (by first | decide | omega) (by first | decide | omega)
    have f15 := jF (e := 0) (v := v1) 0 f11 rg_97_0_1_1 (by first | decide | omega) (by first | decide | omega) (by decide)
    generalize e14 : x_up h4 97 0 v1 = h12 at j13 f15 ⊢
    refine x_goto (np := 12) (x := 15) (by decide +kernel) ?_
    refine x_const (np := 16) (x := 9223372039002259456) (a := 2147483648) (by decide +kernel) (by decide) (by decide) ?_
    refine x_retI (np := 17) (x := 0) (by decide +kernel) (by decide) (Or.inl (by decide +kernel)) ⟨_, rfl, (by decide), ?_⟩
    exact ⟨j13, f15, (by first | decide | omega)⟩
  obtain ⟨j16, f17, e18⟩ := q5
  have f19 := Fr.trans hF f17 (by decide)
  rcases e18 with rfl
  · refine ⟨12, fun _ _ => rfl, ?_⟩
    refine x_astE (np := 13) (x := 3) (lo' := [x_r 0, iv_c a1, x_r 97, 55340232221128654850]) (by decide +kernel) (Nat.le_of_ble_eq_true rfl) rfl ?_
    refine x_const (np := 14) (x := 9223372043297226753) (a := 2147483649) (by decide +kernel) (by decide) (by decide) ?_
    refine x_retI (np := 15) (x := 0) (by decide +kernel) (by decide) (Or.inl (by decide +kernel)) ⟨_, rfl, (by decide), ?_⟩
    exact ⟨j16, f19, (by first | decide | omega)⟩
set_option maxHeartbeats 0 in
/-- LentNames.way(IZ)I -/
theorem c120_0 {sc : Nat × Nat} {d a1 a2 : Nat} {h : xh} (hJ : J h) (ba1 : 0 ≤ a1 ∧ a1 ≤ 4294967295) (ba2 : 2147483648 ≤ a2 ∧ a2 ≤ 2147483649) : X sc 120 (d + 3) (xT (fun r h' => J h' ∧ Fr 0 h h' ∧ (0 ≤ r ∧ r ≤ 4294967295)) (fun E h' => J h' ∧ Fr 0 h h' ∧ (E = 2))) 0 0 0 [x_r 0, iv_c a1, iv_c a2, 147573952589676412928, 147573952589676412928] [] h := by
  have la1 : a1 < 4294967296 := by first | decide | omega
  have la2 : a2 < 4294967296 := by first | decide | omega
  have hF := Fr.refl 0 h
  refine x_aload (np := 1) (x := 0) (by decide +kernel) rfl (x_nc_le (by decide)) ?_
  refine x_iload (np := 2) (x := 1) (by decide +kernel) rfl la1 ?_
  refine x_nU (t := 6) (mj := 144) (n := 2) (rc := 11) (ml := 2) (cc := 1) (ss := 6) (nr := 0) (np := 5) (as := [x_r 0, iv_c a1]) (rest := []) (lo1 := [x_r 0, iv_c a1]) (by decide +kernel) (by decide) (by decide +kernel) (by decide +kernel) (x_rb_of (by decide +kernel)) rfl rfl (x_wr (by decide) (x_wi la1 x_wn)) x_wn (by decide) rfl ?_
  refine x_iload (np := 1) (x := 1) (by decide +kernel) rfl la1 ?_
  refine x_ifz (k := 2) (tg := 15) (np := 4) (by decide +kernel) (by decide) la1 (fun q1 => ?_) (fun q2 => ?_)
  · have q1 : a1 < 2147483648 := q1
    refine x_thr (np := 18) (x := 2) (by decide +kernel) (by decide +kernel) (Nat.le_trans x_wn (by decide)) (Or.inr ⟨_, rfl, ?_⟩)
    refine Or.inr ⟨_, rfl, ?_⟩
    exact ⟨hJ, hF, by decide⟩
  have q2 : ¬ (a1 < 2147483648) := q2
  refine x_iload (np := 5) (x := 1) (by decide +kernel) rfl la1 ?_
  refine x_aload (np := 6) (x := 0) (by decide +kernel) rfl (x_nc_le (by decide)) ?_
  have t3 : tw (h 0 8) := hJ.2.1
  refine x_getR (np := 9) (x := 648) (f := 8) (q := (h 0 8)) (by decide +kernel) (by decide) (by decide +kernel) rfl ?_
  have b4 := jB (e := 7) 0 hJ (rg_T0_7_0_1 t3) (by first | decide | omega) (by first | decide | omega)
  refine x_getC (np := 12) (x := 519) (f := 7) (q := (h (h 0 8) 7)) (by decide +kernel) (by decide) (tg_0_519_7_0 t3) rfl (fun l5 => ?_)
  refine x_icmp (k := 2) (tg := 26) (np := 15) (by decide +kernel) (by decide) la1 l5 (fun q6 => ?_) (fun q7 => ?_)
  · have q6 : a1 < (h (h 0 8) 7) := q6
    refine x_retV (np := 27) (x := 0) (by decide +kernel) (by decide +kernel) (Or.inl ⟨rfl, ?_⟩)
    refine x_iload (np := 6) (x := 2) (by decide +kernel) rfl la2 ?_
    refine x_ifz (k := 0) (tg := 18) (np := 9) (by decide +kernel) (by decide) la2 (fun q8 => ?_) (fun q9 => ?_)
    · have q8 : a2 = 2147483648 := q8
      refine x_const (np := 19) (x := 9223372039002259456) (a := 2147483648) (by decide +kernel) (by decide) (by decide) ?_
      refine x_istore (np := 20) (x := 3) (lo' := [x_r 0, iv_c a1, iv_c a2, iv_c 2147483648, 147573952589676412928]) (by decide +kernel) (by decide) (Nat.le_of_ble_eq_true rfl) rfl ?_
      refine x_const (np := 21) (x := 9223372039002259456) (a := 2147483648) (by decide +kernel) (by decide) (by decide) ?_
      refine x_istore (np := 23) (x := 4) (lo' := [x_r 0, iv_c a1, iv_c a2, iv_c 2147483648, iv_c 2147483648]) (by decide +kernel) (by decide) (Nat.le_of_ble_eq_true rfl) rfl ?_
      have p140 : ∀ (n : Nat) (v136 : Nat) (v138 : Nat), 4294967296 - v138 < n → (0 ≤ v136 ∧ v136 ≤ 4294967295) → (2147483648 ≤ v138 ∧ v138 ≤ 2147483654) → X sc 120 (d + 3) (xT (fun r h' => J h' ∧ Fr 0 h h' ∧ (0 ≤ r ∧ r ≤ 4294967295)) (fun E h' => J h' ∧ Fr 0 h h' ∧ (E = 2))) 1 6 23 [x_r 0, iv_c a1, iv_c a2, iv_c v136, iv_c v138] [] h := by
        intro n
        induction n with
        | zero => intro v136 v138 q141; exact absurd q141 (Nat.not_lt_zero _)
        | succ n i142 =>
          intro v136 v138 q141 b137 b139
          refine x_iload (np := 25) (x := 4) (by decide +kernel) rfl (by first | decide | omega) ?_
          refine x_aload (np := 26) (x := 0) (by decide +kernel) rfl (x_nc_le (by decide)) ?_
          refine x_getR (np := 29) (x := 648) (f := 8) (q := (h 0 8)) (by decide +kernel) (by decide) (by decide +kernel) rfl ?_
          refine x_getC (np := 32) (x := 519) (f := 7) (q := (h (h 0 8) 7)) (by decide +kernel) (by decide) (tg_0_519_7_0 t3) rfl (fun l143 => ?_)
          refine x_icmp (k := 3) (tg := 65) (np := 35) (by decide +kernel) (by decide) (by first | decide | omega) l5 (fun q144 => ?_) (fun q145 => ?_)
          · have q144 : (h (h 0 8) 7) ≤ v138 := q144
            refine x_iload (np := 66) (x := 3) (by decide +kernel) rfl (by first | decide | omega) ?_
            refine x_retI (np := 67) (x := 0) (by decide +kernel) (by first | decide | omega) (Or.inl (by decide +kernel)) (Or.inl ⟨_, rfl, (by first | decide | omega), ?_⟩)
            exact ⟨hJ, hF, (by first | decide | omega)⟩
          have q145 : ¬ ((h (h 0 8) 7) ≤ v138) := q145
          refine x_aload (np := 36) (x := 0) (by decide +kernel) rfl (x_nc_le (by decide)) ?_
          have q146 : h 0 1 = 45 := by have z := jB (e := 1) 0 hJ rg_0_1_0_1 (by decide) (by decide); omega
          refine x_getR (np := 39) (x := 641) (f := 1) (q := 45) (by decide +kernel) (by decide) (by decide +kernel) q146 ?_
          have q147 : h 45 1 = 47 := by have z := jB (e := 1) 0 hJ rg_45_1_0_1 (by decide) (by decide); omega
          refine x_getR (np := 42) (x := 65) (f := 1) (q := 47) (by decide +kernel) (by decide) (by decide +kernel) q147 ?_
          refine x_iload (np := 43) (x := 1) (by decide +kernel) rfl la1 ?_
          refine x_iload (np := 45) (x := 4) (by decide +kernel) rfl (by first | decide | omega) ?_
          refine x_nI (t := 0) (mj := 149) (n := 2) (rc := 0) (ml := 2) (nr := 1) (np := 48) (as := [iv_c a1, iv_c v138]) (rest := [x_r 47]) (lo1 := [iv_c a1, iv_c v138]) (by decide +kernel) (by decide) (by decide +kernel) (Or.inl rfl) rfl rfl (x_wi la1 (x_wi (by first | decide | omega) x_wn)) (x_wr (by decide) x_wn) (by decide) rfl ?_
          refine x_iload (np := 1) (x := 0) (by decide +kernel) rfl la1 ?_
          refine x_const (np := 3) (x := 9223372064772063238) (a := 2147483654) (by decide +kernel) (by decide) (by decide) ?_
          obtain ⟨u148, q149⟩ : ∃ z, a1 = 2147483648 + z := ⟨a1 - 2147483648, by first | decide | omega⟩
          refine x_imul (np := 4) (x := 0) (i := u148) (j := 6) (v := (2147483648 + 6 * u148)) (by decide +kernel) (by first | decide | omega) (by first | decide | omega) (by first | decide | omega) (by first | decide | omega) la1 (by decide) ?_
          refine x_iload (np := 5) (x := 1) (by decide +kernel) rfl (by first | decide | omega) ?_
          refine x_iadd (np := 6) (x := 0) (v := (6 * u148 + v138)) (by decide +kernel) (by first | decide | omega) (by first | decide | omega) (by first | decide | omega) (by first | decide | omega) ?_
          refine x_retI (np := 7) (x := 0) (by decide +kernel) (by first | decide | omega) (Or.inl (by decide +kernel)) ⟨_, rfl, (by first | decide | omega), ?_⟩
          obtain ⟨u151, q152⟩ : ∃ z, v138 = 2147483648 + z := ⟨v138 - 2147483648, by first | decide | omega⟩
          refine x_aldC (np := 49) (x := 0) (n := 36) (i := (6 * u148 + u151)) (q := ((h 47 (6 * u148 + u151)))) (by decide +kernel) (by decide +kernel) (by first | decide | omega) (by first | decide | omega) (by decide) rfl (fun l153 => ?_)
          refine x_ifz (k := 0) (tg := 59) (np := 52) (by decide +kernel) (by decide) l153 (fun q154 => ?_) (fun q155 => ?_)
          · have q154 : ((h 47 (6 * u148 + u151))) = 2147483648 := q154
            refine x_iinc (np := 62) (i := 4) (j := 2147483649) (v := (1 + v138)) (lo' := [x_r 0, iv_c a1, iv_c a2, iv_c v136, iv_c (1 + v138)]) (by decide +kernel) (by decide) (by decide) rfl (by first | decide | omega) (by first | decide | omega) (by first | decide | omega) rfl ?_
            refine x_goto (np := 65) (x := 23) (by decide +kernel) ?_
            exact i142 v136 (1 + v138) (by first | decide | omega) (by first | decide | omega) (by first | decide | omega)
          have q155 : ¬ (((h 47 (6 * u148 + u151))) = 2147483648) := q155
          refine x_iload (np := 53) (x := 3) (by decide +kernel) rfl (by first | decide | omega) ?_
          refine x_const (np := 54) (x := 9223372043297226753) (a := 2147483649) (by decide +kernel) (by decide) (by decide) ?_
          refine x_iload (np := 56) (x := 4) (by decide +kernel) rfl (by first | decide | omega) ?_
          refine x_any (np := 57) (k9 := 3) (by decide +kernel) (by decide) (by decide) (by first | decide | omega) (fun v156 l157 => ?_)
          refine x_any (np := 58) (k9 := 1) (by decide +kernel) (by decide) (by first | decide | omega) l157 (fun v158 l159 => ?_)
          refine x_istore (np := 59) (x := 3) (lo' := [x_r 0, iv_c a1, iv_c a2, iv_c v158, iv_c v138]) (by decide +kernel) l159 (Nat.le_of_ble_eq_true rfl) rfl ?_
          refine x_iinc (np := 62) (i := 4) (j := 2147483649) (v := (1 + v138)) (lo' := [x_r 0, iv_c a1, iv_c a2, iv_c v158, iv_c (1 + v138)]) (by decide +kernel) (by decide) (by decide) rfl (by first | decide | omega) (by first | decide | omega) (by first | decide | omega) rfl ?_
          refine x_goto (np := 65) (x := 23) (by decide +kernel) ?_
          exact i142 v158 (1 + v138) (by first | decide | omega) (by first | decide | omega) (by first | decide | omega)
      exact p140 _ 2147483648 2147483648 (Nat.lt_succ_self _) (by first | decide | omega) (by first | decide | omega)
    have q9 : ¬ (a2 = 2147483648) := q9
    refine x_aload (np := 10) (x := 0) (by decide +kernel) rfl (x_nc_le (by decide)) ?_
    have q160 : h 0 1 = 45 := by have z := jB (e := 1) 0 hJ rg_0_1_0_1 (by decide) (by decide); omega
    refine x_getR (np := 13) (x := 641) (f := 1) (q := 45) (by decide +kernel) (by decide) (by decide +kernel) q160 ?_
    refine x_iload (np := 14) (x := 1) (by decide +kernel) rfl la1 ?_
    refine x_cP (t := 6) (mj := 10) (n := 2) (rc := 2) (ml := 4) (nr := 0) (np := 17) (as := [x_r 45, iv_c a1]) (rest := []) (lo1 := [x_r 45, iv_c a1, 147573952589676412928, 147573952589676412928]) (by decide +kernel) (by decide) (by decide +kernel) (x_rb_of (by decide +kernel)) rfl rfl (x_wr (by decide) (x_wi la1 x_wn)) x_wn (by decide) rfl (c10_45 hJ  (by first | decide | omega)) (fun v161 l162 q163 => ?_)
    refine x_retI (np := 18) (x := 0) (by decide +kernel) l162 (Or.inl (by decide +kernel)) (Or.inl ⟨_, rfl, l162, ?_⟩)
    exact ⟨hJ, hF, (by first | decide | omega)⟩
  have q7 : ¬ (a1 < (h (h 0 8) 7)) := q7
  refine x_thr (np := 18) (x := 2) (by decide +kernel) (by decide +kernel) (Nat.le_trans x_wn (by decide)) (Or.inr ⟨_, rfl, ?_⟩)
  refine Or.inr ⟨_, rfl, ?_⟩
  exact ⟨hJ, hF, by decide⟩
set_option maxHeartbeats 0 in
/-- LentNamesLaw.way(LLentNames;IZ[J)I -/
theorem c300_0_97 {sc : Nat × Nat} {d a1 a2 : Nat} {h : xh} (hJ : J h) (ba1 : 0 ≤ a1 ∧ a1 ≤ 4294967295) (ba2 : 2147483648 ≤ a2 ∧ a2 ≤ 2147483649) : X sc 300 (d + 4) (xI fun r h' => J h' ∧ Fr 70368744177664 h h' ∧ (2147483648 ≤ r ∧ r ≤ 2147483649)) 0 0 0 [x_r 0, iv_c a1, iv_c a2, x_r 97, 147573952589676412928] [] h := by
  have la1 : a1 < 4294967296 := by first | decide | omega
  have la2 : a2 < 4294967296 := by first | decide | omega
  have hF := Fr.refl 70368744177664 h
  refine x_aload (np := 1) (x := 3) (by decide +kernel) rfl (x_nc_le (by decide)) ?_
  refine x_const (np := 2) (x := 9223372039002259456) (a := 2147483648) (by decide +kernel) (by decide) (by decide) ?_
  refine x_aload (np := 3) (x := 0) (by decide +kernel) rfl (x_nc_le (by decide)) ?_
  refine x_iload (np := 4) (x := 1) (by decide +kernel) rfl la1 ?_
  refine x_iload (np := 5) (x := 2) (by decide +kernel) rfl la2 ?_
  refine x_cT (t := 6) (mj := 120) (n := 3) (rc := 11) (ml := 5) (cc := 1) (ss := 6) (nr := 2) (np := 8) (as := [x_r 0, iv_c a1, iv_c a2]) (rest := [iv_c 2147483648, x_r 97]) (lo1 := [x_r 0, iv_c a1, iv_c a2, 147573952589676412928, 147573952589676412928]) (by decide +kernel) (by decide) (by decide +kernel) (x_rb_of (by decide +kernel)) rfl rfl (x_wr (by decide) (x_wi la1 (x_wi la2 x_wn))) (x_wi (by decide) (x_wr (by decide) x_wn)) (by decide) rfl (c120_0 hJ  (by first | decide | omega) (by first | decide | omega)) (fun v1 h4 l2 q3 => ?_) (fun E6 h7 q5 => ?_)
  · obtain ⟨j8, f9, b10⟩ := q3
    have f11 := Fr.trans hF f9 (by decide)
    refine x_i2l (np := 9) (x := 0) (by decide +kernel) l2 ?_
    refine x_last (np := 10) (x := 0) (n := 1) (i := 0) (by decide +kernel) (by decide) (by decide +kernel) (by decide +kernel) (by first | decide | omega) (by first | decide | omega) (by decide) l2 ?_
    have j13 := jU (e := 0) (v := v1) 0 j8 rg_97_0_1_1 (by first | decide | omega) (by first | decide | omega) (by first | decide | omega)
    have f15 := jF (e := 0) (v := v1) 0 f11 rg_97_0_1_1 (by first | decide | omega) (by first | decide | omega) (by decide)
    generalize e14 : x_up h4 97 0 v1 = h12 at j13 f15 ⊢
    refine x_goto (np := 13) (x := 17) (by decide +kernel) ?_
    refine x_const (np := 18) (x := 9223372039002259456) (a := 2147483648) (by decide +kernel) (by decide) (by decide) ?_
    refine x_retI (np := 19) (x := 0) (by decide +kernel) (by decide) (Or.inl (by decide +kernel)) ⟨_, rfl, (by decide), ?_⟩
    exact ⟨j13, f15, (by first | decide | omega)⟩
  obtain ⟨j16, f17, e18⟩ := q5
  have f19 := Fr.trans hF f17 (by decide)
  rcases e18 with rfl
  · refine ⟨13, fun _ _ => rfl, ?_⟩
    refine x_astE (np := 15) (x := 4) (lo' := [x_r 0, iv_c a1, iv_c a2, x_r 97, 55340232221128654850]) (by decide +kernel) (Nat.le_of_ble_eq_true rfl) rfl ?_
    refine x_const (np := 16) (x := 9223372043297226753) (a := 2147483649) (by decide +kernel) (by decide) (by decide) ?_
    refine x_retI (np := 17) (x := 0) (by decide +kernel) (by decide) (Or.inl (by decide +kernel)) ⟨_, rfl, (by decide), ?_⟩
    exact ⟨j16, f19, (by first | decide | omega)⟩
set_option maxHeartbeats 0 in
/-- LentNames$Table.put(III)V -/
theorem c69_T3_c3 {sc : Nat × Nat} {d ra0 a1 a3 : Nat} {h : xh} (hJ : J h) (ta0 : tw ra0) (ba1 : 2147483648 ≤ a1 ∧ a1 ≤ 2147483657) (ba3 : 2147483647 ≤ a3 ∧ a3 ≤ 2147483653) : X sc 69 d (xV fun h' => J h' ∧ Fr 129 h h') 0 0 0 [x_r (ra0 + 3), iv_c a1, iv_c 2147483651, iv_c a3, 147573952589676412928] [] h := by
  have la1 : a1 < 4294967296 := by first | decide | omega
  have la3 : a3 < 4294967296 := by first | decide | omega
  have hF := Fr.refl 129 h
  refine x_iload (np := 1) (x := 1) (by decide +kernel) rfl la1 ?_
  refine x_ifz (k := 2) (tg := 28) (np := 4) (by decide +kernel) (by decide) la1 (fun q1 => ?_) (fun q2 => ?_)
  · have q1 : a1 < 2147483648 := q1
    exfalso; omega
  have q2 : ¬ (a1 < 2147483648) := q2
  refine x_iload (np := 5) (x := 1) (by decide +kernel) rfl la1 ?_
  refine x_aload (np := 6) (x := 0) (by decide +kernel) rfl (x_nc_le (tn_3 ta0)) ?_
  have b3 := jB (e := 2) 0 hJ (rg_T3_2_0_1 ta0) (by first | decide | omega) (by first | decide | omega)
  refine x_getC (np := 9) (x := 386) (f := 2) (q := (h (ra0 + 3) 2)) (by decide +kernel) (by decide) (tg_3_386_2_0 ta0) rfl (fun l4 => ?_)
  refine x_icmp (k := 3) (tg := 28) (np := 12) (by decide +kernel) (by decide) la1 l4 (fun q5 => ?_) (fun q6 => ?_)
  · have q5 : (h (ra0 + 3) 2) ≤ a1 := q5
    refine x_const (np := 29) (x := 9223372039002259456) (a := 2147483648) (by decide +kernel) (by decide) (by decide) ?_
    refine x_istore (np := 31) (x := 4) (lo' := [x_r (ra0 + 3), iv_c a1, iv_c 2147483651, iv_c a3, iv_c 2147483648]) (by decide +kernel) (by decide) (Nat.le_of_ble_eq_true rfl) rfl ?_
    refine x_iload (np := 33) (x := 4) (by decide +kernel) rfl (by decide) ?_
    refine x_ifz (k := 0) (tg := 50) (np := 36) (by decide +kernel) (by decide) (by decide) (fun q7 => ?_) (fun q8 => ?_)
    · have q7 : 2147483648 = 2147483648 := q7
      refine x_retV (np := 51) (x := 0) (by decide +kernel) (by decide +kernel) ⟨rfl, ?_⟩
      exact ⟨hJ, hF⟩
    have q8 : ¬ (2147483648 = 2147483648) := q8
    exfalso; omega
  have q6 : ¬ ((h (ra0 + 3) 2) ≤ a1) := q6
  refine x_iload (np := 13) (x := 2) (by decide +kernel) rfl (by decide) ?_
  refine x_ifz (k := 2) (tg := 28) (np := 16) (by decide +kernel) (by decide) (by decide) (fun q9 => ?_) (fun q10 => ?_)
  · have q9 : 2147483651 < 2147483648 := q9
    exfalso; omega
  have q10 : ¬ (2147483651 < 2147483648) := q10
  refine x_iload (np := 17) (x := 2) (by decide +kernel) rfl (by decide) ?_
  refine x_aload (np := 18) (x := 0) (by decide +kernel) rfl (x_nc_le (tn_3 ta0)) ?_
  have b11 := jB (e := 0) 0 hJ (rg_T3_0_0_1 ta0) (by first | decide | omega) (by first | decide | omega)
  have q12 : (h (ra0 + 3) 0) = 2147483652 := by first | decide | omega
  refine x_getC (np := 21) (x := 384) (f := 0) (q := 2147483652) (by decide +kernel) (by decide) (tg_3_384_0_0 ta0) q12 (fun l13 => ?_)
  refine x_icmp (k := 3) (tg := 28) (np := 24) (by decide +kernel) (by decide) (by decide) (by decide) (fun q14 => ?_) (fun q15 => ?_)
  · have q14 : 2147483652 ≤ 2147483651 := q14
    exfalso; omega
  have q15 : ¬ (2147483652 ≤ 2147483651) := q15
  refine x_const (np := 25) (x := 9223372043297226753) (a := 2147483649) (by decide +kernel) (by decide) (by decide) ?_
  refine x_goto (np := 28) (x := 29) (by decide +kernel) ?_
  refine x_istore (np := 31) (x := 4) (lo' := [x_r (ra0 + 3), iv_c a1, iv_c 2147483651, iv_c a3, iv_c 2147483649]) (by decide +kernel) (by decide) (Nat.le_of_ble_eq_true rfl) rfl ?_
  refine x_iload (np := 33) (x := 4) (by decide +kernel) rfl (by decide) ?_
  refine x_ifz (k := 0) (tg := 50) (np := 36) (by decide +kernel) (by decide) (by decide) (fun q16 => ?_) (fun q17 => ?_)
  · have q16 : 2147483649 = 2147483648 := q16
    exfalso; omega
  have q17 : ¬ (2147483649 = 2147483648) := q17
  refine x_aload (np := 37) (x := 0) (by decide +kernel) rfl (x_nc_le (tn_3 ta0)) ?_
  have q18 : h (ra0 + 3) 1 = (ra0 + 4) := tf_3_1 hJ ta0
  refine x_getR (np := 40) (x := 385) (f := 1) (q := (ra0 + 4)) (by decide +kernel) (by decide) (tg_3_385_1_1 ta0) q18 ?_
  refine x_iload (np := 41) (x := 1) (by decide +kernel) rfl la1 ?_
  refine x_aload (np := 42) (x := 0) (by decide +kernel) rfl (x_nc_le (tn_3 ta0)) ?_
  refine x_getC (np := 45) (x := 384) (f := 0) (q := 2147483652) (by decide +kernel) (by decide) (tg_3_384_0_0 ta0) q12 (fun l19 => ?_)
  obtain ⟨u20, q21⟩ : ∃ z, a1 = 2147483648 + z := ⟨a1 - 2147483648, by first | decide | omega⟩
  refine x_imul (np := 46) (x := 0) (i := u20) (j := 4) (v := (2147483648 + 4 * u20)) (by decide +kernel) (by first | decide | omega) (by first | decide | omega) (by first | decide | omega) (by first | decide | omega) la1 (by decide) ?_
  refine x_iload (np := 47) (x := 2) (by decide +kernel) rfl (by decide) ?_
  refine x_iadd (np := 48) (x := 0) (v := (2147483651 + 4 * u20)) (by decide +kernel) (by first | decide | omega) (by decide) (by first | decide | omega) (by first | decide | omega) ?_
  refine x_iload (np := 49) (x := 3) (by decide +kernel) rfl la3 ?_
  refine x_ast (np := 50) (x := 0) (kd := 1) (n := 40) (i := (3 + 4 * u20)) (by decide +kernel) (Or.inl rfl) (ta_4_40 ta0) (by first | decide | omega) (by first | decide | omega) (by decide) la3 (fun z => absurd z (by decide)) ?_
  have j24 := jU (e := (3 + 4 * u20)) (v := a3) u20 hJ (rg_T4_3_4_10 ta0) (by first | decide | omega) (by first | decide | omega) (by first | decide | omega)
  have f26 := jF (e := (3 + 4 * u20)) (v := a3) u20 hF (rg_T4_3_4_10 ta0) (by first | decide | omega) (by first | decide | omega) (by decide)
  generalize e25 : x_up h (ra0 + 4) (3 + 4 * u20) a3 = h23 at j24 f26 ⊢
  refine x_retV (np := 51) (x := 0) (by decide +kernel) (by decide +kernel) ⟨rfl, ?_⟩
  exact ⟨j24, f26⟩
set_option maxHeartbeats 0 in
/-- LentNames.wish(II)I -/
theorem c125_0 {sc : Nat × Nat} {d a1 a2 : Nat} {h : xh} (hJ : J h) (ba1 : 0 ≤ a1 ∧ a1 ≤ 4294967295) (ba2 : 0 ≤ a2 ∧ a2 ≤ 4294967295) : X sc 125 (d + 1) (xT (fun r h' => J h' ∧ Fr 32897 h h' ∧ (2147483647 ≤ r ∧ r ≤ 2147483653)) (fun E h' => J h' ∧ Fr 32897 h h' ∧ (E = 2))) 0 0 0 [x_r 0, iv_c a1, iv_c a2, 147573952589676412928] [] h := by
  have la1 : a1 < 4294967296 := by first | decide | omega
  have la2 : a2 < 4294967296 := by first | decide | omega
  have hF := Fr.refl 32897 h
  refine x_aload (np := 1) (x := 0) (by decide +kernel) rfl (x_nc_le (by decide)) ?_
  have t1 : tw (h 0 8) := hJ.2.1
  refine x_getR (np := 4) (x := 648) (f := 8) (q := (h 0 8)) (by decide +kernel) (by decide) (by decide +kernel) rfl ?_
  have q2 : h (h 0 8) 1 = ((h 0 8) + 3) := tf_0_1 hJ t1
  refine x_getR (np := 7) (x := 513) (f := 1) (q := ((h 0 8) + 3)) (by decide +kernel) (by decide) (tg_0_513_1_1 t1) q2 ?_
  refine x_iload (np := 8) (x := 1) (by decide +kernel) rfl la1 ?_
  refine x_nU (t := 0) (mj := 147) (n := 2) (rc := 0) (ml := 2) (cc := 1) (ss := 6) (nr := 0) (np := 11) (as := [x_r ((h 0 8) + 3), iv_c a1]) (rest := []) (lo1 := [x_r ((h 0 8) + 3), iv_c a1]) (by decide +kernel) (by decide) (by decide +kernel) (by decide +kernel) (Or.inl rfl) rfl rfl (x_wr (tn_3 t1) (x_wi la1 x_wn)) x_wn (by decide) rfl ?_
  refine x_iload (np := 1) (x := 1) (by decide +kernel) rfl la1 ?_
  refine x_ifz (k := 2) (tg := 12) (np := 4) (by decide +kernel) (by decide) la1 (fun q3 => ?_) (fun q4 => ?_)
  · have q3 : a1 < 2147483648 := q3
    refine x_thr (np := 15) (x := 2) (by decide +kernel) (by decide +kernel) (Nat.le_trans x_wn (by decide)) (Or.inr ⟨_, rfl, ?_⟩)
    refine Or.inr ⟨_, rfl, ?_⟩
    exact ⟨hJ, hF, by decide⟩
  have q4 : ¬ (a1 < 2147483648) := q4
  refine x_iload (np := 5) (x := 1) (by decide +kernel) rfl la1 ?_
  refine x_aload (np := 6) (x := 0) (by decide +kernel) rfl (x_nc_le (tn_3 t1)) ?_
  have b5 := jB (e := 2) 0 hJ (rg_T3_2_0_1 t1) (by first | decide | omega) (by first | decide | omega)
  refine x_getC (np := 9) (x := 386) (f := 2) (q := (h ((h 0 8) + 3) 2)) (by decide +kernel) (by decide) (tg_3_386_2_0 t1) rfl (fun l6 => ?_)
  refine x_icmp (k := 2) (tg := 23) (np := 12) (by decide +kernel) (by decide) la1 l6 (fun q7 => ?_) (fun q8 => ?_)
  · have q7 : a1 < (h ((h 0 8) + 3) 2) := q7
    refine x_retV (np := 24) (x := 0) (by decide +kernel) (by decide +kernel) (Or.inl ⟨rfl, ?_⟩)
    refine x_iload (np := 12) (x := 2) (by decide +kernel) rfl la2 ?_
    refine x_const (np := 13) (x := 9223372034707292159) (a := 2147483647) (by decide +kernel) (by decide) (by decide) ?_
    refine x_icmp (k := 0) (tg := 21) (np := 16) (by decide +kernel) (by decide) la2 (by decide) (fun q9 => ?_) (fun q10 => ?_)
    · have q9 : a2 = 2147483647 := q9
      refine x_aload (np := 22) (x := 0) (by decide +kernel) rfl (x_nc_le (by decide)) ?_
      refine x_getR (np := 25) (x := 648) (f := 8) (q := (h 0 8)) (by decide +kernel) (by decide) (by decide +kernel) rfl ?_
      have q11 : h (h 0 8) 1 = ((h 0 8) + 3) := tf_0_1 hJ t1
      refine x_getR (np := 28) (x := 513) (f := 1) (q := ((h 0 8) + 3)) (by decide +kernel) (by decide) (tg_0_513_1_1 t1) q11 ?_
      refine x_iload (np := 29) (x := 1) (by decide +kernel) rfl la1 ?_
      refine x_const (np := 30) (x := 9223372051887161347) (a := 2147483651) (by decide +kernel) (by decide) (by decide) ?_
      refine x_nI (t := 6) (mj := 68) (n := 3) (rc := 7) (ml := 4) (nr := 0) (np := 33) (as := [x_r ((h 0 8) + 3), iv_c a1, iv_c 2147483651]) (rest := []) (lo1 := [x_r ((h 0 8) + 3), iv_c a1, iv_c 2147483651, 147573952589676412928]) (by decide +kernel) (by decide) (by decide +kernel) (x_rb_of (tr_3_7 t1)) rfl rfl (x_wr (tn_3 t1) (x_wi la1 (x_wi (by decide) x_wn))) x_wn (by decide) rfl ?_
      refine x_iload (np := 1) (x := 1) (by decide +kernel) rfl la1 ?_
      refine x_ifz (k := 2) (tg := 28) (np := 4) (by decide +kernel) (by decide) la1 (fun q12 => ?_) (fun q13 => ?_)
      · have q12 : a1 < 2147483648 := q12
        exfalso; omega
      have q13 : ¬ (a1 < 2147483648) := q13
      refine x_iload (np := 5) (x := 1) (by decide +kernel) rfl la1 ?_
      refine x_aload (np := 6) (x := 0) (by decide +kernel) rfl (x_nc_le (tn_3 t1)) ?_
      refine x_getC (np := 9) (x := 386) (f := 2) (q := (h ((h 0 8) + 3) 2)) (by decide +kernel) (by decide) (tg_3_386_2_0 t1) rfl (fun l14 => ?_)
      refine x_icmp (k := 3) (tg := 28) (np := 12) (by decide +kernel) (by decide) la1 l6 (fun q15 => ?_) (fun q16 => ?_)
      · have q15 : (h ((h 0 8) + 3) 2) ≤ a1 := q15
        exfalso; omega
      have q16 : ¬ ((h ((h 0 8) + 3) 2) ≤ a1) := q16
      refine x_iload (np := 13) (x := 2) (by decide +kernel) rfl (by decide) ?_
      refine x_ifz (k := 2) (tg := 28) (np := 16) (by decide +kernel) (by decide) (by decide) (fun q17 => ?_) (fun q18 => ?_)
      · have q17 : 2147483651 < 2147483648 := q17
        exfalso; omega
      have q18 : ¬ (2147483651 < 2147483648) := q18
      refine x_iload (np := 17) (x := 2) (by decide +kernel) rfl (by decide) ?_
      refine x_aload (np := 18) (x := 0) (by decide +kernel) rfl (x_nc_le (tn_3 t1)) ?_
      have b19 := jB (e := 0) 0 hJ (rg_T3_0_0_1 t1) (by first | decide | omega) (by first | decide | omega)
      have q20 : (h ((h 0 8) + 3) 0) = 2147483652 := by first | decide | omega
      refine x_getC (np := 21) (x := 384) (f := 0) (q := 2147483652) (by decide +kernel) (by decide) (tg_3_384_0_0 t1) q20 (fun l21 => ?_)
      refine x_icmp (k := 3) (tg := 28) (np := 24) (by decide +kernel) (by decide) (by decide) (by decide) (fun q22 => ?_) (fun q23 => ?_)
      · have q22 : 2147483652 ≤ 2147483651 := q22
        exfalso; omega
      have q23 : ¬ (2147483652 ≤ 2147483651) := q23
      refine x_const (np := 25) (x := 9223372043297226753) (a := 2147483649) (by decide +kernel) (by decide) (by decide) ?_
      refine x_goto (np := 28) (x := 29) (by decide +kernel) ?_
      refine x_istore (np := 30) (x := 3) (lo' := [x_r ((h 0 8) + 3), iv_c a1, iv_c 2147483651, iv_c 2147483649]) (by decide +kernel) (by decide) (Nat.le_of_ble_eq_true rfl) rfl ?_
      refine x_iload (np := 31) (x := 3) (by decide +kernel) rfl (by decide) ?_
      refine x_ifz (k := 0) (tg := 50) (np := 34) (by decide +kernel) (by decide) (by decide) (fun q24 => ?_) (fun q25 => ?_)
      · have q24 : 2147483649 = 2147483648 := q24
        exfalso; omega
      have q25 : ¬ (2147483649 = 2147483648) := q25
      refine x_aload (np := 35) (x := 0) (by decide +kernel) rfl (x_nc_le (tn_3 t1)) ?_
      have q26 : h ((h 0 8) + 3) 1 = ((h 0 8) + 4) := tf_3_1 hJ t1
      refine x_getR (np := 38) (x := 385) (f := 1) (q := ((h 0 8) + 4)) (by decide +kernel) (by decide) (tg_3_385_1_1 t1) q26 ?_
      refine x_iload (np := 39) (x := 1) (by decide +kernel) rfl la1 ?_
      refine x_aload (np := 40) (x := 0) (by decide +kernel) rfl (x_nc_le (tn_3 t1)) ?_
      refine x_getC (np := 43) (x := 384) (f := 0) (q := 2147483652) (by decide +kernel) (by decide) (tg_3_384_0_0 t1) q20 (fun l27 => ?_)
      obtain ⟨u28, q29⟩ : ∃ z, a1 = 2147483648 + z := ⟨a1 - 2147483648, by first | decide | omega⟩
      refine x_imul (np := 44) (x := 0) (i := u28) (j := 4) (v := (2147483648 + 4 * u28)) (by decide +kernel) (by first | decide | omega) (by first | decide | omega) (by first | decide | omega) (by first | decide | omega) la1 (by decide) ?_
      refine x_iload (np := 45) (x := 2) (by decide +kernel) rfl (by decide) ?_
      refine x_iadd (np := 46) (x := 0) (v := (2147483651 + 4 * u28)) (by decide +kernel) (by first | decide | omega) (by decide) (by first | decide | omega) (by first | decide | omega) ?_
      have b31 := jB (e := (3 + 4 * u28)) u28 hJ (rg_T4_3_4_10 t1) (by first | decide | omega) (by first | decide | omega)
      refine x_aldC (np := 47) (x := 0) (n := 40) (i := (3 + 4 * u28)) (q := ((h ((h 0 8) + 4) (3 + 4 * u28)))) (by decide +kernel) (ta_4_40 t1) (by first | decide | omega) (by first | decide | omega) (by decide) rfl (fun l32 => ?_)
      refine x_goto (np := 50) (x := 51) (by decide +kernel) ?_
      refine x_retI (np := 52) (x := 0) (by decide +kernel) l32 (Or.inl (by decide +kernel)) ⟨_, rfl, l32, ?_⟩
      refine x_istore (np := 34) (x := 3) (lo' := [x_r 0, iv_c a1, iv_c a2, iv_c ((h ((h 0 8) + 4) (3 + 4 * u28)))]) (by decide +kernel) l32 (Nat.le_of_ble_eq_true rfl) rfl ?_
      refine x_aload (np := 35) (x := 0) (by decide +kernel) rfl (x_nc_le (by decide)) ?_
      refine x_getR (np := 38) (x := 648) (f := 8) (q := (h 0 8)) (by decide +kernel) (by decide) (by decide +kernel) rfl ?_
      have q33 : h (h 0 8) 1 = ((h 0 8) + 3) := tf_0_1 hJ t1
      refine x_getR (np := 41) (x := 513) (f := 1) (q := ((h 0 8) + 3)) (by decide +kernel) (by decide) (tg_0_513_1_1 t1) q33 ?_
      refine x_iload (np := 42) (x := 1) (by decide +kernel) rfl la1 ?_
      refine x_const (np := 43) (x := 9223372051887161347) (a := 2147483651) (by decide +kernel) (by decide) (by decide) ?_
      refine x_iload (np := 44) (x := 2) (by decide +kernel) rfl la2 ?_
      refine x_cV (t := 6) (mj := 69) (n := 4) (rc := 7) (ml := 5) (nr := 0) (np := 47) (as := [x_r ((h 0 8) + 3), iv_c a1, iv_c 2147483651, iv_c a2]) (rest := []) (lo1 := [x_r ((h 0 8) + 3), iv_c a1, iv_c 2147483651, iv_c a2, 147573952589676412928]) (by decide +kernel) (by decide) (by decide +kernel) (x_rb_of (tr_3_7 t1)) rfl rfl (x_wr (tn_3 t1) (x_wi la1 (x_wi (by decide) (x_wi la2 x_wn)))) x_wn (by decide) rfl (c69_T3_c3 hJ t1 (by first | decide | omega)  (by first | decide | omega)) (fun h37 q36 => ?_)
      obtain ⟨j38, f39⟩ := q36
      have f42 := Fr.trans hF f39 (by decide)
      refine x_aload (np := 48) (x := 0) (by decide +kernel) rfl (x_nc_le (by decide)) ?_
      have q43 : h37 0 5 = 63 := by have z := jB (e := 5) 0 j38 rg_0_5_0_1 (by decide) (by decide); omega
      refine x_getR (np := 51) (x := 645) (f := 5) (q := 63) (by decide +kernel) (by decide) (by decide +kernel) q43 ?_
      refine x_nV (t := 8) (mj := 270) (n := 1) (rc := 5) (ml := 1) (nr := 0) (np := 54) (as := [x_r 63]) (rest := []) (lo1 := [x_r 63]) (by decide +kernel) (by decide) (by decide +kernel) (x_rb_of (by decide +kernel)) rfl rfl (x_wr (by decide) x_wn) x_wn (by decide) rfl ?_
      refine x_aload (np := 1) (x := 0) (by decide +kernel) rfl (x_nc_le (by decide)) ?_
      refine x_const (np := 2) (x := 9223372039002259456) (a := 2147483648) (by decide +kernel) (by decide) (by decide) ?_
      refine x_putI (np := 5) (x := 4878) (f := 14) (by decide +kernel) (by decide +kernel) (by decide) (Or.inr ⟨by decide, by first | decide | omega, by first | decide | omega⟩) ?_
      have j45 := jU (e := 14) (v := 2147483648) 0 j38 rg_63_14_0_1 (by first | decide | omega) (by first | decide | omega) (by first | decide | omega)
      have f47 := jF (e := 14) (v := 2147483648) 0 f42 rg_63_14_0_1 (by first | decide | omega) (by first | decide | omega) (by decide)
      generalize e46 : x_up h37 63 14 2147483648 = h44 at j45 f47 ⊢
      refine x_retV (np := 6) (x := 0) (by decide +kernel) (by decide +kernel) ⟨rfl, ?_⟩
      refine x_iload (np := 55) (x := 3) (by decide +kernel) rfl l32 ?_
      refine x_retI (np := 56) (x := 0) (by decide +kernel) l32 (Or.inl (by decide +kernel)) (Or.inl ⟨_, rfl, l32, ?_⟩)
      exact ⟨j45, f47, (by first | decide | omega)⟩
    have q10 : ¬ (a2 = 2147483647) := q10
    refine x_aload (np := 17) (x := 0) (by decide +kernel) rfl (x_nc_le (by decide)) ?_
    refine x_iload (np := 18) (x := 2) (by decide +kernel) rfl la2 ?_
    refine x_nU (t := 6) (mj := 145) (n := 2) (rc := 11) (ml := 2) (cc := 1) (ss := 6) (nr := 0) (np := 21) (as := [x_r 0, iv_c a2]) (rest := []) (lo1 := [x_r 0, iv_c a2]) (by decide +kernel) (by decide) (by decide +kernel) (by decide +kernel) (x_rb_of (by decide +kernel)) rfl rfl (x_wr (by decide) (x_wi la2 x_wn)) x_wn (by decide) rfl ?_
    refine x_iload (np := 1) (x := 1) (by decide +kernel) rfl la2 ?_
    refine x_ifz (k := 2) (tg := 15) (np := 4) (by decide +kernel) (by decide) la2 (fun q48 => ?_) (fun q49 => ?_)
    · have q48 : a2 < 2147483648 := q48
      refine x_thr (np := 18) (x := 2) (by decide +kernel) (by decide +kernel) (Nat.le_trans x_wn (by decide)) (Or.inr ⟨_, rfl, ?_⟩)
      refine Or.inr ⟨_, rfl, ?_⟩
      exact ⟨hJ, hF, by decide⟩
    have q49 : ¬ (a2 < 2147483648) := q49
    refine x_iload (np := 5) (x := 1) (by decide +kernel) rfl la2 ?_
    refine x_aload (np := 6) (x := 0) (by decide +kernel) rfl (x_nc_le (by decide)) ?_
    refine x_getR (np := 9) (x := 648) (f := 8) (q := (h 0 8)) (by decide +kernel) (by decide) (by decide +kernel) rfl ?_
    have b50 := jB (e := 7) 0 hJ (rg_T0_7_0_1 t1) (by first | decide | omega) (by first | decide | omega)
    refine x_getC (np := 12) (x := 519) (f := 7) (q := (h (h 0 8) 7)) (by decide +kernel) (by decide) (tg_0_519_7_0 t1) rfl (fun l51 => ?_)
    refine x_icmp (k := 2) (tg := 26) (np := 15) (by decide +kernel) (by decide) la2 l51 (fun q52 => ?_) (fun q53 => ?_)
    · have q52 : a2 < (h (h 0 8) 7) := q52
      refine x_retV (np := 27) (x := 0) (by decide +kernel) (by decide +kernel) (Or.inl ⟨rfl, ?_⟩)
      refine x_aload (np := 22) (x := 0) (by decide +kernel) rfl (x_nc_le (by decide)) ?_
      refine x_getR (np := 25) (x := 648) (f := 8) (q := (h 0 8)) (by decide +kernel) (by decide) (by decide +kernel) rfl ?_
      have q54 : h (h 0 8) 1 = ((h 0 8) + 3) := tf_0_1 hJ t1
      refine x_getR (np := 28) (x := 513) (f := 1) (q := ((h 0 8) + 3)) (by decide +kernel) (by decide) (tg_0_513_1_1 t1) q54 ?_
      refine x_iload (np := 29) (x := 1) (by decide +kernel) rfl la1 ?_
      refine x_const (np := 30) (x := 9223372051887161347) (a := 2147483651) (by decide +kernel) (by decide) (by decide) ?_
      refine x_nI (t := 6) (mj := 68) (n := 3) (rc := 7) (ml := 4) (nr := 0) (np := 33) (as := [x_r ((h 0 8) + 3), iv_c a1, iv_c 2147483651]) (rest := []) (lo1 := [x_r ((h 0 8) + 3), iv_c a1, iv_c 2147483651, 147573952589676412928]) (by decide +kernel) (by decide) (by decide +kernel) (x_rb_of (tr_3_7 t1)) rfl rfl (x_wr (tn_3 t1) (x_wi la1 (x_wi (by decide) x_wn))) x_wn (by decide) rfl ?_
      refine x_iload (np := 1) (x := 1) (by decide +kernel) rfl la1 ?_
      refine x_ifz (k := 2) (tg := 28) (np := 4) (by decide +kernel) (by decide) la1 (fun q55 => ?_) (fun q56 => ?_)
      · have q55 : a1 < 2147483648 := q55
        exfalso; omega
      have q56 : ¬ (a1 < 2147483648) := q56
      refine x_iload (np := 5) (x := 1) (by decide +kernel) rfl la1 ?_
      refine x_aload (np := 6) (x := 0) (by decide +kernel) rfl (x_nc_le (tn_3 t1)) ?_
      refine x_getC (np := 9) (x := 386) (f := 2) (q := (h ((h 0 8) + 3) 2)) (by decide +kernel) (by decide) (tg_3_386_2_0 t1) rfl (fun l57 => ?_)
      refine x_icmp (k := 3) (tg := 28) (np := 12) (by decide +kernel) (by decide) la1 l6 (fun q58 => ?_) (fun q59 => ?_)
      · have q58 : (h ((h 0 8) + 3) 2) ≤ a1 := q58
        exfalso; omega
      have q59 : ¬ ((h ((h 0 8) + 3) 2) ≤ a1) := q59
      refine x_iload (np := 13) (x := 2) (by decide +kernel) rfl (by decide) ?_
      refine x_ifz (k := 2) (tg := 28) (np := 16) (by decide +kernel) (by decide) (by decide) (fun q60 => ?_) (fun q61 => ?_)
      · have q60 : 2147483651 < 2147483648 := q60
        exfalso; omega
      have q61 : ¬ (2147483651 < 2147483648) := q61
      refine x_iload (np := 17) (x := 2) (by decide +kernel) rfl (by decide) ?_
      refine x_aload (np := 18) (x := 0) (by decide +kernel) rfl (x_nc_le (tn_3 t1)) ?_
      have b62 := jB (e := 0) 0 hJ (rg_T3_0_0_1 t1) (by first | decide | omega) (by first | decide | omega)
      have q63 : (h ((h 0 8) + 3) 0) = 2147483652 := by first | decide | omega
      refine x_getC (np := 21) (x := 384) (f := 0) (q := 2147483652) (by decide +kernel) (by decide) (tg_3_384_0_0 t1) q63 (fun l64 => ?_)
      refine x_icmp (k := 3) (tg := 28) (np := 24) (by decide +kernel) (by decide) (by decide) (by decide) (fun q65 => ?_) (fun q66 => ?_)
      · have q65 : 2147483652 ≤ 2147483651 := q65
        exfalso; omega
      have q66 : ¬ (2147483652 ≤ 2147483651) := q66
      refine x_const (np := 25) (x := 9223372043297226753) (a := 2147483649) (by decide +kernel) (by decide) (by decide) ?_
      refine x_goto (np := 28) (x := 29) (by decide +kernel) ?_
      refine x_istore (np := 30) (x := 3) (lo' := [x_r ((h 0 8) + 3), iv_c a1, iv_c 2147483651, iv_c 2147483649]) (by decide +kernel) (by decide) (Nat.le_of_ble_eq_true rfl) rfl ?_
      refine x_iload (np := 31) (x := 3) (by decide +kernel) rfl (by decide) ?_
      refine x_ifz (k := 0) (tg := 50) (np := 34) (by decide +kernel) (by decide) (by decide) (fun q67 => ?_) (fun q68 => ?_)
      · have q67 : 2147483649 = 2147483648 := q67
        exfalso; omega
      have q68 : ¬ (2147483649 = 2147483648) := q68
      refine x_aload (np := 35) (x := 0) (by decide +kernel) rfl (x_nc_le (tn_3 t1)) ?_
      have q69 : h ((h 0 8) + 3) 1 = ((h 0 8) + 4) := tf_3_1 hJ t1
      refine x_getR (np := 38) (x := 385) (f := 1) (q := ((h 0 8) + 4)) (by decide +kernel) (by decide) (tg_3_385_1_1 t1) q69 ?_
      refine x_iload (np := 39) (x := 1) (by decide +kernel) rfl la1 ?_
      refine x_aload (np := 40) (x := 0) (by decide +kernel) rfl (x_nc_le (tn_3 t1)) ?_
      refine x_getC (np := 43) (x := 384) (f := 0) (q := 2147483652) (by decide +kernel) (by decide) (tg_3_384_0_0 t1) q63 (fun l70 => ?_)
      obtain ⟨u71, q72⟩ : ∃ z, a1 = 2147483648 + z := ⟨a1 - 2147483648, by first | decide | omega⟩
      refine x_imul (np := 44) (x := 0) (i := u71) (j := 4) (v := (2147483648 + 4 * u71)) (by decide +kernel) (by first | decide | omega) (by first | decide | omega) (by first | decide | omega) (by first | decide | omega) la1 (by decide) ?_
      refine x_iload (np := 45) (x := 2) (by decide +kernel) rfl (by decide) ?_
      refine x_iadd (np := 46) (x := 0) (v := (2147483651 + 4 * u71)) (by decide +kernel) (by first | decide | omega) (by decide) (by first | decide | omega) (by first | decide | omega) ?_
      have b74 := jB (e := (3 + 4 * u71)) u71 hJ (rg_T4_3_4_10 t1) (by first | decide | omega) (by first | decide | omega)
      refine x_aldC (np := 47) (x := 0) (n := 40) (i := (3 + 4 * u71)) (q := ((h ((h 0 8) + 4) (3 + 4 * u71)))) (by decide +kernel) (ta_4_40 t1) (by first | decide | omega) (by first | decide | omega) (by decide) rfl (fun l75 => ?_)
      refine x_goto (np := 50) (x := 51) (by decide +kernel) ?_
      refine x_retI (np := 52) (x := 0) (by decide +kernel) l75 (Or.inl (by decide +kernel)) ⟨_, rfl, l75, ?_⟩
      refine x_istore (np := 34) (x := 3) (lo' := [x_r 0, iv_c a1, iv_c a2, iv_c ((h ((h 0 8) + 4) (3 + 4 * u71)))]) (by decide +kernel) l75 (Nat.le_of_ble_eq_true rfl) rfl ?_
      refine x_aload (np := 35) (x := 0) (by decide +kernel) rfl (x_nc_le (by decide)) ?_
      refine x_getR (np := 38) (x := 648) (f := 8) (q := (h 0 8)) (by decide +kernel) (by decide) (by decide +kernel) rfl ?_
      have q76 : h (h 0 8) 1 = ((h 0 8) + 3) := tf_0_1 hJ t1
      refine x_getR (np := 41) (x := 513) (f := 1) (q := ((h 0 8) + 3)) (by decide +kernel) (by decide) (tg_0_513_1_1 t1) q76 ?_
      refine x_iload (np := 42) (x := 1) (by decide +kernel) rfl la1 ?_
      refine x_const (np := 43) (x := 9223372051887161347) (a := 2147483651) (by decide +kernel) (by decide) (by decide) ?_
      refine x_iload (np := 44) (x := 2) (by decide +kernel) rfl la2 ?_
      refine x_cV (t := 6) (mj := 69) (n := 4) (rc := 7) (ml := 5) (nr := 0) (np := 47) (as := [x_r ((h 0 8) + 3), iv_c a1, iv_c 2147483651, iv_c a2]) (rest := []) (lo1 := [x_r ((h 0 8) + 3), iv_c a1, iv_c 2147483651, iv_c a2, 147573952589676412928]) (by decide +kernel) (by decide) (by decide +kernel) (x_rb_of (tr_3_7 t1)) rfl rfl (x_wr (tn_3 t1) (x_wi la1 (x_wi (by decide) (x_wi la2 x_wn)))) x_wn (by decide) rfl (c69_T3_c3 hJ t1 (by first | decide | omega)  (by first | decide | omega)) (fun h80 q79 => ?_)
      obtain ⟨j81, f82⟩ := q79
      have f85 := Fr.trans hF f82 (by decide)
      refine x_aload (np := 48) (x := 0) (by decide +kernel) rfl (x_nc_le (by decide)) ?_
      have q86 : h80 0 5 = 63 := by have z := jB (e := 5) 0 j81 rg_0_5_0_1 (by decide) (by decide); omega
      refine x_getR (np := 51) (x := 645) (f := 5) (q := 63) (by decide +kernel) (by decide) (by decide +kernel) q86 ?_
      refine x_nV (t := 8) (mj := 270) (n := 1) (rc := 5) (ml := 1) (nr := 0) (np := 54) (as := [x_r 63]) (rest := []) (lo1 := [x_r 63]) (by decide +kernel) (by decide) (by decide +kernel) (x_rb_of (by decide +kernel)) rfl rfl (x_wr (by decide) x_wn) x_wn (by decide) rfl ?_
      refine x_aload (np := 1) (x := 0) (by decide +kernel) rfl (x_nc_le (by decide)) ?_
      refine x_const (np := 2) (x := 9223372039002259456) (a := 2147483648) (by decide +kernel) (by decide) (by decide) ?_
      refine x_putI (np := 5) (x := 4878) (f := 14) (by decide +kernel) (by decide +kernel) (by decide) (Or.inr ⟨by decide, by first | decide | omega, by first | decide | omega⟩) ?_
      have j88 := jU (e := 14) (v := 2147483648) 0 j81 rg_63_14_0_1 (by first | decide | omega) (by first | decide | omega) (by first | decide | omega)
      have f90 := jF (e := 14) (v := 2147483648) 0 f85 rg_63_14_0_1 (by first | decide | omega) (by first | decide | omega) (by decide)
      generalize e89 : x_up h80 63 14 2147483648 = h87 at j88 f90 ⊢
      refine x_retV (np := 6) (x := 0) (by decide +kernel) (by decide +kernel) ⟨rfl, ?_⟩
      refine x_iload (np := 55) (x := 3) (by decide +kernel) rfl l75 ?_
      refine x_retI (np := 56) (x := 0) (by decide +kernel) l75 (Or.inl (by decide +kernel)) (Or.inl ⟨_, rfl, l75, ?_⟩)
      exact ⟨j88, f90, (by first | decide | omega)⟩
    have q53 : ¬ (a2 < (h (h 0 8) 7)) := q53
    refine x_thr (np := 18) (x := 2) (by decide +kernel) (by decide +kernel) (Nat.le_trans x_wn (by decide)) (Or.inr ⟨_, rfl, ?_⟩)
    refine Or.inr ⟨_, rfl, ?_⟩
    exact ⟨hJ, hF, by decide⟩
  have q8 : ¬ (a1 < (h ((h 0 8) + 3) 2)) := q8
  refine x_thr (np := 15) (x := 2) (by decide +kernel) (by decide +kernel) (Nat.le_trans x_wn (by decide)) (Or.inr ⟨_, rfl, ?_⟩)
  refine Or.inr ⟨_, rfl, ?_⟩
  exact ⟨hJ, hF, by decide⟩
set_option maxHeartbeats 0 in
/-- LentNamesLaw.wish(LLentNames;II[J)I -/
theorem c301_0_97 {sc : Nat × Nat} {d a1 a2 : Nat} {h : xh} (hJ : J h) (ba1 : 0 ≤ a1 ∧ a1 ≤ 4294967295) (ba2 : 0 ≤ a2 ∧ a2 ≤ 4294967295) : X sc 301 (d + 2) (xI fun r h' => J h' ∧ Fr 70368744210561 h h' ∧ (2147483648 ≤ r ∧ r ≤ 2147483649)) 0 0 0 [x_r 0, iv_c a1, iv_c a2, x_r 97, 147573952589676412928] [] h := by
  have la1 : a1 < 4294967296 := by first | decide | omega
  have la2 : a2 < 4294967296 := by first | decide | omega
  have hF := Fr.refl 70368744210561 h
  refine x_aload (np := 1) (x := 3) (by decide +kernel) rfl (x_nc_le (by decide)) ?_
  refine x_const (np := 2) (x := 9223372039002259456) (a := 2147483648) (by decide +kernel) (by decide) (by decide) ?_
  refine x_aload (np := 3) (x := 0) (by decide +kernel) rfl (x_nc_le (by decide)) ?_
  refine x_iload (np := 4) (x := 1) (by decide +kernel) rfl la1 ?_
  refine x_iload (np := 5) (x := 2) (by decide +kernel) rfl la2 ?_
  refine x_cT (t := 6) (mj := 125) (n := 3) (rc := 11) (ml := 4) (cc := 2) (ss := 12) (nr := 2) (np := 8) (as := [x_r 0, iv_c a1, iv_c a2]) (rest := [iv_c 2147483648, x_r 97]) (lo1 := [x_r 0, iv_c a1, iv_c a2, 147573952589676412928]) (by decide +kernel) (by decide) (by decide +kernel) (x_rb_of (by decide +kernel)) rfl rfl (x_wr (by decide) (x_wi la1 (x_wi la2 x_wn))) (x_wi (by decide) (x_wr (by decide) x_wn)) (by decide) rfl (c125_0 hJ  (by first | decide | omega) (by first | decide | omega)) (fun v1 h4 l2 q3 => ?_) (fun E6 h7 q5 => ?_)
  · obtain ⟨j8, f9, b10⟩ := q3
    have f11 := Fr.trans hF f9 (by decide)
    refine x_i2l (np := 9) (x := 0) (by decide +kernel) l2 ?_
    refine x_last (np := 10) (x := 0) (n := 1) (i := 0) (by decide +kernel) (by decide) (by decide +kernel) (by decide +kernel) (by first | decide | omega) (by first | decide | omega) (by decide) l2 ?_
    have j13 := jU (e := 0) (v := v1) 0 j8 rg_97_0_1_1 (by first | decide | omega) (by first | decide | omega) (by first | decide | omega)
    have f15 := jF (e := 0) (v := v1) 0 f11 rg_97_0_1_1 (by first | decide | omega) (by first | decide | omega) (by decide)
    generalize e14 : x_up h4 97 0 v1 = h12 at j13 f15 ⊢
    refine x_goto (np := 13) (x := 17) (by decide +kernel) ?_
    refine x_const (np := 18) (x := 9223372039002259456) (a := 2147483648) (by decide +kernel) (by decide) (by decide) ?_
    refine x_retI (np := 19) (x := 0) (by decide +kernel) (by decide) (Or.inl (by decide +kernel)) ⟨_, rfl, (by decide), ?_⟩
    exact ⟨j13, f15, (by first | decide | omega)⟩
  obtain ⟨j16, f17, e18⟩ := q5
  have f19 := Fr.trans hF f17 (by decide)
  rcases e18 with rfl
  · refine ⟨13, fun _ _ => rfl, ?_⟩
    refine x_astE (np := 15) (x := 4) (lo' := [x_r 0, iv_c a1, iv_c a2, x_r 97, 55340232221128654850]) (by decide +kernel) (Nat.le_of_ble_eq_true rfl) rfl ?_
    refine x_const (np := 16) (x := 9223372043297226753) (a := 2147483649) (by decide +kernel) (by decide) (by decide) ?_
    refine x_retI (np := 17) (x := 0) (by decide +kernel) (by decide) (Or.inl (by decide +kernel)) ⟨_, rfl, (by decide), ?_⟩
    exact ⟨j16, f19, (by first | decide | omega)⟩
set_option maxHeartbeats 0 in
/-- LentNames$PlanSearch.setEnds()V -/
theorem c55_63 {sc : Nat × Nat} {d  : Nat} {h : xh} (hJ : J h) : X sc 55 d (xV fun h' => J h' ∧ Fr 32769 h h') 0 0 0 [x_r 63, 147573952589676412928] [] h := by
  have hF := Fr.refl 32769 h
  refine x_const (np := 1) (x := 9223372039002259456) (a := 2147483648) (by decide +kernel) (by decide) (by decide) ?_
  refine x_istore (np := 2) (x := 1) (lo' := [x_r 63, iv_c 2147483648]) (by decide +kernel) (by decide) (Nat.le_of_ble_eq_true rfl) rfl ?_
  have p93 : ∀ (n : Nat) (v88 : Nat) (h90 : xh), 4294967296 - v88 < n → (2147483648 ≤ v88 ∧ v88 ≤ 2147483654) → J h90 → Fr 32768 h h90 → X sc 55 d (xV fun h' => J h' ∧ Fr 32769 h h') 0 0 2 [x_r 63, iv_c v88] [] h90 := by
    intro n
    induction n with
    | zero => intro v88 h90 q94; exact absurd q94 (Nat.not_lt_zero _)
    | succ n i95 =>
      intro v88 h90 q94 b89 j92 f91
      have f96 := Fr.trans hF f91 (by decide)
      refine x_iload (np := 3) (x := 1) (by decide +kernel) rfl (by first | decide | omega) ?_
      refine x_const (np := 5) (x := 9223372064772063238) (a := 2147483654) (by decide +kernel) (by decide) (by decide) ?_
      refine x_icmp (k := 3) (tg := 23) (np := 8) (by decide +kernel) (by decide) (by first | decide | omega) (by decide) (fun q97 => ?_) (fun q98 => ?_)
      · have q97 : 2147483654 ≤ v88 := q97
        refine x_retV (np := 24) (x := 0) (by decide +kernel) (by decide +kernel) ⟨rfl, ?_⟩
        exact ⟨j92, f96⟩
      have q98 : ¬ (2147483654 ≤ v88) := q98
      refine x_aload (np := 9) (x := 0) (by decide +kernel) rfl (x_nc_le (by decide)) ?_
      have q99 : h90 63 1 = 65 := by have z := jB (e := 1) 0 j92 rg_63_1_0_1 (by decide) (by decide); omega
      refine x_getR (np := 12) (x := 769) (f := 1) (q := 65) (by decide +kernel) (by decide) (by decide +kernel) q99 ?_
      refine x_iload (np := 13) (x := 1) (by decide +kernel) rfl (by first | decide | omega) ?_
      refine x_const (np := 16) (x := 9223389626893340671) (a := 2147487743) (by decide +kernel) (by decide) (by decide) ?_
      obtain ⟨u100, q101⟩ : ∃ z, v88 = 2147483648 + z := ⟨v88 - 2147483648, by first | decide | omega⟩
      refine x_ast (np := 17) (x := 0) (kd := 1) (n := 6) (i := u100) (by decide +kernel) (Or.inl rfl) (by decide +kernel) (by first | decide | omega) (by first | decide | omega) (by decide) (by decide) (fun z => absurd z (by decide)) ?_
      have j103 := jU (e := u100) (v := 2147487743) u100 j92 rg_65_0_1_6 (by first | decide | omega) (by first | decide | omega) (by first | decide | omega)
      have f105 := jF (e := u100) (v := 2147487743) u100 f96 rg_65_0_1_6 (by first | decide | omega) (by first | decide | omega) (by decide)
      have f106 := jF (e := u100) (v := 2147487743) u100 f91 rg_65_0_1_6 (by first | decide | omega) (by first | decide | omega) (by decide)
      generalize e104 : x_up h90 65 u100 2147487743 = h102 at j103 f105 f106 ⊢
      refine x_iinc (np := 20) (i := 1) (j := 2147483649) (v := (1 + v88)) (lo' := [x_r 63, iv_c (1 + v88)]) (by decide +kernel) (by decide) (by decide) rfl (by first | decide | omega) (by first | decide | omega) (by first | decide | omega) rfl ?_
      refine x_goto (np := 23) (x := 2) (by decide +kernel) ?_
      exact i95 (1 + v88) h102 (by first | decide | omega) (by first | decide | omega) j103 f106
  exact p93 _ 2147483648 h (Nat.lt_succ_self _) (by first | decide | omega) hJ (Fr.refl _ _)
set_option maxHeartbeats 0 in
/-- LentNames$PlanSearch.lacksWish()Z -/
theorem c57_63 {sc : Nat × Nat} {d  : Nat} {h : xh} (hJ : J h) : X sc 57 (d + 1) (xI fun r h' => J h' ∧ Fr 32768 h h' ∧ (2147483648 ≤ r ∧ r ≤ 2147483649)) 0 0 0 [x_r 63, 147573952589676412928, 147573952589676412928, 147573952589676412928, 147573952589676412928] [] h := by
  have hF := Fr.refl 32768 h
  refine x_const (np := 1) (x := 9223372039002259456) (a := 2147483648) (by decide +kernel) (by decide) (by decide) ?_
  refine x_istore (np := 2) (x := 1) (lo' := [x_r 63, iv_c 2147483648, 147573952589676412928, 147573952589676412928, 147573952589676412928]) (by decide +kernel) (by decide) (Nat.le_of_ble_eq_true rfl) rfl ?_
  have p960 : ∀ (n : Nat) (v955 : Nat) (w957 : Nat) (w958 : Nat) (w959 : Nat), 4294967296 - v955 < n → (2147483648 ≤ v955 ∧ v955 ≤ 2147483658) → X sc 57 (d + 1) (xI fun r h' => J h' ∧ Fr 32768 h h' ∧ (2147483648 ≤ r ∧ r ≤ 2147483649)) 0 0 2 [x_r 63, iv_c v955, w957, w958, w959] [] h := by
    intro n
    induction n with
    | zero => intro v955 w957 w958 w959 q961; exact absurd q961 (Nat.not_lt_zero _)
    | succ n i962 =>
      intro v955 w957 w958 w959 q961 b956
      refine x_iload (np := 3) (x := 1) (by decide +kernel) rfl (by first | decide | omega) ?_
      refine x_aload (np := 4) (x := 0) (by decide +kernel) rfl (x_nc_le (by decide)) ?_
      have t963 : tw (h 63 6) := hJ.2.2.2.2.2.1
      refine x_getR (np := 7) (x := 774) (f := 6) (q := (h 63 6)) (by decide +kernel) (by decide) (by decide +kernel) rfl ?_
      have q964 : h (h 63 6) 1 = ((h 63 6) + 3) := tf_0_1 hJ t963
      refine x_getR (np := 10) (x := 513) (f := 1) (q := ((h 63 6) + 3)) (by decide +kernel) (by decide) (tg_0_513_1_1 t963) q964 ?_
      have b965 := jB (e := 2) 0 hJ (rg_T3_2_0_1 t963) (by first | decide | omega) (by first | decide | omega)
      refine x_getC (np := 13) (x := 386) (f := 2) (q := (h ((h 63 6) + 3) 2)) (by decide +kernel) (by decide) (tg_3_386_2_0 t963) rfl (fun l966 => ?_)
      refine x_icmp (k := 3) (tg := 101) (np := 16) (by decide +kernel) (by decide) (by first | decide | omega) l966 (fun q967 => ?_) (fun q968 => ?_)
      · have q967 : (h ((h 63 6) + 3) 2) ≤ v955 := q967
        refine x_const (np := 102) (x := 9223372039002259456) (a := 2147483648) (by decide +kernel) (by decide) (by decide) ?_
        refine x_retI (np := 103) (x := 0) (by decide +kernel) (by decide) (Or.inr ⟨by decide +kernel, by first | decide | omega, by first | decide | omega⟩) ⟨_, rfl, (by decide), ?_⟩
        exact ⟨hJ, hF, (by first | decide | omega)⟩
      have q968 : ¬ ((h ((h 63 6) + 3) 2) ≤ v955) := q968
      refine x_aload (np := 17) (x := 0) (by decide +kernel) rfl (x_nc_le (by decide)) ?_
      refine x_getR (np := 20) (x := 774) (f := 6) (q := (h 63 6)) (by decide +kernel) (by decide) (by decide +kernel) rfl ?_
      have q969 : h (h 63 6) 1 = ((h 63 6) + 3) := tf_0_1 hJ t963
      refine x_getR (np := 23) (x := 513) (f := 1) (q := ((h 63 6) + 3)) (by decide +kernel) (by decide) (tg_0_513_1_1 t963) q969 ?_
      refine x_iload (np := 24) (x := 1) (by decide +kernel) rfl (by first | decide | omega) ?_
      refine x_const (np := 25) (x := 9223372039002259456) (a := 2147483648) (by decide +kernel) (by decide) (by decide) ?_
      refine x_nI (t := 6) (mj := 68) (n := 3) (rc := 7) (ml := 4) (nr := 0) (np := 28) (as := [x_r ((h 63 6) + 3), iv_c v955, iv_c 2147483648]) (rest := []) (lo1 := [x_r ((h 63 6) + 3), iv_c v955, iv_c 2147483648, 147573952589676412928]) (by decide +kernel) (by decide) (by decide +kernel) (x_rb_of (tr_3_7 t963)) rfl rfl (x_wr (tn_3 t963) (x_wi (by first | decide | omega) (x_wi (by decide) x_wn))) x_wn (by decide) rfl ?_
      refine x_iload (np := 1) (x := 1) (by decide +kernel) rfl (by first | decide | omega) ?_
      refine x_ifz (k := 2) (tg := 28) (np := 4) (by decide +kernel) (by decide) (by first | decide | omega) (fun q970 => ?_) (fun q971 => ?_)
      · have q970 : v955 < 2147483648 := q970
        exfalso; omega
      have q971 : ¬ (v955 < 2147483648) := q971
      refine x_iload (np := 5) (x := 1) (by decide +kernel) rfl (by first | decide | omega) ?_
      refine x_aload (np := 6) (x := 0) (by decide +kernel) rfl (x_nc_le (tn_3 t963)) ?_
      refine x_getC (np := 9) (x := 386) (f := 2) (q := (h ((h 63 6) + 3) 2)) (by decide +kernel) (by decide) (tg_3_386_2_0 t963) rfl (fun l972 => ?_)
      refine x_icmp (k := 3) (tg := 28) (np := 12) (by decide +kernel) (by decide) (by first | decide | omega) l966 (fun q973 => ?_) (fun q974 => ?_)
      · have q973 : (h ((h 63 6) + 3) 2) ≤ v955 := q973
        exfalso; omega
      have q974 : ¬ ((h ((h 63 6) + 3) 2) ≤ v955) := q974
      refine x_iload (np := 13) (x := 2) (by decide +kernel) rfl (by decide) ?_
      refine x_ifz (k := 2) (tg := 28) (np := 16) (by decide +kernel) (by decide) (by decide) (fun q975 => ?_) (fun q976 => ?_)
      · have q975 : 2147483648 < 2147483648 := q975
        exfalso; omega
      have q976 : ¬ (2147483648 < 2147483648) := q976
      refine x_iload (np := 17) (x := 2) (by decide +kernel) rfl (by decide) ?_
      refine x_aload (np := 18) (x := 0) (by decide +kernel) rfl (x_nc_le (tn_3 t963)) ?_
      have b977 := jB (e := 0) 0 hJ (rg_T3_0_0_1 t963) (by first | decide | omega) (by first | decide | omega)
      have q978 : (h ((h 63 6) + 3) 0) = 2147483652 := by first | decide | omega
      refine x_getC (np := 21) (x := 384) (f := 0) (q := 2147483652) (by decide +kernel) (by decide) (tg_3_384_0_0 t963) q978 (fun l979 => ?_)
      refine x_icmp (k := 3) (tg := 28) (np := 24) (by decide +kernel) (by decide) (by decide) (by decide) (fun q980 => ?_) (fun q981 => ?_)
      · have q980 : 2147483652 ≤ 2147483648 := q980
        exfalso; omega
      have q981 : ¬ (2147483652 ≤ 2147483648) := q981
      refine x_const (np := 25) (x := 9223372043297226753) (a := 2147483649) (by decide +kernel) (by decide) (by decide) ?_
      refine x_goto (np := 28) (x := 29) (by decide +kernel) ?_
      refine x_istore (np := 30) (x := 3) (lo' := [x_r ((h 63 6) + 3), iv_c v955, iv_c 2147483648, iv_c 2147483649]) (by decide +kernel) (by decide) (Nat.le_of_ble_eq_true rfl) rfl ?_
      refine x_iload (np := 31) (x := 3) (by decide +kernel) rfl (by decide) ?_
      refine x_ifz (k := 0) (tg := 50) (np := 34) (by decide +kernel) (by decide) (by decide) (fun q982 => ?_) (fun q983 => ?_)
      · have q982 : 2147483649 = 2147483648 := q982
        exfalso; omega
      have q983 : ¬ (2147483649 = 2147483648) := q983
      refine x_aload (np := 35) (x := 0) (by decide +kernel) rfl (x_nc_le (tn_3 t963)) ?_
      have q984 : h ((h 63 6) + 3) 1 = ((h 63 6) + 4) := tf_3_1 hJ t963
      refine x_getR (np := 38) (x := 385) (f := 1) (q := ((h 63 6) + 4)) (by decide +kernel) (by decide) (tg_3_385_1_1 t963) q984 ?_
      refine x_iload (np := 39) (x := 1) (by decide +kernel) rfl (by first | decide | omega) ?_
      refine x_aload (np := 40) (x := 0) (by decide +kernel) rfl (x_nc_le (tn_3 t963)) ?_
      refine x_getC (np := 43) (x := 384) (f := 0) (q := 2147483652) (by decide +kernel) (by decide) (tg_3_384_0_0 t963) q978 (fun l985 => ?_)
      obtain ⟨u986, q987⟩ : ∃ z, v955 = 2147483648 + z := ⟨v955 - 2147483648, by first | decide | omega⟩
      refine x_imul (np := 44) (x := 0) (i := u986) (j := 4) (v := (2147483648 + 4 * u986)) (by decide +kernel) (by first | decide | omega) (by first | decide | omega) (by first | decide | omega) (by first | decide | omega) (by first | decide | omega) (by decide) ?_
      refine x_iload (np := 45) (x := 2) (by decide +kernel) rfl (by decide) ?_
      refine x_iadd (np := 46) (x := 0) (v := (2147483648 + 4 * u986)) (by decide +kernel) (by first | decide | omega) (by decide) (by first | decide | omega) (by first | decide | omega) ?_
      have b989 := jB (e := (4 * u986)) u986 hJ (rg_T4_0_4_10 t963) (by first | decide | omega) (by first | decide | omega)
      refine x_aldC (np := 47) (x := 0) (n := 40) (i := (4 * u986)) (q := ((h ((h 63 6) + 4) (4 * u986)))) (by decide +kernel) (ta_4_40 t963) (by first | decide | omega) (by first | decide | omega) (by decide) rfl (fun l990 => ?_)
      refine x_goto (np := 50) (x := 51) (by decide +kernel) ?_
      refine x_retI (np := 52) (x := 0) (by decide +kernel) l990 (Or.inl (by decide +kernel)) ⟨_, rfl, l990, ?_⟩
      refine x_istore (np := 29) (x := 2) (lo' := [x_r 63, iv_c v955, iv_c ((h ((h 63 6) + 4) (4 * u986))), w958, w959]) (by decide +kernel) l990 (Nat.le_of_ble_eq_true rfl) rfl ?_
      refine x_aload (np := 30) (x := 0) (by decide +kernel) rfl (x_nc_le (by decide)) ?_
      refine x_getR (np := 33) (x := 774) (f := 6) (q := (h 63 6)) (by decide +kernel) (by decide) (by decide +kernel) rfl ?_
      have q991 : h (h 63 6) 1 = ((h 63 6) + 3) := tf_0_1 hJ t963
      refine x_getR (np := 36) (x := 513) (f := 1) (q := ((h 63 6) + 3)) (by decide +kernel) (by decide) (tg_0_513_1_1 t963) q991 ?_
      refine x_iload (np := 37) (x := 1) (by decide +kernel) rfl (by first | decide | omega) ?_
      refine x_const (np := 38) (x := 9223372051887161347) (a := 2147483651) (by decide +kernel) (by decide) (by decide) ?_
      refine x_nI (t := 6) (mj := 68) (n := 3) (rc := 7) (ml := 4) (nr := 0) (np := 41) (as := [x_r ((h 63 6) + 3), iv_c v955, iv_c 2147483651]) (rest := []) (lo1 := [x_r ((h 63 6) + 3), iv_c v955, iv_c 2147483651, 147573952589676412928]) (by decide +kernel) (by decide) (by decide +kernel) (x_rb_of (tr_3_7 t963)) rfl rfl (x_wr (tn_3 t963) (x_wi (by first | decide | omega) (x_wi (by decide) x_wn))) x_wn (by decide) rfl ?_
      refine x_iload (np := 1) (x := 1) (by decide +kernel) rfl (by first | decide | omega) ?_
      refine x_ifz (k := 2) (tg := 28) (np := 4) (by decide +kernel) (by decide) (by first | decide | omega) (fun q992 => ?_) (fun q993 => ?_)
      · have q992 : v955 < 2147483648 := q992
        exfalso; omega
      have q993 : ¬ (v955 < 2147483648) := q993
      refine x_iload (np := 5) (x := 1) (by decide +kernel) rfl (by first | decide | omega) ?_
      refine x_aload (np := 6) (x := 0) (by decide +kernel) rfl (x_nc_le (tn_3 t963)) ?_
      refine x_getC (np := 9) (x := 386) (f := 2) (q := (h ((h 63 6) + 3) 2)) (by decide +kernel) (by decide) (tg_3_386_2_0 t963) rfl (fun l994 => ?_)
      refine x_icmp (k := 3) (tg := 28) (np := 12) (by decide +kernel) (by decide) (by first | decide | omega) l966 (fun q995 => ?_) (fun q996 => ?_)
      · have q995 : (h ((h 63 6) + 3) 2) ≤ v955 := q995
        exfalso; omega
      have q996 : ¬ ((h ((h 63 6) + 3) 2) ≤ v955) := q996
      refine x_iload (np := 13) (x := 2) (by decide +kernel) rfl (by decide) ?_
      refine x_ifz (k := 2) (tg := 28) (np := 16) (by decide +kernel) (by decide) (by decide) (fun q997 => ?_) (fun q998 => ?_)
      · have q997 : 2147483651 < 2147483648 := q997
        exfalso; omega
      have q998 : ¬ (2147483651 < 2147483648) := q998
      refine x_iload (np := 17) (x := 2) (by decide +kernel) rfl (by decide) ?_
      refine x_aload (np := 18) (x := 0) (by decide +kernel) rfl (x_nc_le (tn_3 t963)) ?_
      refine x_getC (np := 21) (x := 384) (f := 0) (q := 2147483652) (by decide +kernel) (by decide) (tg_3_384_0_0 t963) q978 (fun l999 => ?_)
      refine x_icmp (k := 3) (tg := 28) (np := 24) (by decide +kernel) (by decide) (by decide) (by decide) (fun q1000 => ?_) (fun q1001 => ?_)
      · have q1000 : 2147483652 ≤ 2147483651 := q1000
        exfalso; omega
      have q1001 : ¬ (2147483652 ≤ 2147483651) := q1001
      refine x_const (np := 25) (x := 9223372043297226753) (a := 2147483649) (by decide +kernel) (by decide) (by decide) ?_
      refine x_goto (np := 28) (x := 29) (by decide +kernel) ?_
      refine x_istore (np := 30) (x := 3) (lo' := [x_r ((h 63 6) + 3), iv_c v955, iv_c 2147483651, iv_c 2147483649]) (by decide +kernel) (by decide) (Nat.le_of_ble_eq_true rfl) rfl ?_
      refine x_iload (np := 31) (x := 3) (by decide +kernel) rfl (by decide) ?_
      refine x_ifz (k := 0) (tg := 50) (np := 34) (by decide +kernel) (by decide) (by decide) (fun q1002 => ?_) (fun q1003 => ?_)
      · have q1002 : 2147483649 = 2147483648 := q1002
        exfalso; omega
      have q1003 : ¬ (2147483649 = 2147483648) := q1003
      refine x_aload (np := 35) (x := 0) (by decide +kernel) rfl (x_nc_le (tn_3 t963)) ?_
      have q1004 : h ((h 63 6) + 3) 1 = ((h 63 6) + 4) := tf_3_1 hJ t963
      refine x_getR (np := 38) (x := 385) (f := 1) (q := ((h 63 6) + 4)) (by decide +kernel) (by decide) (tg_3_385_1_1 t963) q1004 ?_
      refine x_iload (np := 39) (x := 1) (by decide +kernel) rfl (by first | decide | omega) ?_
      refine x_aload (np := 40) (x := 0) (by decide +kernel) rfl (x_nc_le (tn_3 t963)) ?_
      refine x_getC (np := 43) (x := 384) (f := 0) (q := 2147483652) (by decide +kernel) (by decide) (tg_3_384_0_0 t963) q978 (fun l1005 => ?_)
      refine x_imul (np := 44) (x := 0) (i := u986) (j := 4) (v := (2147483648 + 4 * u986)) (by decide +kernel) (by first | decide | omega) (by first | decide | omega) (by first | decide | omega) (by first | decide | omega) (by first | decide | omega) (by decide) ?_
      refine x_iload (np := 45) (x := 2) (by decide +kernel) rfl (by decide) ?_
      refine x_iadd (np := 46) (x := 0) (v := (2147483651 + 4 * u986)) (by decide +kernel) (by first | decide | omega) (by decide) (by first | decide | omega) (by first | decide | omega) ?_
      have b1007 := jB (e := (3 + 4 * u986)) u986 hJ (rg_T4_3_4_10 t963) (by first | decide | omega) (by first | decide | omega)
      refine x_aldC (np := 47) (x := 0) (n := 40) (i := (3 + 4 * u986)) (q := ((h ((h 63 6) + 4) (3 + 4 * u986)))) (by decide +kernel) (ta_4_40 t963) (by first | decide | omega) (by first | decide | omega) (by decide) rfl (fun l1008 => ?_)
      refine x_goto (np := 50) (x := 51) (by decide +kernel) ?_
      refine x_retI (np := 52) (x := 0) (by decide +kernel) l1008 (Or.inl (by decide +kernel)) ⟨_, rfl, l1008, ?_⟩
      refine x_istore (np := 42) (x := 3) (lo' := [x_r 63, iv_c v955, iv_c ((h ((h 63 6) + 4) (4 * u986))), iv_c ((h ((h 63 6) + 4) (3 + 4 * u986))), w959]) (by decide +kernel) l1008 (Nat.le_of_ble_eq_true rfl) rfl ?_
      refine x_aload (np := 43) (x := 0) (by decide +kernel) rfl (x_nc_le (by decide)) ?_
      refine x_getR (np := 46) (x := 774) (f := 6) (q := (h 63 6)) (by decide +kernel) (by decide) (by decide +kernel) rfl ?_
      have q1009 : h (h 63 6) 1 = ((h 63 6) + 3) := tf_0_1 hJ t963
      refine x_getR (np := 49) (x := 513) (f := 1) (q := ((h 63 6) + 3)) (by decide +kernel) (by decide) (tg_0_513_1_1 t963) q1009 ?_
      refine x_iload (np := 50) (x := 1) (by decide +kernel) rfl (by first | decide | omega) ?_
      refine x_const (np := 51) (x := 9223372047592194050) (a := 2147483650) (by decide +kernel) (by decide) (by decide) ?_
      refine x_nI (t := 6) (mj := 68) (n := 3) (rc := 7) (ml := 4) (nr := 0) (np := 54) (as := [x_r ((h 63 6) + 3), iv_c v955, iv_c 2147483650]) (rest := []) (lo1 := [x_r ((h 63 6) + 3), iv_c v955, iv_c 2147483650, 147573952589676412928]) (by decide +kernel) (by decide) (by decide +kernel) (x_rb_of (tr_3_7 t963)) rfl rfl (x_wr (tn_3 t963) (x_wi (by first | decide | omega) (x_wi (by decide) x_wn))) x_wn (by decide) rfl ?_
      refine x_iload (np := 1) (x := 1) (by decide +kernel) rfl (by first | decide | omega) ?_
      refine x_ifz (k := 2) (tg := 28) (np := 4) (by decide +kernel) (by decide) (by first | decide | omega) (fun q1010 => ?_) (fun q1011 => ?_)
      · have q1010 : v955 < 2147483648 := q1010
        exfalso; omega
      have q1011 : ¬ (v955 < 2147483648) := q1011
      refine x_iload (np := 5) (x := 1) (by decide +kernel) rfl (by first | decide | omega) ?_
      refine x_aload (np := 6) (x := 0) (by decide +kernel) rfl (x_nc_le (tn_3 t963)) ?_
      refine x_getC (np := 9) (x := 386) (f := 2) (q := (h ((h 63 6) + 3) 2)) (by decide +kernel) (by decide) (tg_3_386_2_0 t963) rfl (fun l1012 => ?_)
      refine x_icmp (k := 3) (tg := 28) (np := 12) (by decide +kernel) (by decide) (by first | decide | omega) l966 (fun q1013 => ?_) (fun q1014 => ?_)
      · have q1013 : (h ((h 63 6) + 3) 2) ≤ v955 := q1013
        exfalso; omega
      have q1014 : ¬ ((h ((h 63 6) + 3) 2) ≤ v955) := q1014
      refine x_iload (np := 13) (x := 2) (by decide +kernel) rfl (by decide) ?_
      refine x_ifz (k := 2) (tg := 28) (np := 16) (by decide +kernel) (by decide) (by decide) (fun q1015 => ?_) (fun q1016 => ?_)
      · have q1015 : 2147483650 < 2147483648 := q1015
        exfalso; omega
      have q1016 : ¬ (2147483650 < 2147483648) := q1016
      refine x_iload (np := 17) (x := 2) (by decide +kernel) rfl (by decide) ?_
      refine x_aload (np := 18) (x := 0) (by decide +kernel) rfl (x_nc_le (tn_3 t963)) ?_
      refine x_getC (np := 21) (x := 384) (f := 0) (q := 2147483652) (by decide +kernel) (by decide) (tg_3_384_0_0 t963) q978 (fun l1017 => ?_)
      refine x_icmp (k := 3) (tg := 28) (np := 24) (by decide +kernel) (by decide) (by decide) (by decide) (fun q1018 => ?_) (fun q1019 => ?_)
      · have q1018 : 2147483652 ≤ 2147483650 := q1018
        exfalso; omega
      have q1019 : ¬ (2147483652 ≤ 2147483650) := q1019
      refine x_const (np := 25) (x := 9223372043297226753) (a := 2147483649) (by decide +kernel) (by decide) (by decide) ?_
      refine x_goto (np := 28) (x := 29) (by decide +kernel) ?_
      refine x_istore (np := 30) (x := 3) (lo' := [x_r ((h 63 6) + 3), iv_c v955, iv_c 2147483650, iv_c 2147483649]) (by decide +kernel) (by decide) (Nat.le_of_ble_eq_true rfl) rfl ?_
      refine x_iload (np := 31) (x := 3) (by decide +kernel) rfl (by decide) ?_
      refine x_ifz (k := 0) (tg := 50) (np := 34) (by decide +kernel) (by decide) (by decide) (fun q1020 => ?_) (fun q1021 => ?_)
      · have q1020 : 2147483649 = 2147483648 := q1020
        exfalso; omega
      have q1021 : ¬ (2147483649 = 2147483648) := q1021
      refine x_aload (np := 35) (x := 0) (by decide +kernel) rfl (x_nc_le (tn_3 t963)) ?_
      have q1022 : h ((h 63 6) + 3) 1 = ((h 63 6) + 4) := tf_3_1 hJ t963
      refine x_getR (np := 38) (x := 385) (f := 1) (q := ((h 63 6) + 4)) (by decide +kernel) (by decide) (tg_3_385_1_1 t963) q1022 ?_
      refine x_iload (np := 39) (x := 1) (by decide +kernel) rfl (by first | decide | omega) ?_
      refine x_aload (np := 40) (x := 0) (by decide +kernel) rfl (x_nc_le (tn_3 t963)) ?_
      refine x_getC (np := 43) (x := 384) (f := 0) (q := 2147483652) (by decide +kernel) (by decide) (tg_3_384_0_0 t963) q978 (fun l1023 => ?_)
      refine x_imul (np := 44) (x := 0) (i := u986) (j := 4) (v := (2147483648 + 4 * u986)) (by decide +kernel) (by first | decide | omega) (by first | decide | omega) (by first | decide | omega) (by first | decide | omega) (by first | decide | omega) (by decide) ?_
      refine x_iload (np := 45) (x := 2) (by decide +kernel) rfl (by decide) ?_
      refine x_iadd (np := 46) (x := 0) (v := (2147483650 + 4 * u986)) (by decide +kernel) (by first | decide | omega) (by decide) (by first | decide | omega) (by first | decide | omega) ?_
      refine x_aldC (np := 47) (x := 0) (n := 40) (i := (2 + 4 * u986)) (q := ((h ((h 63 6) + 4) (2 + 4 * u986)))) (by decide +kernel) (ta_4_40 t963) (by first | decide | omega) (by first | decide | omega) (by decide) rfl (fun l1025 => ?_)
      refine x_goto (np := 50) (x := 51) (by decide +kernel) ?_
      refine x_retI (np := 52) (x := 0) (by decide +kernel) l1025 (Or.inl (by decide +kernel)) ⟨_, rfl, l1025, ?_⟩
      refine x_istore (np := 56) (x := 4) (lo' := [x_r 63, iv_c v955, iv_c ((h ((h 63 6) + 4) (4 * u986))), iv_c ((h ((h 63 6) + 4) (3 + 4 * u986))), iv_c ((h ((h 63 6) + 4) (2 + 4 * u986)))]) (by decide +kernel) l1025 (Nat.le_of_ble_eq_true rfl) rfl ?_
      refine x_iload (np := 57) (x := 3) (by decide +kernel) rfl l1008 ?_
      refine x_const (np := 58) (x := 9223372034707292159) (a := 2147483647) (by decide +kernel) (by decide) (by decide) ?_
      refine x_icmp (k := 0) (tg := 95) (np := 61) (by decide +kernel) (by decide) l1008 (by decide) (fun q1026 => ?_) (fun q1027 => ?_)
      · have q1026 : ((h ((h 63 6) + 4) (3 + 4 * u986))) = 2147483647 := q1026
        refine x_iinc (np := 98) (i := 1) (j := 2147483649) (v := (1 + v955)) (lo' := [x_r 63, iv_c (1 + v955), iv_c ((h ((h 63 6) + 4) (4 * u986))), iv_c ((h ((h 63 6) + 4) (3 + 4 * u986))), iv_c ((h ((h 63 6) + 4) (2 + 4 * u986)))]) (by decide +kernel) (by decide) (by decide) rfl (by first | decide | omega) (by first | decide | omega) (by first | decide | omega) rfl ?_
        refine x_goto (np := 101) (x := 2) (by decide +kernel) ?_
        exact i962 (1 + v955) (iv_c ((h ((h 63 6) + 4) (4 * u986)))) (iv_c ((h ((h 63 6) + 4) (3 + 4 * u986)))) (iv_c ((h ((h 63 6) + 4) (2 + 4 * u986)))) (by first | decide | omega) (by first | decide | omega)
      have q1027 : ¬ (((h ((h 63 6) + 4) (3 + 4 * u986))) = 2147483647) := q1027
      refine x_aload (np := 62) (x := 0) (by decide +kernel) rfl (x_nc_le (by decide)) ?_
      have q1028 : h 63 0 = 64 := by have z := jB (e := 0) 0 hJ rg_63_0_0_1 (by decide) (by decide); omega
      refine x_getR (np := 65) (x := 768) (f := 0) (q := 64) (by decide +kernel) (by decide) (by decide +kernel) q1028 ?_
      refine x_iload (np := 66) (x := 2) (by decide +kernel) rfl l990 ?_
      refine x_iload (np := 67) (x := 3) (by decide +kernel) rfl l1008 ?_
      refine x_nI (t := 7) (mj := 149) (n := 2) (rc := 0) (ml := 2) (nr := 1) (np := 70) (as := [iv_c ((h ((h 63 6) + 4) (4 * u986))), iv_c ((h ((h 63 6) + 4) (3 + 4 * u986)))]) (rest := [x_r 64]) (lo1 := [iv_c ((h ((h 63 6) + 4) (4 * u986))), iv_c ((h ((h 63 6) + 4) (3 + 4 * u986)))]) (by decide +kernel) (by decide) (by decide +kernel) (Or.inl rfl) rfl rfl (x_wi l990 (x_wi l1008 x_wn)) (x_wr (by decide) x_wn) (by decide) rfl ?_
      refine x_iload (np := 1) (x := 0) (by decide +kernel) rfl l990 ?_
      refine x_const (np := 3) (x := 9223372064772063238) (a := 2147483654) (by decide +kernel) (by decide) (by decide) ?_
      obtain ⟨u1029, q1030⟩ : ∃ z, ((h ((h 63 6) + 4) (4 * u986))) = 2147483648 + z := ⟨((h ((h 63 6) + 4) (4 * u986))) - 2147483648, by first | decide | omega⟩
      refine x_imul (np := 4) (x := 0) (i := u1029) (j := 6) (v := (2147483648 + 6 * u1029)) (by decide +kernel) (by first | decide | omega) (by first | decide | omega) (by first | decide | omega) (by first | decide | omega) l990 (by decide) ?_
      refine x_iload (np := 5) (x := 1) (by decide +kernel) rfl l1008 ?_
      refine x_iadd (np := 6) (x := 0) (v := (6 * u1029 + (h ((h 63 6) + 4) (3 + 4 * u986)))) (by decide +kernel) (by first | decide | omega) l1008 (by first | decide | omega) (by first | decide | omega) ?_
      refine x_retI (np := 7) (x := 0) (by decide +kernel) (by first | decide | omega) (Or.inl (by decide +kernel)) ⟨_, rfl, (by first | decide | omega), ?_⟩
      obtain ⟨u1032, q1033⟩ : ∃ z, ((h ((h 63 6) + 4) (3 + 4 * u986))) = 2147483648 + z := ⟨((h ((h 63 6) + 4) (3 + 4 * u986))) - 2147483648, by first | decide | omega⟩
      refine x_aldC (np := 71) (x := 0) (n := 36) (i := (6 * u1029 + u1032)) (q := ((h 64 (6 * u1029 + u1032)))) (by decide +kernel) (by decide +kernel) (by first | decide | omega) (by first | decide | omega) (by decide) rfl (fun l1034 => ?_)
      refine x_iload (np := 73) (x := 4) (by decide +kernel) rfl l1025 ?_
      refine x_cP (t := 7) (mj := 148) (n := 2) (rc := 0) (ml := 2) (nr := 0) (np := 76) (as := [iv_c ((h 64 (6 * u1029 + u1032))), iv_c ((h ((h 63 6) + 4) (2 + 4 * u986)))]) (rest := []) (lo1 := [iv_c ((h 64 (6 * u1029 + u1032))), iv_c ((h ((h 63 6) + 4) (2 + 4 * u986)))]) (by decide +kernel) (by decide) (by decide +kernel) (Or.inl rfl) rfl rfl (x_wi l1034 (x_wi l1025 x_wn)) x_wn (by decide) rfl (c148 hJ (by first | decide | omega) (by first | decide | omega)) (fun v1035 l1036 q1037 => ?_)
      refine x_ifz (k := 1) (tg := 95) (np := 79) (by decide +kernel) (by decide) l1036 (fun q1038 => ?_) (fun q1039 => ?_)
      · have q1038 : v1035 ≠ 2147483648 := q1038
        refine x_iinc (np := 98) (i := 1) (j := 2147483649) (v := (1 + v955)) (lo' := [x_r 63, iv_c (1 + v955), iv_c ((h ((h 63 6) + 4) (4 * u986))), iv_c ((h ((h 63 6) + 4) (3 + 4 * u986))), iv_c ((h ((h 63 6) + 4) (2 + 4 * u986)))]) (by decide +kernel) (by decide) (by decide) rfl (by first | decide | omega) (by first | decide | omega) (by first | decide | omega) rfl ?_
        refine x_goto (np := 101) (x := 2) (by decide +kernel) ?_
        exact i962 (1 + v955) (iv_c ((h ((h 63 6) + 4) (4 * u986)))) (iv_c ((h ((h 63 6) + 4) (3 + 4 * u986)))) (iv_c ((h ((h 63 6) + 4) (2 + 4 * u986)))) (by first | decide | omega) (by first | decide | omega)
      have q1039 : ¬ (v1035 ≠ 2147483648) := q1039
      refine x_aload (np := 80) (x := 0) (by decide +kernel) rfl (x_nc_le (by decide)) ?_
      refine x_const (np := 81) (x := 9223372043297226753) (a := 2147483649) (by decide +kernel) (by decide) (by decide) ?_
      refine x_iload (np := 82) (x := 2) (by decide +kernel) rfl l990 ?_
      refine x_any (np := 83) (k9 := 3) (by decide +kernel) (by decide) (by decide) l990 (fun v1040 l1041 => ?_)
      refine x_const (np := 84) (x := 9223372043297226753) (a := 2147483649) (by decide +kernel) (by decide) (by decide) ?_
      refine x_iload (np := 85) (x := 3) (by decide +kernel) rfl l1008 ?_
      refine x_any (np := 86) (k9 := 3) (by decide +kernel) (by decide) (by decide) l1008 (fun v1042 l1043 => ?_)
      refine x_iload (np := 88) (x := 4) (by decide +kernel) rfl l1025 ?_
      refine x_iload (np := 90) (x := 4) (by decide +kernel) rfl l1025 ?_
      refine x_nV (t := 8) (mj := 273) (n := 5) (rc := 5) (ml := 5) (nr := 0) (np := 93) (as := [x_r 63, iv_c v1040, iv_c v1042, iv_c ((h ((h 63 6) + 4) (2 + 4 * u986))), iv_c ((h ((h 63 6) + 4) (2 + 4 * u986)))]) (rest := []) (lo1 := [x_r 63, iv_c v1040, iv_c v1042, iv_c ((h ((h 63 6) + 4) (2 + 4 * u986))), iv_c ((h ((h 63 6) + 4) (2 + 4 * u986)))]) (by decide +kernel) (by decide) (by decide +kernel) (x_rb_of (by decide +kernel)) rfl rfl (x_wr (by decide) (x_wi l1041 (x_wi l1043 (x_wi l1025 (x_wi l1025 x_wn))))) x_wn (by decide) rfl ?_
      refine x_aload (np := 1) (x := 0) (by decide +kernel) rfl (x_nc_le (by decide)) ?_
      refine x_iload (np := 2) (x := 1) (by decide +kernel) rfl l1041 ?_
      refine x_putI (np := 5) (x := 778) (f := 10) (by decide +kernel) (by decide +kernel) l1041 (Or.inl (by decide)) ?_
      have j1045 := jU (e := 10) (v := v1040) 0 hJ rg_63_10_0_1 (by first | decide | omega) (by first | decide | omega) (by first | decide | omega)
      have f1047 := jF (e := 10) (v := v1040) 0 hF rg_63_10_0_1 (by first | decide | omega) (by first | decide | omega) (by decide)
      generalize e1046 : x_up h 63 10 v1040 = h1044 at j1045 f1047 ⊢
      refine x_aload (np := 6) (x := 0) (by decide +kernel) rfl (x_nc_le (by decide)) ?_
      refine x_iload (np := 7) (x := 2) (by decide +kernel) rfl l1043 ?_
      refine x_putI (np := 10) (x := 779) (f := 11) (by decide +kernel) (by decide +kernel) l1043 (Or.inl (by decide)) ?_
      have j1049 := jU (e := 11) (v := v1042) 0 j1045 rg_63_11_0_1 (by first | decide | omega) (by first | decide | omega) (by first | decide | omega)
      have f1051 := jF (e := 11) (v := v1042) 0 f1047 rg_63_11_0_1 (by first | decide | omega) (by first | decide | omega) (by decide)
      generalize e1050 : x_up h1044 63 11 v1042 = h1048 at j1049 f1051 ⊢
      refine x_aload (np := 11) (x := 0) (by decide +kernel) rfl (x_nc_le (by decide)) ?_
      refine x_iload (np := 12) (x := 3) (by decide +kernel) rfl l1025 ?_
      refine x_putI (np := 15) (x := 780) (f := 12) (by decide +kernel) (by decide +kernel) l1025 (Or.inl (by decide)) ?_
      have j1053 := jU (e := 12) (v := ((h ((h 63 6) + 4) (2 + 4 * u986)))) 0 j1049 rg_63_12_0_1 (by first | decide | omega) (by first | decide | omega) (by first | decide | omega)
      have f1055 := jF (e := 12) (v := ((h ((h 63 6) + 4) (2 + 4 * u986)))) 0 f1051 rg_63_12_0_1 (by first | decide | omega) (by first | decide | omega) (by decide)
      generalize e1054 : x_up h1048 63 12 ((h ((h 63 6) + 4) (2 + 4 * u986))) = h1052 at j1053 f1055 ⊢
      refine x_aload (np := 16) (x := 0) (by decide +kernel) rfl (x_nc_le (by decide)) ?_
      refine x_iload (np := 18) (x := 4) (by decide +kernel) rfl l1025 ?_
      refine x_putI (np := 21) (x := 781) (f := 13) (by decide +kernel) (by decide +kernel) l1025 (Or.inl (by decide)) ?_
      have j1057 := jU (e := 13) (v := ((h ((h 63 6) + 4) (2 + 4 * u986)))) 0 j1053 rg_63_13_0_1 (by first | decide | omega) (by first | decide | omega) (by first | decide | omega)
      have f1059 := jF (e := 13) (v := ((h ((h 63 6) + 4) (2 + 4 * u986)))) 0 f1055 rg_63_13_0_1 (by first | decide | omega) (by first | decide | omega) (by decide)
      generalize e1058 : x_up h1052 63 13 ((h ((h 63 6) + 4) (2 + 4 * u986))) = h1056 at j1057 f1059 ⊢
      refine x_retV (np := 22) (x := 0) (by decide +kernel) (by decide +kernel) ⟨rfl, ?_⟩
      refine x_const (np := 94) (x := 9223372043297226753) (a := 2147483649) (by decide +kernel) (by decide) (by decide) ?_
      refine x_retI (np := 95) (x := 0) (by decide +kernel) (by decide) (Or.inr ⟨by decide +kernel, by first | decide | omega, by first | decide | omega⟩) ⟨_, rfl, (by decide), ?_⟩
      exact ⟨j1057, f1059, (by first | decide | omega)⟩
  exact p960 _ 2147483648 147573952589676412928 147573952589676412928 147573952589676412928 (Nat.lt_succ_self _) (by first | decide | omega)
set_option maxHeartbeats 0 in
/-- LentNames$Search.give(III)V -/
theorem c280_63 {sc : Nat × Nat} {d a1 a2 a3 : Nat} {h : xh} (hJ : J h) (ba1 : 2147483648 ≤ a1 ∧ a1 ≤ 2147483653) (ba2 : 2147483648 ≤ a2 ∧ a2 ≤ 2147483653) (ba3 : 0 ≤ a3 ∧ a3 ≤ 4294967295) : X sc 280 (d + 1) (xV fun h' => J h' ∧ Fr 32769 h h') 0 0 0 [x_r 63, iv_c a1, iv_c a2, iv_c a3, 147573952589676412928] [] h := by
  have la1 : a1 < 4294967296 := by first | decide | omega
  have la2 : a2 < 4294967296 := by first | decide | omega
  have la3 : a3 < 4294967296 := by first | decide | omega
  have hF := Fr.refl 32769 h
  refine x_aload (np := 1) (x := 0) (by decide +kernel) rfl (x_nc_le (by decide)) ?_
  have q1 : h 63 2 = 66 := by have z := jB (e := 2) 0 hJ rg_63_2_0_1 (by decide) (by decide); omega
  refine x_getR (np := 4) (x := 770) (f := 2) (q := 66) (by decide +kernel) (by decide) (by decide +kernel) q1 ?_
  refine x_iload (np := 5) (x := 1) (by decide +kernel) rfl la1 ?_
  refine x_dup2 (np := 6) (x := 0) (by decide +kernel) (by have z := (iw_c_lt (a := a1) la1).1; omega) (by have z := x_nc_le (k := 66) (by decide); unfold x_r; omega) ?_
  obtain ⟨u2, q3⟩ : ∃ z, a1 = 2147483648 + z := ⟨a1 - 2147483648, by first | decide | omega⟩
  refine x_aldC (np := 7) (x := 0) (n := 6) (i := u2) (q := (h 66 u2)) (by decide +kernel) (by decide +kernel) (by first | decide | omega) (by first | decide | omega) (by decide) rfl (fun l4 => ?_)
  refine x_iload (np := 8) (x := 3) (by decide +kernel) rfl la3 ?_
  refine x_any (np := 9) (k9 := 1) (by decide +kernel) (by decide) l4 la3 (fun v5 l6 => ?_)
  refine x_ast (np := 10) (x := 0) (kd := 1) (n := 6) (i := u2) (by decide +kernel) (Or.inl rfl) (by decide +kernel) (by first | decide | omega) (by first | decide | omega) (by decide) l6 (fun z => absurd z (by decide)) ?_
  have j8 := jU (e := u2) (v := v5) u2 hJ rg_66_0_1_6 (by first | decide | omega) (by first | decide | omega) (by first | decide | omega)
  have f10 := jF (e := u2) (v := v5) u2 hF rg_66_0_1_6 (by first | decide | omega) (by first | decide | omega) (by decide)
  generalize e9 : x_up h 66 u2 v5 = h7 at j8 f10 ⊢
  refine x_const (np := 11) (x := 9223372039002259456) (a := 2147483648) (by decide +kernel) (by decide) (by decide) ?_
  refine x_istore (np := 13) (x := 4) (lo' := [x_r 63, iv_c a1, iv_c a2, iv_c a3, iv_c 2147483648]) (by decide +kernel) (by decide) (Nat.le_of_ble_eq_true rfl) rfl ?_
  have p140 : ∀ (n : Nat) (v135 : Nat) (h137 : xh), 4294967296 - v135 < n → (2147483648 ≤ v135 ∧ v135 ≤ 2147483654) → J h137 → Fr 32768 h7 h137 → X sc 280 (d + 1) (xV fun h' => J h' ∧ Fr 32769 h h') 0 0 13 [x_r 63, iv_c a1, iv_c a2, iv_c a3, iv_c v135] [] h137 := by
    intro n
    induction n with
    | zero => intro v135 h137 q141; exact absurd q141 (Nat.not_lt_zero _)
    | succ n i142 =>
      intro v135 h137 q141 b136 j139 f138
      have f143 := Fr.trans f10 f138 (by decide)
      refine x_iload (np := 15) (x := 4) (by decide +kernel) rfl (by first | decide | omega) ?_
      refine x_const (np := 17) (x := 9223372064772063238) (a := 2147483654) (by decide +kernel) (by decide) (by decide) ?_
      refine x_icmp (k := 3) (tg := 43) (np := 20) (by decide +kernel) (by decide) (by first | decide | omega) (by decide) (fun q144 => ?_) (fun q145 => ?_)
      · have q144 : 2147483654 ≤ v135 := q144
        refine x_aload (np := 44) (x := 0) (by decide +kernel) rfl (x_nc_le (by decide)) ?_
        have q146 : h137 63 0 = 64 := by have z := jB (e := 0) 0 j139 rg_63_0_0_1 (by decide) (by decide); omega
        refine x_getR (np := 47) (x := 768) (f := 0) (q := 64) (by decide +kernel) (by decide) (by decide +kernel) q146 ?_
        refine x_iload (np := 48) (x := 1) (by decide +kernel) rfl la1 ?_
        refine x_iload (np := 49) (x := 2) (by decide +kernel) rfl la2 ?_
        refine x_nI (t := 7) (mj := 149) (n := 2) (rc := 0) (ml := 2) (nr := 1) (np := 52) (as := [iv_c a1, iv_c a2]) (rest := [x_r 64]) (lo1 := [iv_c a1, iv_c a2]) (by decide +kernel) (by decide) (by decide +kernel) (Or.inl rfl) rfl rfl (x_wi la1 (x_wi la2 x_wn)) (x_wr (by decide) x_wn) (by decide) rfl ?_
        refine x_iload (np := 1) (x := 0) (by decide +kernel) rfl la1 ?_
        refine x_const (np := 3) (x := 9223372064772063238) (a := 2147483654) (by decide +kernel) (by decide) (by decide) ?_
        refine x_imul (np := 4) (x := 0) (i := u2) (j := 6) (v := (2147483648 + 6 * u2)) (by decide +kernel) (by first | decide | omega) (by first | decide | omega) (by first | decide | omega) (by first | decide | omega) la1 (by decide) ?_
        refine x_iload (np := 5) (x := 1) (by decide +kernel) rfl la2 ?_
        refine x_iadd (np := 6) (x := 0) (v := (6 * u2 + a2)) (by decide +kernel) (by first | decide | omega) la2 (by first | decide | omega) (by first | decide | omega) ?_
        refine x_retI (np := 7) (x := 0) (by decide +kernel) (by first | decide | omega) (Or.inl (by decide +kernel)) ⟨_, rfl, (by first | decide | omega), ?_⟩
        refine x_dup2 (np := 53) (x := 0) (by decide +kernel) (by have z := (iw_c_lt (a := (6 * u2 + a2)) (by first | decide | omega)).1; omega) (by have z := x_nc_le (k := 64) (by decide); unfold x_r; omega) ?_
        obtain ⟨u148, q149⟩ : ∃ z, a2 = 2147483648 + z := ⟨a2 - 2147483648, by first | decide | omega⟩
        refine x_aldC (np := 54) (x := 0) (n := 36) (i := (6 * u2 + u148)) (q := ((h137 64 (6 * u2 + u148)))) (by decide +kernel) (by decide +kernel) (by first | decide | omega) (by first | decide | omega) (by decide) rfl (fun l150 => ?_)
        refine x_iload (np := 55) (x := 3) (by decide +kernel) rfl la3 ?_
        refine x_any (np := 56) (k9 := 1) (by decide +kernel) (by decide) l150 la3 (fun v151 l152 => ?_)
        refine x_ast (np := 57) (x := 0) (kd := 1) (n := 36) (i := (6 * u2 + u148)) (by decide +kernel) (Or.inl rfl) (by decide +kernel) (by first | decide | omega) (by first | decide | omega) (by decide) l152 (fun z => absurd z (by decide)) ?_
        have j154 := jU (e := (6 * u2 + u148)) (v := v151) (6 * u2 + u148) j139 rg_64_0_1_36 (by first | decide | omega) (by first | decide | omega) (by first | decide | omega)
        have f156 := jF (e := (6 * u2 + u148)) (v := v151) (6 * u2 + u148) f143 rg_64_0_1_36 (by first | decide | omega) (by first | decide | omega) (by decide)
        generalize e155 : x_up h137 64 (6 * u2 + u148) v151 = h153 at j154 f156 ⊢
        refine x_retV (np := 58) (x := 0) (by decide +kernel) (by decide +kernel) ⟨rfl, ?_⟩
        exact ⟨j154, f156⟩
      have q145 : ¬ (2147483654 ≤ v135) := q145
      refine x_aload (np := 21) (x := 0) (by decide +kernel) rfl (x_nc_le (by decide)) ?_
      have q157 : h137 63 0 = 64 := by have z := jB (e := 0) 0 j139 rg_63_0_0_1 (by decide) (by decide); omega
      refine x_getR (np := 24) (x := 768) (f := 0) (q := 64) (by decide +kernel) (by decide) (by decide +kernel) q157 ?_
      refine x_iload (np := 25) (x := 1) (by decide +kernel) rfl la1 ?_
      refine x_iload (np := 27) (x := 4) (by decide +kernel) rfl (by first | decide | omega) ?_
      refine x_nI (t := 7) (mj := 149) (n := 2) (rc := 0) (ml := 2) (nr := 1) (np := 30) (as := [iv_c a1, iv_c v135]) (rest := [x_r 64]) (lo1 := [iv_c a1, iv_c v135]) (by decide +kernel) (by decide) (by decide +kernel) (Or.inl rfl) rfl rfl (x_wi la1 (x_wi (by first | decide | omega) x_wn)) (x_wr (by decide) x_wn) (by decide) rfl ?_
      refine x_iload (np := 1) (x := 0) (by decide +kernel) rfl la1 ?_
      refine x_const (np := 3) (x := 9223372064772063238) (a := 2147483654) (by decide +kernel) (by decide) (by decide) ?_
      refine x_imul (np := 4) (x := 0) (i := u2) (j := 6) (v := (2147483648 + 6 * u2)) (by decide +kernel) (by first | decide | omega) (by first | decide | omega) (by first | decide | omega) (by first | decide | omega) la1 (by decide) ?_
      refine x_iload (np := 5) (x := 1) (by decide +kernel) rfl (by first | decide | omega) ?_
      refine x_iadd (np := 6) (x := 0) (v := (6 * u2 + v135)) (by decide +kernel) (by first | decide | omega) (by first | decide | omega) (by first | decide | omega) (by first | decide | omega) ?_
      refine x_retI (np := 7) (x := 0) (by decide +kernel) (by first | decide | omega) (Or.inl (by decide +kernel)) ⟨_, rfl, (by first | decide | omega), ?_⟩
      refine x_dup2 (np := 31) (x := 0) (by decide +kernel) (by have z := (iw_c_lt (a := (6 * u2 + v135)) (by first | decide | omega)).1; omega) (by have z := x_nc_le (k := 64) (by decide); unfold x_r; omega) ?_
      obtain ⟨u159, q160⟩ : ∃ z, v135 = 2147483648 + z := ⟨v135 - 2147483648, by first | decide | omega⟩
      refine x_aldC (np := 32) (x := 0) (n := 36) (i := (6 * u2 + u159)) (q := ((h137 64 (6 * u2 + u159)))) (by decide +kernel) (by decide +kernel) (by first | decide | omega) (by first | decide | omega) (by decide) rfl (fun l161 => ?_)
      refine x_iload (np := 33) (x := 3) (by decide +kernel) rfl la3 ?_
      refine x_const (np := 34) (x := 9223372034707292159) (a := 2147483647) (by decide +kernel) (by decide) (by decide) ?_
      refine x_any (np := 35) (k9 := 2) (by decide +kernel) (by decide) la3 (by decide) (fun v162 l163 => ?_)
      refine x_any (np := 36) (k9 := 0) (by decide +kernel) (by decide) l161 l163 (fun v164 l165 => ?_)
      refine x_ast (np := 37) (x := 0) (kd := 1) (n := 36) (i := (6 * u2 + u159)) (by decide +kernel) (Or.inl rfl) (by decide +kernel) (by first | decide | omega) (by first | decide | omega) (by decide) l165 (fun z => absurd z (by decide)) ?_
      have j167 := jU (e := (6 * u2 + u159)) (v := v164) (6 * u2 + u159) j139 rg_64_0_1_36 (by first | decide | omega) (by first | decide | omega) (by first | decide | omega)
      have f169 := jF (e := (6 * u2 + u159)) (v := v164) (6 * u2 + u159) f143 rg_64_0_1_36 (by first | decide | omega) (by first | decide | omega) (by decide)
      have f170 := jF (e := (6 * u2 + u159)) (v := v164) (6 * u2 + u159) f138 rg_64_0_1_36 (by first | decide | omega) (by first | decide | omega) (by decide)
      generalize e168 : x_up h137 64 (6 * u2 + u159) v164 = h166 at j167 f169 f170 ⊢
      refine x_iinc (np := 40) (i := 4) (j := 2147483649) (v := (1 + v135)) (lo' := [x_r 63, iv_c a1, iv_c a2, iv_c a3, iv_c (1 + v135)]) (by decide +kernel) (by decide) (by decide) rfl (by first | decide | omega) (by first | decide | omega) (by first | decide | omega) rfl ?_
      refine x_goto (np := 43) (x := 13) (by decide +kernel) ?_
      exact i142 (1 + v135) h166 (by first | decide | omega) (by first | decide | omega) j167 f170
  exact p140 _ 2147483648 h7 (Nat.lt_succ_self _) (by first | decide | omega) j8 (Fr.refl _ _)
set_option maxHeartbeats 0 in
/-- LentNames$PlanSearch.lacksName()Z -/
theorem c58_63 {sc : Nat × Nat} {d  : Nat} {h : xh} (hJ : J h) : X sc 58 (d + 1) (xI fun r h' => J h' ∧ Fr 32768 h h' ∧ (2147483648 ≤ r ∧ r ≤ 2147483649)) 0 0 0 [x_r 63, 147573952589676412928, 147573952589676412928, 147573952589676412928] [] h := by
  have hF := Fr.refl 32768 h
  refine x_const (np := 1) (x := 9223372039002259456) (a := 2147483648) (by decide +kernel) (by decide) (by decide) ?_
  refine x_istore (np := 2) (x := 1) (lo' := [x_r 63, iv_c 2147483648, 147573952589676412928, 147573952589676412928]) (by decide +kernel) (by decide) (Nat.le_of_ble_eq_true rfl) rfl ?_
  have p3635 : ∀ (n : Nat) (v3631 : Nat) (w3633 : Nat) (w3634 : Nat), 4294967296 - v3631 < n → (2147483648 ≤ v3631 ∧ v3631 ≤ 2147483654) → X sc 58 (d + 1) (xI fun r h' => J h' ∧ Fr 32768 h h' ∧ (2147483648 ≤ r ∧ r ≤ 2147483649)) 0 0 2 [x_r 63, iv_c v3631, w3633, w3634] [] h := by
    intro n
    induction n with
    | zero => intro v3631 w3633 w3634 q3636; exact absurd q3636 (Nat.not_lt_zero _)
    | succ n i3637 =>
      intro v3631 w3633 w3634 q3636 b3632
      refine x_iload (np := 3) (x := 1) (by decide +kernel) rfl (by first | decide | omega) ?_
      refine x_aload (np := 4) (x := 0) (by decide +kernel) rfl (x_nc_le (by decide)) ?_
      have t3638 : tw (h 63 6) := hJ.2.2.2.2.2.1
      refine x_getR (np := 7) (x := 774) (f := 6) (q := (h 63 6)) (by decide +kernel) (by decide) (by decide +kernel) rfl ?_
      have b3639 := jB (e := 7) 0 hJ (rg_T0_7_0_1 t3638) (by first | decide | omega) (by first | decide | omega)
      refine x_getC (np := 10) (x := 519) (f := 7) (q := (h (h 63 6) 7)) (by decide +kernel) (by decide) (tg_0_519_7_0 t3638) rfl (fun l3640 => ?_)
      refine x_icmp (k := 3) (tg := 129) (np := 13) (by decide +kernel) (by decide) (by first | decide | omega) l3640 (fun q3641 => ?_) (fun q3642 => ?_)
      · have q3641 : (h (h 63 6) 7) ≤ v3631 := q3641
        refine x_const (np := 130) (x := 9223372039002259456) (a := 2147483648) (by decide +kernel) (by decide) (by decide) ?_
        refine x_retI (np := 131) (x := 0) (by decide +kernel) (by decide) (Or.inr ⟨by decide +kernel, by first | decide | omega, by first | decide | omega⟩) ⟨_, rfl, (by decide), ?_⟩
        exact ⟨hJ, hF, (by first | decide | omega)⟩
      have q3642 : ¬ ((h (h 63 6) 7) ≤ v3631) := q3642
      refine x_aload (np := 14) (x := 0) (by decide +kernel) rfl (x_nc_le (by decide)) ?_
      have q3643 : h 63 5 = 45 := by have z := jB (e := 5) 0 hJ rg_63_5_0_1 (by decide) (by decide); omega
      refine x_getR (np := 17) (x := 773) (f := 5) (q := 45) (by decide +kernel) (by decide) (by decide +kernel) q3643 ?_
      have q3644 : h 45 0 = 46 := by have z := jB (e := 0) 0 hJ rg_45_0_0_1 (by decide) (by decide); omega
      refine x_getR (np := 20) (x := 64) (f := 0) (q := 46) (by decide +kernel) (by decide) (by decide +kernel) q3644 ?_
      refine x_iload (np := 21) (x := 1) (by decide +kernel) rfl (by first | decide | omega) ?_
      obtain ⟨u3645, q3646⟩ : ∃ z, v3631 = 2147483648 + z := ⟨v3631 - 2147483648, by first | decide | omega⟩
      refine x_aldC (np := 22) (x := 0) (n := 6) (i := u3645) (q := (h 46 u3645)) (by decide +kernel) (by decide +kernel) (by first | decide | omega) (by first | decide | omega) (by decide) rfl (fun l3647 => ?_)
      refine x_istore (np := 23) (x := 2) (lo' := [x_r 63, iv_c v3631, iv_c (h 46 u3645), w3634]) (by decide +kernel) l3647 (Nat.le_of_ble_eq_true rfl) rfl ?_
      refine x_const (np := 24) (x := 9223372039002259456) (a := 2147483648) (by decide +kernel) (by decide) (by decide) ?_
      refine x_istore (np := 25) (x := 3) (lo' := [x_r 63, iv_c v3631, iv_c (h 46 u3645), iv_c 2147483648]) (by decide +kernel) (by decide) (Nat.le_of_ble_eq_true rfl) rfl ?_
      have p3748 : ∀ (n : Nat) (v3744 : Nat) (v3746 : Nat), 4294967296 - v3746 < n → (0 ≤ v3744 ∧ v3744 ≤ 4294967295) → (2147483648 ≤ v3746 ∧ v3746 ≤ 2147483654) → X sc 58 (d + 1) (xI fun r h' => J h' ∧ Fr 32768 h h' ∧ (2147483648 ≤ r ∧ r ≤ 2147483649)) 0 0 25 [x_r 63, iv_c v3631, iv_c v3744, iv_c v3746] [] h := by
        intro n
        induction n with
        | zero => intro v3744 v3746 q3749; exact absurd q3749 (Nat.not_lt_zero _)
        | succ n i3750 =>
          intro v3744 v3746 q3749 b3745 b3747
          refine x_iload (np := 26) (x := 3) (by decide +kernel) rfl (by first | decide | omega) ?_
          refine x_aload (np := 27) (x := 0) (by decide +kernel) rfl (x_nc_le (by decide)) ?_
          refine x_getR (np := 30) (x := 774) (f := 6) (q := (h 63 6)) (by decide +kernel) (by decide) (by decide +kernel) rfl ?_
          refine x_getC (np := 33) (x := 519) (f := 7) (q := (h (h 63 6) 7)) (by decide +kernel) (by decide) (tg_0_519_7_0 t3638) rfl (fun l3751 => ?_)
          refine x_icmp (k := 3) (tg := 57) (np := 36) (by decide +kernel) (by decide) (by first | decide | omega) l3640 (fun q3752 => ?_) (fun q3753 => ?_)
          · have q3752 : (h (h 63 6) 7) ≤ v3746 := q3752
            refine x_const (np := 58) (x := 9223372039002259456) (a := 2147483648) (by decide +kernel) (by decide) (by decide) ?_
            refine x_istore (np := 59) (x := 3) (lo' := [x_r 63, iv_c v3631, iv_c v3744, iv_c 2147483648]) (by decide +kernel) (by decide) (Nat.le_of_ble_eq_true rfl) rfl ?_
            have p4148 : ∀ (n : Nat) (v4144 : Nat) (v4146 : Nat), 4294967296 - v4146 < n → (0 ≤ v4144 ∧ v4144 ≤ 4294967295) → (2147483648 ≤ v4146 ∧ v4146 ≤ 4294967295) → X sc 58 (d + 1) (xI fun r h' => J h' ∧ Fr 32768 h h' ∧ (2147483648 ≤ r ∧ r ≤ 2147483649)) 0 0 59 [x_r 63, iv_c v3631, iv_c v4144, iv_c v4146] [] h := by
              intro n
              induction n with
              | zero => intro v4144 v4146 q4149; exact absurd q4149 (Nat.not_lt_zero _)
              | succ n i4150 =>
                intro v4144 v4146 q4149 b4145 b4147
                refine x_iload (np := 60) (x := 3) (by decide +kernel) rfl (by first | decide | omega) ?_
                refine x_aload (np := 61) (x := 0) (by decide +kernel) rfl (x_nc_le (by decide)) ?_
                refine x_getC (np := 64) (x := 775) (f := 7) (q := (h 63 7)) (by decide +kernel) (by decide) (by decide +kernel) rfl (fun l4151 => ?_)
                refine x_icmp (k := 3) (tg := 82) (np := 67) (by decide +kernel) (by decide) (by first | decide | omega) l4151 (fun q4152 => ?_) (fun q4153 => ?_)
                · have q4152 : (h 63 7) ≤ v4146 := q4152
                  refine x_iload (np := 83) (x := 2) (by decide +kernel) rfl (by first | decide | omega) ?_
                  refine x_ifz (k := 0) (tg := 123) (np := 86) (by decide +kernel) (by decide) (by first | decide | omega) (fun q4154 => ?_) (fun q4155 => ?_)
                  · have q4154 : v4144 = 2147483648 := q4154
                    refine x_iinc (np := 126) (i := 1) (j := 2147483649) (v := (1 + v3631)) (lo' := [x_r 63, iv_c (1 + v3631), iv_c v4144, iv_c v4146]) (by decide +kernel) (by decide) (by decide) rfl (by first | decide | omega) (by first | decide | omega) (by first | decide | omega) rfl ?_
                    refine x_goto (np := 129) (x := 2) (by decide +kernel) ?_
                    exact i3637 (1 + v3631) (iv_c v4144) (iv_c v4146) (by first | decide | omega) (by first | decide | omega)
                  have q4155 : ¬ (v4144 = 2147483648) := q4155
                  refine x_iload (np := 87) (x := 2) (by decide +kernel) rfl (by first | decide | omega) ?_
                  refine x_iload (np := 88) (x := 2) (by decide +kernel) rfl (by first | decide | omega) ?_
                  refine x_neg (by rw [tb_b58]; decide +kernel) (by first | decide | omega) (fun v4156 l4157 => ?_)
                  refine x_any (np := 90) (k9 := 0) (by decide +kernel) (by decide) (by first | decide | omega) l4157 (fun v4158 l4159 => ?_)
                  refine x_const (np := 91) (x := 9223372043297226753) (a := 2147483649) (by decide +kernel) (by decide) (by decide) ?_
                  refine x_subA (by rw [tb_b58]; decide +kernel) l4159 (by decide) (fun v4160 l4161 => ?_)
                  refine x_nI (t := 7) (mj := 310) (n := 1) (rc := 0) (ml := 1) (nr := 0) (np := 95) (as := [iv_c v4160]) (rest := []) (lo1 := [iv_c v4160]) (by decide +kernel) (by decide) (by decide +kernel) (Or.inl rfl) rfl rfl (x_wi l4161 x_wn) x_wn (by decide) rfl ?_
                  refine x_iload (np := 1) (x := 0) (by decide +kernel) rfl l4161 ?_
                  refine x_iload (np := 2) (x := 0) (by decide +kernel) rfl l4161 ?_
                  refine x_const (np := 3) (x := 9223372043297226753) (a := 2147483649) (by decide +kernel) (by decide) (by decide) ?_
                  refine x_any (np := 4) (k9 := 5) (by decide +kernel) (by decide) l4161 (by decide) (fun v4162 l4163 => ?_)
                  refine x_const (np := 7) (x := 15372286730238776661) (a := 3579139413) (by decide +kernel) (by decide) (by decide) ?_
                  refine x_any (np := 8) (k9 := 0) (by decide +kernel) (by decide) l4163 (by decide) (fun v4164 l4165 => ?_)
                  refine x_subA (by rw [tb_b310]; decide +kernel) l4161 l4165 (fun v4166 l4167 => ?_)
                  refine x_istore (np := 10) (x := 0) (lo' := [iv_c v4166]) (by decide +kernel) l4167 (Nat.le_of_ble_eq_true rfl) rfl ?_
                  refine x_iload (np := 11) (x := 0) (by decide +kernel) rfl l4167 ?_
                  refine x_const (np := 14) (x := 12912720853744169779) (a := 3006477107) (by decide +kernel) (by decide) (by decide) ?_
                  refine x_any (np := 15) (k9 := 0) (by decide +kernel) (by decide) l4167 (by decide) (fun v4168 l4169 => ?_)
                  refine x_iload (np := 16) (x := 0) (by decide +kernel) rfl l4167 ?_
                  refine x_const (np := 17) (x := 9223372047592194050) (a := 2147483650) (by decide +kernel) (by decide) (by decide) ?_
                  refine x_any (np := 18) (k9 := 5) (by decide +kernel) (by decide) l4167 (by decide) (fun v4170 l4171 => ?_)
                  refine x_const (np := 21) (x := 12912720853744169779) (a := 3006477107) (by decide +kernel) (by decide) (by decide) ?_
                  refine x_any (np := 22) (k9 := 0) (by decide +kernel) (by decide) l4171 (by decide) (fun v4172 l4173 => ?_)
                  refine x_addA (by rw [tb_b310]; decide +kernel) l4169 l4173 (fun v4174 l4175 => ?_)
                  refine x_istore (np := 24) (x := 0) (lo' := [iv_c v4174]) (by decide +kernel) l4175 (Nat.le_of_ble_eq_true rfl) rfl ?_
                  refine x_iload (np := 25) (x := 0) (by decide +kernel) rfl l4175 ?_
                  refine x_iload (np := 26) (x := 0) (by decide +kernel) rfl l4175 ?_
                  refine x_const (np := 27) (x := 9223372056182128644) (a := 2147483652) (by decide +kernel) (by decide) (by decide) ?_
                  refine x_any (np := 28) (k9 := 5) (by decide +kernel) (by decide) l4175 (by decide) (fun v4176 l4177 => ?_)
                  refine x_addA (by rw [tb_b310]; decide +kernel) l4175 l4177 (fun v4178 l4179 => ?_)
                  refine x_const (np := 32) (x := 10308474631573409551) (a := 2400128783) (by decide +kernel) (by decide) (by decide) ?_
                  refine x_any (np := 33) (k9 := 0) (by decide +kernel) (by decide) l4179 (by decide) (fun v4180 l4181 => ?_)
                  refine x_istore (np := 34) (x := 0) (lo' := [iv_c v4180]) (by decide +kernel) l4181 (Nat.le_of_ble_eq_true rfl) rfl ?_
                  refine x_iload (np := 35) (x := 0) (by decide +kernel) rfl l4181 ?_
                  refine x_iload (np := 36) (x := 0) (by decide +kernel) rfl l4181 ?_
                  refine x_const (np := 38) (x := 9223372073361997832) (a := 2147483656) (by decide +kernel) (by decide) (by decide) ?_
                  refine x_any (np := 39) (k9 := 5) (by decide +kernel) (by decide) l4181 (by decide) (fun v4182 l4183 => ?_)
                  refine x_addA (by rw [tb_b310]; decide +kernel) l4181 l4183 (fun v4184 l4185 => ?_)
                  refine x_istore (np := 41) (x := 0) (lo' := [iv_c v4184]) (by decide +kernel) l4185 (Nat.le_of_ble_eq_true rfl) rfl ?_
                  refine x_iload (np := 42) (x := 0) (by decide +kernel) rfl l4185 ?_
                  refine x_iload (np := 43) (x := 0) (by decide +kernel) rfl l4185 ?_
                  refine x_const (np := 45) (x := 9223372107721736208) (a := 2147483664) (by decide +kernel) (by decide) (by decide) ?_
                  refine x_any (np := 46) (k9 := 5) (by decide +kernel) (by decide) l4185 (by decide) (fun v4186 l4187 => ?_)
                  refine x_addA (by rw [tb_b310]; decide +kernel) l4185 l4187 (fun v4188 l4189 => ?_)
                  refine x_istore (np := 48) (x := 0) (lo' := [iv_c v4188]) (by decide +kernel) l4189 (Nat.le_of_ble_eq_true rfl) rfl ?_
                  refine x_iload (np := 49) (x := 0) (by decide +kernel) rfl l4189 ?_
                  refine x_const (np := 51) (x := 9223372309585199167) (a := 2147483711) (by decide +kernel) (by decide) (by decide) ?_
                  refine x_mask (np := 52) (m := 6) (k9 := 64) (by decide +kernel) l4189 (by decide +kernel) (by decide) (by decide) (by decide) (fun u4190 l4191 => ?_)
                  refine x_retI (np := 53) (x := 0) (by decide +kernel) (by first | decide | omega) (Or.inl (by decide +kernel)) ⟨_, rfl, (by first | decide | omega), ?_⟩
                  refine x_istore (np := 96) (x := 3) (lo' := [x_r 63, iv_c v3631, iv_c v4144, iv_c (2147483648 + u4190)]) (by decide +kernel) (by first | decide | omega) (Nat.le_of_ble_eq_true rfl) rfl ?_
                  refine x_aload (np := 97) (x := 0) (by decide +kernel) rfl (x_nc_le (by decide)) ?_
                  refine x_const (np := 98) (x := 9223372043297226753) (a := 2147483649) (by decide +kernel) (by decide) (by decide) ?_
                  refine x_aload (np := 99) (x := 0) (by decide +kernel) rfl (x_nc_le (by decide)) ?_
                  refine x_getR (np := 102) (x := 774) (f := 6) (q := (h 63 6)) (by decide +kernel) (by decide) (by decide +kernel) rfl ?_
                  refine x_getC (np := 105) (x := 519) (f := 7) (q := (h (h 63 6) 7)) (by decide +kernel) (by decide) (tg_0_519_7_0 t3638) rfl (fun l4192 => ?_)
                  refine x_any (np := 106) (k9 := 3) (by decide +kernel) (by decide) (by decide) l3640 (fun v4193 l4194 => ?_)
                  refine x_const (np := 107) (x := 9223372043297226753) (a := 2147483649) (by decide +kernel) (by decide) (by decide) ?_
                  refine x_subA (by rw [tb_b58]; decide +kernel) l4194 (by decide) (fun v4195 l4196 => ?_)
                  refine x_const (np := 109) (x := 9223372043297226753) (a := 2147483649) (by decide +kernel) (by decide) (by decide) ?_
                  refine x_iload (np := 110) (x := 1) (by decide +kernel) rfl (by first | decide | omega) ?_
                  refine x_any (np := 111) (k9 := 3) (by decide +kernel) (by decide) (by decide) (by first | decide | omega) (fun v4197 l4198 => ?_)
                  refine x_iload (np := 112) (x := 3) (by decide +kernel) rfl (by first | decide | omega) ?_
                  refine x_aload (np := 113) (x := 0) (by decide +kernel) rfl (x_nc_le (by decide)) ?_
                  refine x_getC (np := 116) (x := 775) (f := 7) (q := (h 63 7)) (by decide +kernel) (by decide) (by decide +kernel) rfl (fun l4199 => ?_)
                  refine x_subA (by rw [tb_b58]; decide +kernel) (by first | decide | omega) l4151 (fun v4200 l4201 => ?_)
                  refine x_iload (np := 118) (x := 3) (by decide +kernel) rfl (by first | decide | omega) ?_
                  refine x_nV (t := 8) (mj := 273) (n := 5) (rc := 5) (ml := 5) (nr := 0) (np := 121) (as := [x_r 63, iv_c v4195, iv_c v4197, iv_c v4200, iv_c (2147483648 + u4190)]) (rest := []) (lo1 := [x_r 63, iv_c v4195, iv_c v4197, iv_c v4200, iv_c (2147483648 + u4190)]) (by decide +kernel) (by decide) (by decide +kernel) (x_rb_of (by decide +kernel)) rfl rfl (x_wr (by decide) (x_wi l4196 (x_wi l4198 (x_wi l4201 (x_wi (by first | decide | omega) x_wn))))) x_wn (by decide) rfl ?_
                  refine x_aload (np := 1) (x := 0) (by decide +kernel) rfl (x_nc_le (by decide)) ?_
                  refine x_iload (np := 2) (x := 1) (by decide +kernel) rfl l4196 ?_
                  refine x_putI (np := 5) (x := 778) (f := 10) (by decide +kernel) (by decide +kernel) l4196 (Or.inl (by decide)) ?_
                  have j4203 := jU (e := 10) (v := v4195) 0 hJ rg_63_10_0_1 (by first | decide | omega) (by first | decide | omega) (by first | decide | omega)
                  have f4205 := jF (e := 10) (v := v4195) 0 hF rg_63_10_0_1 (by first | decide | omega) (by first | decide | omega) (by decide)
                  generalize e4204 : x_up h 63 10 v4195 = h4202 at j4203 f4205 ⊢
                  refine x_aload (np := 6) (x := 0) (by decide +kernel) rfl (x_nc_le (by decide)) ?_
                  refine x_iload (np := 7) (x := 2) (by decide +kernel) rfl l4198 ?_
                  refine x_putI (np := 10) (x := 779) (f := 11) (by decide +kernel) (by decide +kernel) l4198 (Or.inl (by decide)) ?_
                  have j4207 := jU (e := 11) (v := v4197) 0 j4203 rg_63_11_0_1 (by first | decide | omega) (by first | decide | omega) (by first | decide | omega)
                  have f4209 := jF (e := 11) (v := v4197) 0 f4205 rg_63_11_0_1 (by first | decide | omega) (by first | decide | omega) (by decide)
                  generalize e4208 : x_up h4202 63 11 v4197 = h4206 at j4207 f4209 ⊢
                  refine x_aload (np := 11) (x := 0) (by decide +kernel) rfl (x_nc_le (by decide)) ?_
                  refine x_iload (np := 12) (x := 3) (by decide +kernel) rfl l4201 ?_
                  refine x_putI (np := 15) (x := 780) (f := 12) (by decide +kernel) (by decide +kernel) l4201 (Or.inl (by decide)) ?_
                  have j4211 := jU (e := 12) (v := v4200) 0 j4207 rg_63_12_0_1 (by first | decide | omega) (by first | decide | omega) (by first | decide | omega)
                  have f4213 := jF (e := 12) (v := v4200) 0 f4209 rg_63_12_0_1 (by first | decide | omega) (by first | decide | omega) (by decide)
                  generalize e4212 : x_up h4206 63 12 v4200 = h4210 at j4211 f4213 ⊢
                  refine x_aload (np := 16) (x := 0) (by decide +kernel) rfl (x_nc_le (by decide)) ?_
                  refine x_iload (np := 18) (x := 4) (by decide +kernel) rfl (by first | decide | omega) ?_
                  refine x_putI (np := 21) (x := 781) (f := 13) (by decide +kernel) (by decide +kernel) (by first | decide | omega) (Or.inl (by decide)) ?_
                  have j4215 := jU (e := 13) (v := (2147483648 + u4190)) 0 j4211 rg_63_13_0_1 (by first | decide | omega) (by first | decide | omega) (by first | decide | omega)
                  have f4217 := jF (e := 13) (v := (2147483648 + u4190)) 0 f4213 rg_63_13_0_1 (by first | decide | omega) (by first | decide | omega) (by decide)
                  generalize e4216 : x_up h4210 63 13 (2147483648 + u4190) = h4214 at j4215 f4217 ⊢
                  refine x_retV (np := 22) (x := 0) (by decide +kernel) (by decide +kernel) ⟨rfl, ?_⟩
                  refine x_const (np := 122) (x := 9223372043297226753) (a := 2147483649) (by decide +kernel) (by decide) (by decide) ?_
                  refine x_retI (np := 123) (x := 0) (by decide +kernel) (by decide) (Or.inr ⟨by decide +kernel, by first | decide | omega, by first | decide | omega⟩) ⟨_, rfl, (by decide), ?_⟩
                  exact ⟨j4215, f4217, (by first | decide | omega)⟩
                have q4153 : ¬ ((h 63 7) ≤ v4146) := q4153
                refine x_iload (np := 68) (x := 2) (by decide +kernel) rfl (by first | decide | omega) ?_
                refine x_ifz (k := 0) (tg := 82) (np := 71) (by decide +kernel) (by decide) (by first | decide | omega) (fun q4218 => ?_) (fun q4219 => ?_)
                · have q4218 : v4144 = 2147483648 := q4218
                  refine x_iload (np := 83) (x := 2) (by decide +kernel) rfl (by first | decide | omega) ?_
                  refine x_ifz (k := 0) (tg := 123) (np := 86) (by decide +kernel) (by decide) (by first | decide | omega) (fun q4220 => ?_) (fun q4221 => ?_)
                  · have q4220 : v4144 = 2147483648 := q4220
                    refine x_iinc (np := 126) (i := 1) (j := 2147483649) (v := (1 + v3631)) (lo' := [x_r 63, iv_c (1 + v3631), iv_c v4144, iv_c v4146]) (by decide +kernel) (by decide) (by decide) rfl (by first | decide | omega) (by first | decide | omega) (by first | decide | omega) rfl ?_
                    refine x_goto (np := 129) (x := 2) (by decide +kernel) ?_
                    exact i3637 (1 + v3631) (iv_c v4144) (iv_c v4146) (by first | decide | omega) (by first | decide | omega)
                  have q4221 : ¬ (v4144 = 2147483648) := q4221
                  exfalso; omega
                have q4219 : ¬ (v4144 = 2147483648) := q4219
                refine x_iload (np := 72) (x := 2) (by decide +kernel) rfl (by first | decide | omega) ?_
                refine x_nI (t := 7) (mj := 151) (n := 1) (rc := 0) (ml := 1) (nr := 0) (np := 75) (as := [iv_c v4144]) (rest := []) (lo1 := [iv_c v4144]) (by decide +kernel) (by decide) (by decide +kernel) (Or.inl rfl) rfl rfl (x_wi (by first | decide | omega) x_wn) x_wn (by decide) rfl ?_
                refine x_iload (np := 1) (x := 0) (by decide +kernel) rfl (by first | decide | omega) ?_
                refine x_iload (np := 2) (x := 0) (by decide +kernel) rfl (by first | decide | omega) ?_
                refine x_const (np := 3) (x := 9223372043297226753) (a := 2147483649) (by decide +kernel) (by decide) (by decide) ?_
                refine x_any (np := 4) (k9 := 3) (by decide +kernel) (by decide) (by first | decide | omega) (by decide) (fun v4222 l4223 => ?_)
                refine x_any (np := 5) (k9 := 0) (by decide +kernel) (by decide) (by first | decide | omega) l4223 (fun v4224 l4225 => ?_)
                refine x_retI (np := 6) (x := 0) (by decide +kernel) l4225 (Or.inl (by decide +kernel)) ⟨_, rfl, l4225, ?_⟩
                refine x_istore (np := 76) (x := 2) (lo' := [x_r 63, iv_c v3631, iv_c v4224, iv_c v4146]) (by decide +kernel) l4225 (Nat.le_of_ble_eq_true rfl) rfl ?_
                refine x_iinc (np := 79) (i := 3) (j := 2147483649) (v := (1 + v4146)) (lo' := [x_r 63, iv_c v3631, iv_c v4224, iv_c (1 + v4146)]) (by decide +kernel) (by decide) (by decide) rfl (by first | decide | omega) (by first | decide | omega) (by first | decide | omega) rfl ?_
                refine x_goto (np := 82) (x := 59) (by decide +kernel) ?_
                exact i4150 v4224 (1 + v4146) (by first | decide | omega) (by first | decide | omega) (by first | decide | omega)
            exact p4148 _ v3744 2147483648 (Nat.lt_succ_self _) (by first | decide | omega) (by first | decide | omega)
          have q3753 : ¬ ((h (h 63 6) 7) ≤ v3746) := q3753
          refine x_iload (np := 37) (x := 2) (by decide +kernel) rfl (by first | decide | omega) ?_
          refine x_aload (np := 38) (x := 0) (by decide +kernel) rfl (x_nc_le (by decide)) ?_
          have q4226 : h 63 0 = 64 := by have z := jB (e := 0) 0 hJ rg_63_0_0_1 (by decide) (by decide); omega
          refine x_getR (np := 41) (x := 768) (f := 0) (q := 64) (by decide +kernel) (by decide) (by decide +kernel) q4226 ?_
          refine x_iload (np := 42) (x := 3) (by decide +kernel) rfl (by first | decide | omega) ?_
          refine x_iload (np := 43) (x := 1) (by decide +kernel) rfl (by first | decide | omega) ?_
          refine x_nI (t := 7) (mj := 149) (n := 2) (rc := 0) (ml := 2) (nr := 2) (np := 46) (as := [iv_c v3746, iv_c v3631]) (rest := [x_r 64, iv_c v3744]) (lo1 := [iv_c v3746, iv_c v3631]) (by decide +kernel) (by decide) (by decide +kernel) (Or.inl rfl) rfl rfl (x_wi (by first | decide | omega) (x_wi (by first | decide | omega) x_wn)) (x_wr (by decide) (x_wi (by first | decide | omega) x_wn)) (by decide) rfl ?_
          refine x_iload (np := 1) (x := 0) (by decide +kernel) rfl (by first | decide | omega) ?_
          refine x_const (np := 3) (x := 9223372064772063238) (a := 2147483654) (by decide +kernel) (by decide) (by decide) ?_
          obtain ⟨u4227, q4228⟩ : ∃ z, v3746 = 2147483648 + z := ⟨v3746 - 2147483648, by first | decide | omega⟩
          refine x_imul (np := 4) (x := 0) (i := u4227) (j := 6) (v := (2147483648 + 6 * u4227)) (by decide +kernel) (by first | decide | omega) (by first | decide | omega) (by first | decide | omega) (by first | decide | omega) (by first | decide | omega) (by decide) ?_
          refine x_iload (np := 5) (x := 1) (by decide +kernel) rfl (by first | decide | omega) ?_
          refine x_iadd (np := 6) (x := 0) (v := (6 * u4227 + v3631)) (by decide +kernel) (by first | decide | omega) (by first | decide | omega) (by first | decide | omega) (by first | decide | omega) ?_
          refine x_retI (np := 7) (x := 0) (by decide +kernel) (by first | decide | omega) (Or.inl (by decide +kernel)) ⟨_, rfl, (by first | decide | omega), ?_⟩
          refine x_aldC (np := 47) (x := 0) (n := 36) (i := (6 * u4227 + u3645)) (q := ((h 64 (6 * u4227 + u3645)))) (by decide +kernel) (by decide +kernel) (by first | decide | omega) (by first | decide | omega) (by decide) rfl (fun l4230 => ?_)
          refine x_const (np := 48) (x := 9223372034707292159) (a := 2147483647) (by decide +kernel) (by decide) (by decide) ?_
          refine x_any (np := 49) (k9 := 2) (by decide +kernel) (by decide) l4230 (by decide) (fun v4231 l4232 => ?_)
          refine x_any (np := 50) (k9 := 0) (by decide +kernel) (by decide) (by first | decide | omega) l4232 (fun v4233 l4234 => ?_)
          refine x_istore (np := 51) (x := 2) (lo' := [x_r 63, iv_c v3631, iv_c v4233, iv_c v3746]) (by decide +kernel) l4234 (Nat.le_of_ble_eq_true rfl) rfl ?_
          refine x_iinc (np := 54) (i := 3) (j := 2147483649) (v := (1 + v3746)) (lo' := [x_r 63, iv_c v3631, iv_c v4233, iv_c (1 + v3746)]) (by decide +kernel) (by decide) (by decide) rfl (by first | decide | omega) (by first | decide | omega) (by first | decide | omega) rfl ?_
          refine x_goto (np := 57) (x := 25) (by decide +kernel) ?_
          exact i3750 v4233 (1 + v3746) (by first | decide | omega) (by first | decide | omega) (by first | decide | omega)
      exact p3748 _ (h 46 u3645) 2147483648 (Nat.lt_succ_self _) (by first | decide | omega) (by first | decide | omega)
  exact p3635 _ 2147483648 147573952589676412928 147573952589676412928 (Nat.lt_succ_self _) (by first | decide | omega)
set_option maxHeartbeats 0 in
/-- LentNames$Search.keepSet(I)V -/
theorem c279_63_c5 {sc : Nat × Nat} {d  : Nat} {h : xh} (hJ : J h) : X sc 279 d (xV fun h' => J h' ∧ Fr 32769 h h') 0 0 0 [x_r 63, iv_c 2147483653, 147573952589676412928, 147573952589676412928] [] h := by
  have hF := Fr.refl 32769 h
  refine x_aload (np := 1) (x := 0) (by decide +kernel) rfl (x_nc_le (by decide)) ?_
  refine x_dup (np := 2) (x := 0) (by decide +kernel) (by have z := x_nc_le (k := 63) (by decide); unfold x_r; omega) ?_
  refine x_getC (np := 5) (x := 776) (f := 8) (q := (h 63 8)) (by decide +kernel) (by decide) (by decide +kernel) rfl (fun l1 => ?_)
  refine x_const (np := 6) (x := 9223372043297226753) (a := 2147483649) (by decide +kernel) (by decide) (by decide) ?_
  refine x_addA (by rw [tb_b279]; decide +kernel) l1 (by decide) (fun v2 l3 => ?_)
  refine x_putI (np := 10) (x := 776) (f := 8) (by decide +kernel) (by decide +kernel) l3 (Or.inl (by decide)) ?_
  have j5 := jU (e := 8) (v := v2) 0 hJ rg_63_8_0_1 (by first | decide | omega) (by first | decide | omega) (by first | decide | omega)
  have f7 := jF (e := 8) (v := v2) 0 hF rg_63_8_0_1 (by first | decide | omega) (by first | decide | omega) (by decide)
  generalize e6 : x_up h 63 8 v2 = h4 at j5 f7 ⊢
  refine x_aload (np := 11) (x := 0) (by decide +kernel) rfl (x_nc_le (by decide)) ?_
  have q8 : h4 63 8 = v2 := by rw [← e6]; exact x_up_at
  refine x_getC (np := 14) (x := 776) (f := 8) (q := v2) (by decide +kernel) (by decide) (by decide +kernel) q8 (fun l9 => ?_)
  refine x_const (np := 15) (x := 9223372043297226753) (a := 2147483649) (by decide +kernel) (by decide) (by decide) ?_
  refine x_icmp (k := 5) (tg := 19) (np := 18) (by decide +kernel) (by decide) l3 (by decide) (fun q10 => ?_) (fun q11 => ?_)
  · have q10 : v2 ≤ 2147483649 := q10
    refine x_aload (np := 20) (x := 0) (by decide +kernel) rfl (x_nc_le (by decide)) ?_
    refine x_iload (np := 21) (x := 1) (by decide +kernel) rfl (by decide) ?_
    refine x_putI (np := 24) (x := 783) (f := 15) (by decide +kernel) (by decide +kernel) (by decide) (Or.inl (by decide)) ?_
    have j13 := jU (e := 15) (v := 2147483653) 0 j5 rg_63_15_0_1 (by first | decide | omega) (by first | decide | omega) (by first | decide | omega)
    have f15 := jF (e := 15) (v := 2147483653) 0 f7 rg_63_15_0_1 (by first | decide | omega) (by first | decide | omega) (by decide)
    generalize e14 : x_up h4 63 15 2147483653 = h12 at j13 f15 ⊢
    refine x_const (np := 25) (x := 9223372039002259456) (a := 2147483648) (by decide +kernel) (by decide) (by decide) ?_
    refine x_istore (np := 26) (x := 2) (lo' := [x_r 63, iv_c 2147483653, iv_c 2147483648, 147573952589676412928]) (by decide +kernel) (by decide) (Nat.le_of_ble_eq_true rfl) rfl ?_
    have p622 : ∀ (n : Nat) (v616 : Nat) (w618 : Nat) (h619 : xh), 4294967296 - v616 < n → (2147483648 ≤ v616 ∧ v616 ≤ 2147483653) → J h619 → Fr 32768 h12 h619 → X sc 279 d (xV fun h' => J h' ∧ Fr 32769 h h') 0 0 26 [x_r 63, iv_c 2147483653, iv_c v616, w618] [] h619 := by
      intro n
      induction n with
      | zero => intro v616 w618 h619 q623; exact absurd q623 (Nat.not_lt_zero _)
      | succ n i624 =>
        intro v616 w618 h619 q623 b617 j621 f620
        have f625 := Fr.trans f15 f620 (by decide)
        refine x_iload (np := 27) (x := 2) (by decide +kernel) rfl (by first | decide | omega) ?_
        refine x_aload (np := 28) (x := 0) (by decide +kernel) rfl (x_nc_le (by decide)) ?_
        have b626 := jB (e := 15) 0 j621 rg_63_15_0_1 (by first | decide | omega) (by first | decide | omega)
        refine x_getC (np := 31) (x := 783) (f := 15) (q := (h619 63 15)) (by decide +kernel) (by decide) (by decide +kernel) rfl (fun l627 => ?_)
        refine x_icmp (k := 3) (tg := 95) (np := 34) (by decide +kernel) (by decide) (by first | decide | omega) l627 (fun q628 => ?_) (fun q629 => ?_)
        · have q628 : (h619 63 15) ≤ v616 := q628
          refine x_retV (np := 96) (x := 0) (by decide +kernel) (by decide +kernel) ⟨rfl, ?_⟩
          exact ⟨j621, f625⟩
        have q629 : ¬ ((h619 63 15) ≤ v616) := q629
        refine x_iload (np := 35) (x := 2) (by decide +kernel) rfl (by first | decide | omega) ?_
        refine x_istore (np := 36) (x := 3) (lo' := [x_r 63, iv_c 2147483653, iv_c v616, iv_c v616]) (by decide +kernel) (by first | decide | omega) (Nat.le_of_ble_eq_true rfl) rfl ?_
        have p704 : ∀ (n : Nat) (v699 : Nat) (h701 : xh), v699 < n → (2147483648 ≤ v699 ∧ v699 ≤ 2147483652) → J h701 → Fr 32768 h619 h701 → X sc 279 d (xV fun h' => J h' ∧ Fr 32769 h h') 0 0 36 [x_r 63, iv_c 2147483653, iv_c v616, iv_c v699] [] h701 := by
          intro n
          induction n with
          | zero => intro v699 h701 q705; exact absurd q705 (Nat.not_lt_zero _)
          | succ n i706 =>
            intro v699 h701 q705 b700 j703 f702
            have f707 := Fr.trans f625 f702 (by decide)
            have f708 := Fr.trans f620 f702 (by decide)
            refine x_iload (np := 37) (x := 3) (by decide +kernel) rfl (by first | decide | omega) ?_
            refine x_ifz (k := 5) (tg := 77) (np := 40) (by decide +kernel) (by decide) (by first | decide | omega) (fun q709 => ?_) (fun q710 => ?_)
            · have q709 : v699 ≤ 2147483648 := q709
              refine x_aload (np := 78) (x := 0) (by decide +kernel) rfl (x_nc_le (by decide)) ?_
              have q711 : h701 63 4 = 68 := by have z := jB (e := 4) 0 j703 rg_63_4_0_1 (by decide) (by decide); omega
              refine x_getR (np := 81) (x := 772) (f := 4) (q := 68) (by decide +kernel) (by decide) (by decide +kernel) q711 ?_
              refine x_iload (np := 82) (x := 3) (by decide +kernel) rfl (by first | decide | omega) ?_
              refine x_aload (np := 83) (x := 0) (by decide +kernel) rfl (x_nc_le (by decide)) ?_
              have q712 : h701 63 3 = 67 := by have z := jB (e := 3) 0 j703 rg_63_3_0_1 (by decide) (by decide); omega
              refine x_getR (np := 86) (x := 771) (f := 3) (q := 67) (by decide +kernel) (by decide) (by decide +kernel) q712 ?_
              refine x_iload (np := 87) (x := 2) (by decide +kernel) rfl (by first | decide | omega) ?_
              obtain ⟨u713, q714⟩ : ∃ z, v616 = 2147483648 + z := ⟨v616 - 2147483648, by first | decide | omega⟩
              refine x_aldC (np := 88) (x := 0) (n := 5) (i := u713) (q := (h701 67 u713)) (by decide +kernel) (by decide +kernel) (by first | decide | omega) (by first | decide | omega) (by decide) rfl (fun l715 => ?_)
              obtain ⟨u716, q717⟩ : ∃ z, v699 = 2147483648 + z := ⟨v699 - 2147483648, by first | decide | omega⟩
              refine x_ast (np := 89) (x := 0) (kd := 1) (n := 5) (i := u716) (by decide +kernel) (Or.inl rfl) (by decide +kernel) (by first | decide | omega) (by first | decide | omega) (by decide) l715 (fun z => absurd z (by decide)) ?_
              have j719 := jU (e := u716) (v := (h701 67 u713)) u716 j703 rg_68_0_1_5 (by first | decide | omega) (by first | decide | omega) (by first | decide | omega)
              have f721 := jF (e := u716) (v := (h701 67 u713)) u716 f707 rg_68_0_1_5 (by first | decide | omega) (by first | decide | omega) (by decide)
              have f722 := jF (e := u716) (v := (h701 67 u713)) u716 f708 rg_68_0_1_5 (by first | decide | omega) (by first | decide | omega) (by decide)
              generalize e720 : x_up h701 68 u716 (h701 67 u713) = h718 at j719 f721 f722 ⊢
              refine x_iinc (np := 92) (i := 2) (j := 2147483649) (v := (1 + v616)) (lo' := [x_r 63, iv_c 2147483653, iv_c (1 + v616), iv_c v699]) (by decide +kernel) (by decide) (by decide) rfl (by first | decide | omega) (by first | decide | omega) (by first | decide | omega) rfl ?_
              refine x_goto (np := 95) (x := 26) (by decide +kernel) ?_
              exact i624 (1 + v616) (iv_c v699) h718 (by first | decide | omega) (by first | decide | omega) j719 f722
            have q710 : ¬ (v699 ≤ 2147483648) := q710
            refine x_aload (np := 41) (x := 0) (by decide +kernel) rfl (x_nc_le (by decide)) ?_
            have q723 : h701 63 4 = 68 := by have z := jB (e := 4) 0 j703 rg_63_4_0_1 (by decide) (by decide); omega
            refine x_getR (np := 44) (x := 772) (f := 4) (q := 68) (by decide +kernel) (by decide) (by decide +kernel) q723 ?_
            refine x_iload (np := 45) (x := 3) (by decide +kernel) rfl (by first | decide | omega) ?_
            refine x_const (np := 46) (x := 9223372043297226753) (a := 2147483649) (by decide +kernel) (by decide) (by decide) ?_
            obtain ⟨v724, q725⟩ : ∃ z, z + 2147483649 = v699 + 2147483648 := ⟨v699 + 2147483648 - 2147483649, by first | decide | omega⟩
            refine x_isub (np := 47) (x := 0) (v := v724) (by decide +kernel) (by first | decide | omega) (by decide) (by first | decide | omega) (by first | decide | omega) ?_
            obtain ⟨u726, q727⟩ : ∃ z, v724 = 2147483648 + z := ⟨v724 - 2147483648, by first | decide | omega⟩
            refine x_aldC (np := 48) (x := 0) (n := 5) (i := u726) (q := (h701 68 u726)) (by decide +kernel) (by decide +kernel) (by first | decide | omega) (by first | decide | omega) (by decide) rfl (fun l728 => ?_)
            refine x_aload (np := 49) (x := 0) (by decide +kernel) rfl (x_nc_le (by decide)) ?_
            have q729 : h701 63 3 = 67 := by have z := jB (e := 3) 0 j703 rg_63_3_0_1 (by decide) (by decide); omega
            refine x_getR (np := 52) (x := 771) (f := 3) (q := 67) (by decide +kernel) (by decide) (by decide +kernel) q729 ?_
            refine x_iload (np := 53) (x := 2) (by decide +kernel) rfl (by first | decide | omega) ?_
            obtain ⟨u730, q731⟩ : ∃ z, v616 = 2147483648 + z := ⟨v616 - 2147483648, by first | decide | omega⟩
            refine x_aldC (np := 54) (x := 0) (n := 5) (i := u730) (q := (h701 67 u730)) (by decide +kernel) (by decide +kernel) (by first | decide | omega) (by first | decide | omega) (by decide) rfl (fun l732 => ?_)
            refine x_icmp (k := 5) (tg := 77) (np := 57) (by decide +kernel) (by decide) l728 l732 (fun q733 => ?_) (fun q734 => ?_)
            · have q733 : (h701 68 u726) ≤ (h701 67 u730) := q733
              refine x_aload (np := 78) (x := 0) (by decide +kernel) rfl (x_nc_le (by decide)) ?_
              have q735 : h701 63 4 = 68 := by have z := jB (e := 4) 0 j703 rg_63_4_0_1 (by decide) (by decide); omega
              refine x_getR (np := 81) (x := 772) (f := 4) (q := 68) (by decide +kernel) (by decide) (by decide +kernel) q735 ?_
              refine x_iload (np := 82) (x := 3) (by decide +kernel) rfl (by first | decide | omega) ?_
              refine x_aload (np := 83) (x := 0) (by decide +kernel) rfl (x_nc_le (by decide)) ?_
              have q736 : h701 63 3 = 67 := by have z := jB (e := 3) 0 j703 rg_63_3_0_1 (by decide) (by decide); omega
              refine x_getR (np := 86) (x := 771) (f := 3) (q := 67) (by decide +kernel) (by decide) (by decide +kernel) q736 ?_
              refine x_iload (np := 87) (x := 2) (by decide +kernel) rfl (by first | decide | omega) ?_
              refine x_aldC (np := 88) (x := 0) (n := 5) (i := u730) (q := (h701 67 u730)) (by decide +kernel) (by decide +kernel) (by first | decide | omega) (by first | decide | omega) (by decide) rfl (fun l737 => ?_)
              obtain ⟨u738, q739⟩ : ∃ z, v699 = 2147483648 + z := ⟨v699 - 2147483648, by first | decide | omega⟩
              refine x_ast (np := 89) (x := 0) (kd := 1) (n := 5) (i := u738) (by decide +kernel) (Or.inl rfl) (by decide +kernel) (by first | decide | omega) (by first | decide | omega) (by decide) l732 (fun z => absurd z (by decide)) ?_
              have j741 := jU (e := u738) (v := (h701 67 u730)) u738 j703 rg_68_0_1_5 (by first | decide | omega) (by first | decide | omega) (by first | decide | omega)
              have f743 := jF (e := u738) (v := (h701 67 u730)) u738 f707 rg_68_0_1_5 (by first | decide | omega) (by first | decide | omega) (by decide)
              have f744 := jF (e := u738) (v := (h701 67 u730)) u738 f708 rg_68_0_1_5 (by first | decide | omega) (by first | decide | omega) (by decide)
              generalize e742 : x_up h701 68 u738 (h701 67 u730) = h740 at j741 f743 f744 ⊢
              refine x_iinc (np := 92) (i := 2) (j := 2147483649) (v := (1 + v616)) (lo' := [x_r 63, iv_c 2147483653, iv_c (1 + v616), iv_c v699]) (by decide +kernel) (by decide) (by decide) rfl (by first | decide | omega) (by first | decide | omega) (by first | decide | omega) rfl ?_
              refine x_goto (np := 95) (x := 26) (by decide +kernel) ?_
              exact i624 (1 + v616) (iv_c v699) h740 (by first | decide | omega) (by first | decide | omega) j741 f744
            have q734 : ¬ ((h701 68 u726) ≤ (h701 67 u730)) := q734
            refine x_aload (np := 58) (x := 0) (by decide +kernel) rfl (x_nc_le (by decide)) ?_
            have q745 : h701 63 4 = 68 := by have z := jB (e := 4) 0 j703 rg_63_4_0_1 (by decide) (by decide); omega
            refine x_getR (np := 61) (x := 772) (f := 4) (q := 68) (by decide +kernel) (by decide) (by decide +kernel) q745 ?_
            refine x_iload (np := 62) (x := 3) (by decide +kernel) rfl (by first | decide | omega) ?_
            refine x_aload (np := 63) (x := 0) (by decide +kernel) rfl (x_nc_le (by decide)) ?_
            have q746 : h701 63 4 = 68 := by have z := jB (e := 4) 0 j703 rg_63_4_0_1 (by decide) (by decide); omega
            refine x_getR (np := 66) (x := 772) (f := 4) (q := 68) (by decide +kernel) (by decide) (by decide +kernel) q746 ?_
            refine x_iload (np := 67) (x := 3) (by decide +kernel) rfl (by first | decide | omega) ?_
            refine x_const (np := 68) (x := 9223372043297226753) (a := 2147483649) (by decide +kernel) (by decide) (by decide) ?_
            obtain ⟨v747, q748⟩ : ∃ z, z + 2147483649 = v699 + 2147483648 := ⟨v699 + 2147483648 - 2147483649, by first | decide | omega⟩
            refine x_isub (np := 69) (x := 0) (v := v747) (by decide +kernel) (by first | decide | omega) (by decide) (by first | decide | omega) (by first | decide | omega) ?_
            obtain ⟨u749, q750⟩ : ∃ z, v747 = 2147483648 + z := ⟨v747 - 2147483648, by first | decide | omega⟩
            refine x_aldC (np := 70) (x := 0) (n := 5) (i := u749) (q := (h701 68 u749)) (by decide +kernel) (by decide +kernel) (by first | decide | omega) (by first | decide | omega) (by decide) rfl (fun l751 => ?_)
            obtain ⟨u752, q753⟩ : ∃ z, v699 = 2147483648 + z := ⟨v699 - 2147483648, by first | decide | omega⟩
            refine x_ast (np := 71) (x := 0) (kd := 1) (n := 5) (i := u752) (by decide +kernel) (Or.inl rfl) (by decide +kernel) (by first | decide | omega) (by first | decide | omega) (by decide) l751 (fun z => absurd z (by decide)) ?_
            have j755 := jU (e := u752) (v := (h701 68 u749)) u752 j703 rg_68_0_1_5 (by first | decide | omega) (by first | decide | omega) (by first | decide | omega)
            have f757 := jF (e := u752) (v := (h701 68 u749)) u752 f707 rg_68_0_1_5 (by first | decide | omega) (by first | decide | omega) (by decide)
            have f758 := jF (e := u752) (v := (h701 68 u749)) u752 f708 rg_68_0_1_5 (by first | decide | omega) (by first | decide | omega) (by decide)
            have f759 := jF (e := u752) (v := (h701 68 u749)) u752 f702 rg_68_0_1_5 (by first | decide | omega) (by first | decide | omega) (by decide)
            generalize e756 : x_up h701 68 u752 (h701 68 u749) = h754 at j755 f757 f758 f759 ⊢
            obtain ⟨v760, q761⟩ : ∃ z, z + 1 = v699 := ⟨v699 - 1, by first | decide | omega⟩
            refine x_iinc (np := 74) (i := 3) (j := 2147483647) (v := v760) (lo' := [x_r 63, iv_c 2147483653, iv_c v616, iv_c v760]) (by decide +kernel) (by decide) (by decide) rfl (by first | decide | omega) (by first | decide | omega) (by first | decide | omega) rfl ?_
            refine x_goto (np := 77) (x := 36) (by decide +kernel) ?_
            exact i706 v760 h754 (by first | decide | omega) (by first | decide | omega) j755 f759
        exact p704 _ v616 h619 (Nat.lt_succ_self _) (by first | decide | omega) j621 (Fr.refl _ _)
    exact p622 _ 2147483648 147573952589676412928 h12 (Nat.lt_succ_self _) (by first | decide | omega) j13 (Fr.refl _ _)
  have q11 : ¬ (v2 ≤ 2147483649) := q11
  refine x_retV (np := 19) (x := 0) (by decide +kernel) (by decide +kernel) ⟨rfl, ?_⟩
  exact ⟨j5, f7⟩
set_option maxHeartbeats 0 in
/-- LentNames$Search.come(I)V -/
theorem c274_63_c5 {sc : Nat × Nat} {d  : Nat} {h : xh} (hJ : J h) : X sc 274 (d + 3) (xV fun h' => J h' ∧ Fr 32769 h h') 0 0 0 [x_r 63, iv_c 2147483653] [] h := by
  have hF := Fr.refl 32769 h
  refine x_aload (np := 1) (x := 0) (by decide +kernel) rfl (x_nc_le (by decide)) ?_
  refine x_dup (np := 2) (x := 0) (by decide +kernel) (by have z := x_nc_le (k := 63) (by decide); unfold x_r; omega) ?_
  refine x_getC (np := 5) (x := 785) (f := 17) (q := (h 63 17)) (by decide +kernel) (by decide) (by decide +kernel) rfl (fun l1 => ?_)
  refine x_const (np := 6) (x := 9223372043297226753) (a := 2147483649) (by decide +kernel) (by decide) (by decide) ?_
  refine x_addA (by rw [tb_b274]; decide +kernel) l1 (by decide) (fun v2 l3 => ?_)
  refine x_putI (np := 10) (x := 785) (f := 17) (by decide +kernel) (by decide +kernel) l3 (Or.inl (by decide)) ?_
  have j5 := jU (e := 17) (v := v2) 0 hJ rg_63_17_0_1 (by first | decide | omega) (by first | decide | omega) (by first | decide | omega)
  have f7 := jF (e := 17) (v := v2) 0 hF rg_63_17_0_1 (by first | decide | omega) (by first | decide | omega) (by decide)
  generalize e6 : x_up h 63 17 v2 = h4 at j5 f7 ⊢
  refine x_aload (np := 11) (x := 0) (by decide +kernel) rfl (x_nc_le (by decide)) ?_
  have q8 : h4 63 17 = v2 := by rw [← e6]; exact x_up_at
  refine x_getC (np := 14) (x := 785) (f := 17) (q := v2) (by decide +kernel) (by decide) (by decide +kernel) q8 (fun l9 => ?_)
  refine x_const (np := 17) (x := 9223457938348199456) (a := 2147503648) (by decide +kernel) (by decide) (by decide) ?_
  refine x_icmp (k := 5) (tg := 28) (np := 20) (by decide +kernel) (by decide) l3 (by decide) (fun q10 => ?_) (fun q11 => ?_)
  · have q10 : v2 ≤ 2147503648 := q10
    refine x_aload (np := 29) (x := 0) (by decide +kernel) rfl (x_nc_le (by decide)) ?_
    refine x_vI (P := fun r9 h9 => X sc 274 _ _ 0 0 32 [x_r 63, iv_c 2147483653] (iv_c r9 :: []) h9) (np := 32) (x := 5246979) (kk := 3) (cls := 4) (mj := 56) (ml := 1) (nr := 0) (rest := []) (lo1 := [x_r 63]) (by decide +kernel) (by decide) (by decide) (by decide) (by decide +kernel) (by decide +kernel) (by decide) (by decide +kernel) (by decide +kernel) x_wn (by decide) rfl ?_ (fun _ _ _ z => z)
    refine x_aload (np := 1) (x := 0) (by decide +kernel) rfl (x_nc_le (by decide)) ?_
    refine x_cI (t := 6) (mj := 57) (n := 1) (rc := 5) (ml := 5) (nr := 0) (np := 4) (as := [x_r 63]) (rest := []) (lo1 := [x_r 63, 147573952589676412928, 147573952589676412928, 147573952589676412928, 147573952589676412928]) (by decide +kernel) (by decide) (by decide +kernel) (x_rb_of (by decide +kernel)) rfl rfl (x_wr (by decide) x_wn) x_wn (by decide) rfl (c57_63 j5 ) (fun v12 h15 l13 q14 => ?_)
    obtain ⟨j16, f17, b18⟩ := q14
    have f19 := Fr.trans f7 f17 (by decide)
    refine x_ifz (k := 1) (tg := 14) (np := 7) (by decide +kernel) (by decide) l13 (fun q20 => ?_) (fun q21 => ?_)
    · have q20 : v12 ≠ 2147483648 := q20
      refine x_const (np := 15) (x := 9223372043297226753) (a := 2147483649) (by decide +kernel) (by decide) (by decide) ?_
      refine x_goto (np := 18) (x := 19) (by decide +kernel) ?_
      refine x_retI (np := 20) (x := 0) (by decide +kernel) (by decide) (Or.inr ⟨by decide +kernel, by first | decide | omega, by first | decide | omega⟩) ⟨_, rfl, (by decide), ?_⟩
      refine x_ifz (k := 1) (tg := 43) (np := 35) (by decide +kernel) (by decide) (by decide) (fun q22 => ?_) (fun q23 => ?_)
      · have q22 : 2147483649 ≠ 2147483648 := q22
        refine x_iload (np := 44) (x := 1) (by decide +kernel) rfl (by decide) ?_
        refine x_aload (np := 45) (x := 0) (by decide +kernel) rfl (x_nc_le (by decide)) ?_
        refine x_getC (np := 48) (x := 784) (f := 16) (q := (h15 63 16)) (by decide +kernel) (by decide) (by decide +kernel) rfl (fun l24 => ?_)
        refine x_icmp (k := 3) (tg := 61) (np := 51) (by decide +kernel) (by decide) (by decide) l24 (fun q25 => ?_) (fun q26 => ?_)
        · have q25 : (h15 63 16) ≤ 2147483653 := q25
          refine x_retV (np := 62) (x := 0) (by decide +kernel) (by decide +kernel) ⟨rfl, ?_⟩
          exact ⟨j16, f19⟩
        have q26 : ¬ ((h15 63 16) ≤ 2147483653) := q26
        refine x_iload (np := 52) (x := 1) (by decide +kernel) rfl (by decide) ?_
        refine x_const (np := 53) (x := 9223372060477095941) (a := 2147483653) (by decide +kernel) (by decide) (by decide) ?_
        refine x_icmp (k := 3) (tg := 61) (np := 56) (by decide +kernel) (by decide) (by decide) (by decide) (fun q27 => ?_) (fun q28 => ?_)
        · have q27 : 2147483653 ≤ 2147483653 := q27
          refine x_retV (np := 62) (x := 0) (by decide +kernel) (by decide +kernel) ⟨rfl, ?_⟩
          exact ⟨j16, f19⟩
        have q28 : ¬ (2147483653 ≤ 2147483653) := q28
        exfalso; omega
      have q23 : ¬ (2147483649 ≠ 2147483648) := q23
      exfalso; omega
    have q21 : ¬ (v12 ≠ 2147483648) := q21
    refine x_aload (np := 8) (x := 0) (by decide +kernel) rfl (x_nc_le (by decide)) ?_
    refine x_cI (t := 6) (mj := 58) (n := 1) (rc := 5) (ml := 4) (nr := 0) (np := 11) (as := [x_r 63]) (rest := []) (lo1 := [x_r 63, 147573952589676412928, 147573952589676412928, 147573952589676412928]) (by decide +kernel) (by decide) (by decide +kernel) (x_rb_of (by decide +kernel)) rfl rfl (x_wr (by decide) x_wn) x_wn (by decide) rfl (c58_63 j16 ) (fun v29 h32 l30 q31 => ?_)
    obtain ⟨j33, f34, b35⟩ := q31
    have f36 := Fr.trans f19 f34 (by decide)
    refine x_ifz (k := 0) (tg := 18) (np := 14) (by decide +kernel) (by decide) l30 (fun q37 => ?_) (fun q38 => ?_)
    · have q37 : v29 = 2147483648 := q37
      refine x_const (np := 19) (x := 9223372039002259456) (a := 2147483648) (by decide +kernel) (by decide) (by decide) ?_
      refine x_retI (np := 20) (x := 0) (by decide +kernel) (by decide) (Or.inr ⟨by decide +kernel, by first | decide | omega, by first | decide | omega⟩) ⟨_, rfl, (by decide), ?_⟩
      refine x_ifz (k := 1) (tg := 43) (np := 35) (by decide +kernel) (by decide) (by decide) (fun q39 => ?_) (fun q40 => ?_)
      · have q39 : 2147483648 ≠ 2147483648 := q39
        exfalso; omega
      have q40 : ¬ (2147483648 ≠ 2147483648) := q40
      refine x_aload (np := 36) (x := 0) (by decide +kernel) rfl (x_nc_le (by decide)) ?_
      refine x_iload (np := 37) (x := 1) (by decide +kernel) rfl (by decide) ?_
      refine x_cV (t := 8) (mj := 279) (n := 2) (rc := 13) (ml := 4) (nr := 0) (np := 40) (as := [x_r 63, iv_c 2147483653]) (rest := []) (lo1 := [x_r 63, iv_c 2147483653, 147573952589676412928, 147573952589676412928]) (by decide +kernel) (by decide) (by decide +kernel) (x_rb_of (by decide +kernel)) rfl rfl (x_wr (by decide) (x_wi (by decide) x_wn)) x_wn (by decide) rfl (c279_63_c5 j33  ) (fun h44 q43 => ?_)
      obtain ⟨j45, f46⟩ := q43
      have f49 := Fr.trans f36 f46 (by decide)
      refine x_goto (np := 43) (x := 61) (by decide +kernel) ?_
      refine x_retV (np := 62) (x := 0) (by decide +kernel) (by decide +kernel) ⟨rfl, ?_⟩
      exact ⟨j45, f49⟩
    have q38 : ¬ (v29 = 2147483648) := q38
    refine x_const (np := 15) (x := 9223372043297226753) (a := 2147483649) (by decide +kernel) (by decide) (by decide) ?_
    refine x_goto (np := 18) (x := 19) (by decide +kernel) ?_
    refine x_retI (np := 20) (x := 0) (by decide +kernel) (by decide) (Or.inr ⟨by decide +kernel, by first | decide | omega, by first | decide | omega⟩) ⟨_, rfl, (by decide), ?_⟩
    refine x_ifz (k := 1) (tg := 43) (np := 35) (by decide +kernel) (by decide) (by decide) (fun q50 => ?_) (fun q51 => ?_)
    · have q50 : 2147483649 ≠ 2147483648 := q50
      refine x_iload (np := 44) (x := 1) (by decide +kernel) rfl (by decide) ?_
      refine x_aload (np := 45) (x := 0) (by decide +kernel) rfl (x_nc_le (by decide)) ?_
      refine x_getC (np := 48) (x := 784) (f := 16) (q := (h32 63 16)) (by decide +kernel) (by decide) (by decide +kernel) rfl (fun l52 => ?_)
      refine x_icmp (k := 3) (tg := 61) (np := 51) (by decide +kernel) (by decide) (by decide) l52 (fun q53 => ?_) (fun q54 => ?_)
      · have q53 : (h32 63 16) ≤ 2147483653 := q53
        refine x_retV (np := 62) (x := 0) (by decide +kernel) (by decide +kernel) ⟨rfl, ?_⟩
        exact ⟨j33, f36⟩
      have q54 : ¬ ((h32 63 16) ≤ 2147483653) := q54
      refine x_iload (np := 52) (x := 1) (by decide +kernel) rfl (by decide) ?_
      refine x_const (np := 53) (x := 9223372060477095941) (a := 2147483653) (by decide +kernel) (by decide) (by decide) ?_
      refine x_icmp (k := 3) (tg := 61) (np := 56) (by decide +kernel) (by decide) (by decide) (by decide) (fun q55 => ?_) (fun q56 => ?_)
      · have q55 : 2147483653 ≤ 2147483653 := q55
        refine x_retV (np := 62) (x := 0) (by decide +kernel) (by decide +kernel) ⟨rfl, ?_⟩
        exact ⟨j33, f36⟩
      have q56 : ¬ (2147483653 ≤ 2147483653) := q56
      exfalso; omega
    have q51 : ¬ (2147483649 ≠ 2147483648) := q51
    exfalso; omega
  have q11 : ¬ (v2 ≤ 2147503648) := q11
  refine x_aload (np := 21) (x := 0) (by decide +kernel) rfl (x_nc_le (by decide)) ?_
  refine x_const (np := 22) (x := 9223372043297226753) (a := 2147483649) (by decide +kernel) (by decide) (by decide) ?_
  refine x_putI (np := 25) (x := 4873) (f := 9) (by decide +kernel) (by decide +kernel) (by decide) (Or.inr ⟨by decide, by first | decide | omega, by first | decide | omega⟩) ?_
  have j58 := jU (e := 9) (v := 2147483649) 0 j5 rg_63_9_0_1 (by first | decide | omega) (by first | decide | omega) (by first | decide | omega)
  have f60 := jF (e := 9) (v := 2147483649) 0 f7 rg_63_9_0_1 (by first | decide | omega) (by first | decide | omega) (by decide)
  generalize e59 : x_up h4 63 9 2147483649 = h57 at j58 f60 ⊢
  refine x_goto (np := 28) (x := 61) (by decide +kernel) ?_
  refine x_retV (np := 62) (x := 0) (by decide +kernel) (by decide +kernel) ⟨rfl, ?_⟩
  exact ⟨j58, f60⟩
set_option maxHeartbeats 0 in
/-- LentNames$Search.giveBack(II)V -/
theorem c281_63 {sc : Nat × Nat} {d a1 a2 : Nat} {h : xh} (hJ : J h) (ba1 : 2147483648 ≤ a1 ∧ a1 ≤ 2147483653) (ba2 : 0 ≤ a2 ∧ a2 ≤ 4294967295) : X sc 281 (d + 1) (xV fun h' => J h' ∧ Fr 32769 h h') 0 0 0 [x_r 63, iv_c a1, iv_c a2, 147573952589676412928, 147573952589676412928] [] h := by
  have la1 : a1 < 4294967296 := by first | decide | omega
  have la2 : a2 < 4294967296 := by first | decide | omega
  have hF := Fr.refl 32769 h
  refine x_aload (np := 1) (x := 0) (by decide +kernel) rfl (x_nc_le (by decide)) ?_
  have q1 : h 63 2 = 66 := by have z := jB (e := 2) 0 hJ rg_63_2_0_1 (by decide) (by decide); omega
  refine x_getR (np := 4) (x := 770) (f := 2) (q := 66) (by decide +kernel) (by decide) (by decide +kernel) q1 ?_
  refine x_iload (np := 5) (x := 1) (by decide +kernel) rfl la1 ?_
  refine x_dup2 (np := 6) (x := 0) (by decide +kernel) (by have z := (iw_c_lt (a := a1) la1).1; omega) (by have z := x_nc_le (k := 66) (by decide); unfold x_r; omega) ?_
  obtain ⟨u2, q3⟩ : ∃ z, a1 = 2147483648 + z := ⟨a1 - 2147483648, by first | decide | omega⟩
  refine x_aldC (np := 7) (x := 0) (n := 6) (i := u2) (q := (h 66 u2)) (by decide +kernel) (by decide +kernel) (by first | decide | omega) (by first | decide | omega) (by decide) rfl (fun l4 => ?_)
  refine x_iload (np := 8) (x := 2) (by decide +kernel) rfl la2 ?_
  refine x_const (np := 9) (x := 9223372034707292159) (a := 2147483647) (by decide +kernel) (by decide) (by decide) ?_
  refine x_any (np := 10) (k9 := 2) (by decide +kernel) (by decide) la2 (by decide) (fun v5 l6 => ?_)
  refine x_any (np := 11) (k9 := 0) (by decide +kernel) (by decide) l4 l6 (fun v7 l8 => ?_)
  refine x_ast (np := 12) (x := 0) (kd := 1) (n := 6) (i := u2) (by decide +kernel) (Or.inl rfl) (by decide +kernel) (by first | decide | omega) (by first | decide | omega) (by decide) l8 (fun z => absurd z (by decide)) ?_
  have j10 := jU (e := u2) (v := v7) u2 hJ rg_66_0_1_6 (by first | decide | omega) (by first | decide | omega) (by first | decide | omega)
  have f12 := jF (e := u2) (v := v7) u2 hF rg_66_0_1_6 (by first | decide | omega) (by first | decide | omega) (by decide)
  generalize e11 : x_up h 66 u2 v7 = h9 at j10 f12 ⊢
  refine x_const (np := 13) (x := 9223372039002259456) (a := 2147483648) (by decide +kernel) (by decide) (by decide) ?_
  refine x_istore (np := 14) (x := 3) (lo' := [x_r 63, iv_c a1, iv_c a2, iv_c 2147483648, 147573952589676412928]) (by decide +kernel) (by decide) (Nat.le_of_ble_eq_true rfl) rfl ?_
  have p208 : ∀ (n : Nat) (v202 : Nat) (w204 : Nat) (h205 : xh), 4294967296 - v202 < n → (2147483648 ≤ v202 ∧ v202 ≤ 2147483654) → J h205 → Fr 32768 h9 h205 → X sc 281 (d + 1) (xV fun h' => J h' ∧ Fr 32769 h h') 0 0 14 [x_r 63, iv_c a1, iv_c a2, iv_c v202, w204] [] h205 := by
    intro n
    induction n with
    | zero => intro v202 w204 h205 q209; exact absurd q209 (Nat.not_lt_zero _)
    | succ n i210 =>
      intro v202 w204 h205 q209 b203 j207 f206
      have f211 := Fr.trans f12 f206 (by decide)
      refine x_iload (np := 15) (x := 3) (by decide +kernel) rfl (by first | decide | omega) ?_
      refine x_const (np := 17) (x := 9223372064772063238) (a := 2147483654) (by decide +kernel) (by decide) (by decide) ?_
      refine x_icmp (k := 3) (tg := 64) (np := 20) (by decide +kernel) (by decide) (by first | decide | omega) (by decide) (fun q212 => ?_) (fun q213 => ?_)
      · have q212 : 2147483654 ≤ v202 := q212
        refine x_retV (np := 65) (x := 0) (by decide +kernel) (by decide +kernel) ⟨rfl, ?_⟩
        exact ⟨j207, f211⟩
      have q213 : ¬ (2147483654 ≤ v202) := q213
      refine x_iload (np := 21) (x := 1) (by decide +kernel) rfl la1 ?_
      refine x_iload (np := 22) (x := 3) (by decide +kernel) rfl (by first | decide | omega) ?_
      refine x_nI (t := 7) (mj := 149) (n := 2) (rc := 0) (ml := 2) (nr := 0) (np := 25) (as := [iv_c a1, iv_c v202]) (rest := []) (lo1 := [iv_c a1, iv_c v202]) (by decide +kernel) (by decide) (by decide +kernel) (Or.inl rfl) rfl rfl (x_wi la1 (x_wi (by first | decide | omega) x_wn)) x_wn (by decide) rfl ?_
      refine x_iload (np := 1) (x := 0) (by decide +kernel) rfl la1 ?_
      refine x_const (np := 3) (x := 9223372064772063238) (a := 2147483654) (by decide +kernel) (by decide) (by decide) ?_
      refine x_imul (np := 4) (x := 0) (i := u2) (j := 6) (v := (2147483648 + 6 * u2)) (by decide +kernel) (by first | decide | omega) (by first | decide | omega) (by first | decide | omega) (by first | decide | omega) la1 (by decide) ?_
      refine x_iload (np := 5) (x := 1) (by decide +kernel) rfl (by first | decide | omega) ?_
      refine x_iadd (np := 6) (x := 0) (v := (6 * u2 + v202)) (by decide +kernel) (by first | decide | omega) (by first | decide | omega) (by first | decide | omega) (by first | decide | omega) ?_
      refine x_retI (np := 7) (x := 0) (by decide +kernel) (by first | decide | omega) (Or.inl (by decide +kernel)) ⟨_, rfl, (by first | decide | omega), ?_⟩
      refine x_istore (np := 27) (x := 4) (lo' := [x_r 63, iv_c a1, iv_c a2, iv_c v202, iv_c (6 * u2 + v202)]) (by decide +kernel) (by first | decide | omega) (Nat.le_of_ble_eq_true rfl) rfl ?_
      refine x_aload (np := 28) (x := 0) (by decide +kernel) rfl (x_nc_le (by decide)) ?_
      have q215 : h205 63 0 = 64 := by have z := jB (e := 0) 0 j207 rg_63_0_0_1 (by decide) (by decide); omega
      refine x_getR (np := 31) (x := 768) (f := 0) (q := 64) (by decide +kernel) (by decide) (by decide +kernel) q215 ?_
      refine x_iload (np := 33) (x := 4) (by decide +kernel) rfl (by first | decide | omega) ?_
      refine x_aload (np := 34) (x := 0) (by decide +kernel) rfl (x_nc_le (by decide)) ?_
      have q216 : h205 63 0 = 64 := by have z := jB (e := 0) 0 j207 rg_63_0_0_1 (by decide) (by decide); omega
      refine x_getR (np := 37) (x := 768) (f := 0) (q := 64) (by decide +kernel) (by decide) (by decide +kernel) q216 ?_
      refine x_iload (np := 39) (x := 4) (by decide +kernel) rfl (by first | decide | omega) ?_
      obtain ⟨u217, q218⟩ : ∃ z, v202 = 2147483648 + z := ⟨v202 - 2147483648, by first | decide | omega⟩
      refine x_aldC (np := 40) (x := 0) (n := 36) (i := (6 * u2 + u217)) (q := ((h205 64 (6 * u2 + u217)))) (by decide +kernel) (by decide +kernel) (by first | decide | omega) (by first | decide | omega) (by decide) rfl (fun l219 => ?_)
      refine x_iload (np := 41) (x := 2) (by decide +kernel) rfl la2 ?_
      refine x_const (np := 42) (x := 9223372034707292159) (a := 2147483647) (by decide +kernel) (by decide) (by decide) ?_
      refine x_any (np := 43) (k9 := 2) (by decide +kernel) (by decide) la2 (by decide) (fun v220 l221 => ?_)
      refine x_any (np := 44) (k9 := 0) (by decide +kernel) (by decide) l219 l221 (fun v222 l223 => ?_)
      refine x_aload (np := 45) (x := 0) (by decide +kernel) rfl (x_nc_le (by decide)) ?_
      have q224 : h205 63 5 = 45 := by have z := jB (e := 5) 0 j207 rg_63_5_0_1 (by decide) (by decide); omega
      refine x_getR (np := 48) (x := 773) (f := 5) (q := 45) (by decide +kernel) (by decide) (by decide +kernel) q224 ?_
      have q225 : h205 45 1 = 47 := by have z := jB (e := 1) 0 j207 rg_45_1_0_1 (by decide) (by decide); omega
      refine x_getR (np := 51) (x := 65) (f := 1) (q := 47) (by decide +kernel) (by decide) (by decide +kernel) q225 ?_
      refine x_iload (np := 53) (x := 4) (by decide +kernel) rfl (by first | decide | omega) ?_
      have q226 : h205 47 (6 * u2 + u217) = h9 47 (6 * u2 + u217) := jK (6 * u2 + u217) f206 rg_47_0_1_36 (by first | decide | omega) (by first | decide | omega) (by decide)
      have q227 : h9 47 (6 * u2 + u217) = h 47 (6 * u2 + u217) := by rw [← e11]; exact x_up_k (by decide)
      refine x_aldC (np := 54) (x := 0) (n := 36) (i := (6 * u2 + u217)) (q := ((h 47 (6 * u2 + u217)))) (by decide +kernel) (by decide +kernel) (by first | decide | omega) (by first | decide | omega) (by decide) (q226.trans q227) (fun l228 => ?_)
      refine x_iload (np := 55) (x := 2) (by decide +kernel) rfl la2 ?_
      refine x_any (np := 56) (k9 := 0) (by decide +kernel) (by decide) l228 la2 (fun v229 l230 => ?_)
      refine x_any (np := 57) (k9 := 1) (by decide +kernel) (by decide) l223 l230 (fun v231 l232 => ?_)
      refine x_ast (np := 58) (x := 0) (kd := 1) (n := 36) (i := (6 * u2 + u217)) (by decide +kernel) (Or.inl rfl) (by decide +kernel) (by first | decide | omega) (by first | decide | omega) (by decide) l232 (fun z => absurd z (by decide)) ?_
      have j234 := jU (e := (6 * u2 + u217)) (v := v231) (6 * u2 + u217) j207 rg_64_0_1_36 (by first | decide | omega) (by first | decide | omega) (by first | decide | omega)
      have f236 := jF (e := (6 * u2 + u217)) (v := v231) (6 * u2 + u217) f211 rg_64_0_1_36 (by first | decide | omega) (by first | decide | omega) (by decide)
      have f237 := jF (e := (6 * u2 + u217)) (v := v231) (6 * u2 + u217) f206 rg_64_0_1_36 (by first | decide | omega) (by first | decide | omega) (by decide)
      generalize e235 : x_up h205 64 (6 * u2 + u217) v231 = h233 at j234 f236 f237 ⊢
      refine x_iinc (np := 61) (i := 3) (j := 2147483649) (v := (1 + v202)) (lo' := [x_r 63, iv_c a1, iv_c a2, iv_c (1 + v202), iv_c (6 * u2 + v202)]) (by decide +kernel) (by decide) (by decide) rfl (by first | decide | omega) (by first | decide | omega) (by first | decide | omega) rfl ?_
      refine x_goto (np := 64) (x := 14) (by decide +kernel) ?_
      exact i210 (1 + v202) (iv_c (6 * u2 + v202)) h233 (by first | decide | omega) (by first | decide | omega) j234 f237
  exact p208 _ 2147483648 147573952589676412928 h9 (Nat.lt_succ_self _) (by first | decide | omega) j10 (Fr.refl _ _)
set_option maxHeartbeats 0 in
/-- LentNames$Search.tryLoan(IIIII)V -/
theorem c277_63_c4 {sc : Nat × Nat} {d a2 a3 a4 a5 : Nat} {h : xh} (hJ : J h) (ba2 : 2147483648 ≤ a2 ∧ a2 ≤ 2147483653) (ba3 : 2147483648 ≤ a3 ∧ a3 ≤ 2147483653) (ba4 : 2147483648 ≤ a4 ∧ a4 ≤ 2147483659) (ba5 : 2147483648 ≤ a5 ∧ a5 ≤ 2147483659) : X sc 277 (d + 4) (xV fun h' => J h' ∧ Fr 32769 h h') 0 0 0 [x_r 63, iv_c 2147483652, iv_c a2, iv_c a3, iv_c a4, iv_c a5, 147573952589676412928] [] h := by
  have la2 : a2 < 4294967296 := by first | decide | omega
  have la3 : a3 < 4294967296 := by first | decide | omega
  have la4 : a4 < 4294967296 := by first | decide | omega
  have la5 : a5 < 4294967296 := by first | decide | omega
  have hF := Fr.refl 32769 h
  refine x_const (np := 1) (x := 9223372043297226753) (a := 2147483649) (by decide +kernel) (by decide) (by decide) ?_
  refine x_iload (np := 3) (x := 5) (by decide +kernel) rfl la5 ?_
  refine x_const (np := 4) (x := 9223372043297226753) (a := 2147483649) (by decide +kernel) (by decide) (by decide) ?_
  refine x_iadd (np := 5) (x := 0) (v := (1 + a5)) (by decide +kernel) la5 (by decide) (by first | decide | omega) (by first | decide | omega) ?_
  refine x_any (np := 6) (k9 := 3) (by decide +kernel) (by decide) (by decide) (by first | decide | omega) (fun v1 l2 => ?_)
  refine x_const (np := 7) (x := 9223372043297226753) (a := 2147483649) (by decide +kernel) (by decide) (by decide) ?_
  refine x_iload (np := 9) (x := 4) (by decide +kernel) rfl la4 ?_
  refine x_any (np := 10) (k9 := 3) (by decide +kernel) (by decide) (by decide) la4 (fun v3 l4 => ?_)
  refine x_subA (by rw [tb_b277]; decide +kernel) l2 l4 (fun v5 l6 => ?_)
  refine x_istore (np := 13) (x := 6) (lo' := [x_r 63, iv_c 2147483652, iv_c a2, iv_c a3, iv_c a4, iv_c a5, iv_c v5]) (by decide +kernel) l6 (Nat.le_of_ble_eq_true rfl) rfl ?_
  refine x_aload (np := 14) (x := 0) (by decide +kernel) rfl (x_nc_le (by decide)) ?_
  have q7 : h 63 3 = 67 := by have z := jB (e := 3) 0 hJ rg_63_3_0_1 (by decide) (by decide); omega
  refine x_getR (np := 17) (x := 771) (f := 3) (q := 67) (by decide +kernel) (by decide) (by decide +kernel) q7 ?_
  refine x_iload (np := 18) (x := 1) (by decide +kernel) rfl (by decide) ?_
  refine x_const (np := 21) (x := 9223414988675229456) (a := 2147493648) (by decide +kernel) (by decide) (by decide) ?_
  refine x_iload (np := 22) (x := 2) (by decide +kernel) rfl la2 ?_
  obtain ⟨u8, q9⟩ : ∃ z, a2 = 2147483648 + z := ⟨a2 - 2147483648, by first | decide | omega⟩
  refine x_imul (np := 23) (x := 0) (i := 10000) (j := u8) (v := (2147483648 + 10000 * u8)) (by decide +kernel) (by first | decide | omega) (by first | decide | omega) (by first | decide | omega) (by first | decide | omega) (by decide) la2 ?_
  refine x_const (np := 26) (x := 9223376333969556456) (a := 2147484648) (by decide +kernel) (by decide) (by decide) ?_
  refine x_iload (np := 27) (x := 3) (by decide +kernel) rfl la3 ?_
  obtain ⟨u11, q12⟩ : ∃ z, a3 = 2147483648 + z := ⟨a3 - 2147483648, by first | decide | omega⟩
  refine x_imul (np := 28) (x := 0) (i := 1000) (j := u11) (v := (2147483648 + 1000 * u11)) (by decide +kernel) (by first | decide | omega) (by first | decide | omega) (by first | decide | omega) (by first | decide | omega) (by decide) la3 ?_
  refine x_iadd (np := 29) (x := 0) (v := (2147483648 + 10000 * u8 + 1000 * u11)) (by decide +kernel) (by first | decide | omega) (by first | decide | omega) (by first | decide | omega) (by first | decide | omega) ?_
  refine x_const (np := 31) (x := 9223372124901605396) (a := 2147483668) (by decide +kernel) (by decide) (by decide) ?_
  refine x_iload (np := 33) (x := 4) (by decide +kernel) rfl la4 ?_
  obtain ⟨u14, q15⟩ : ∃ z, a4 = 2147483648 + z := ⟨a4 - 2147483648, by first | decide | omega⟩
  refine x_imul (np := 34) (x := 0) (i := 20) (j := u14) (v := (2147483648 + 20 * u14)) (by decide +kernel) (by first | decide | omega) (by first | decide | omega) (by first | decide | omega) (by first | decide | omega) (by decide) la4 ?_
  refine x_iadd (np := 35) (x := 0) (v := (2147483648 + 10000 * u8 + 1000 * u11 + 20 * u14)) (by decide +kernel) (by first | decide | omega) (by first | decide | omega) (by first | decide | omega) (by first | decide | omega) ?_
  refine x_iload (np := 37) (x := 5) (by decide +kernel) rfl la5 ?_
  refine x_iadd (np := 38) (x := 0) (v := (10000 * u8 + 1000 * u11 + 20 * u14 + a5)) (by decide +kernel) (by first | decide | omega) la5 (by first | decide | omega) (by first | decide | omega) ?_
  refine x_ast (np := 39) (x := 0) (kd := 1) (n := 5) (i := 4) (by decide +kernel) (Or.inl rfl) (by decide +kernel) (by first | decide | omega) (by first | decide | omega) (by decide) (by first | decide | omega) (fun z => absurd z (by decide)) ?_
  have j18 := jU (e := 4) (v := (10000 * u8 + 1000 * u11 + 20 * u14 + a5)) 4 hJ rg_67_0_1_5 (by first | decide | omega) (by first | decide | omega) (by first | decide | omega)
  have f20 := jF (e := 4) (v := (10000 * u8 + 1000 * u11 + 20 * u14 + a5)) 4 hF rg_67_0_1_5 (by first | decide | omega) (by first | decide | omega) (by decide)
  generalize e19 : x_up h 67 4 (10000 * u8 + 1000 * u11 + 20 * u14 + a5) = h17 at j18 f20 ⊢
  refine x_aload (np := 40) (x := 0) (by decide +kernel) rfl (x_nc_le (by decide)) ?_
  refine x_iload (np := 41) (x := 2) (by decide +kernel) rfl la2 ?_
  refine x_iload (np := 42) (x := 3) (by decide +kernel) rfl la3 ?_
  refine x_iload (np := 44) (x := 6) (by decide +kernel) rfl l6 ?_
  refine x_cV (t := 8) (mj := 280) (n := 4) (rc := 13) (ml := 5) (nr := 0) (np := 47) (as := [x_r 63, iv_c a2, iv_c a3, iv_c v5]) (rest := []) (lo1 := [x_r 63, iv_c a2, iv_c a3, iv_c v5, 147573952589676412928]) (by decide +kernel) (by decide) (by decide +kernel) (x_rb_of (by decide +kernel)) rfl rfl (x_wr (by decide) (x_wi la2 (x_wi la3 (x_wi l6 x_wn)))) x_wn (by decide) rfl (c280_63 j18  (by first | decide | omega) (by first | decide | omega) (by first | decide | omega)) (fun h24 q23 => ?_)
  obtain ⟨j25, f26⟩ := q23
  have f29 := Fr.trans f20 f26 (by decide)
  refine x_aload (np := 48) (x := 0) (by decide +kernel) rfl (x_nc_le (by decide)) ?_
  refine x_iload (np := 49) (x := 1) (by decide +kernel) rfl (by decide) ?_
  refine x_const (np := 50) (x := 9223372043297226753) (a := 2147483649) (by decide +kernel) (by decide) (by decide) ?_
  refine x_iadd (np := 51) (x := 0) (v := 2147483653) (by decide +kernel) (by decide) (by decide) (by first | decide | omega) (by first | decide | omega) ?_
  refine x_cV (t := 8) (mj := 274) (n := 2) (rc := 13) (ml := 2) (nr := 0) (np := 54) (as := [x_r 63, iv_c 2147483653]) (rest := []) (lo1 := [x_r 63, iv_c 2147483653]) (by decide +kernel) (by decide) (by decide +kernel) (x_rb_of (by decide +kernel)) rfl rfl (x_wr (by decide) (x_wi (by decide) x_wn)) x_wn (by decide) rfl (c274_63_c5 j25  ) (fun h33 q32 => ?_)
  obtain ⟨j34, f35⟩ := q32
  have f38 := Fr.trans f29 f35 (by decide)
  refine x_aload (np := 55) (x := 0) (by decide +kernel) rfl (x_nc_le (by decide)) ?_
  refine x_iload (np := 56) (x := 2) (by decide +kernel) rfl la2 ?_
  refine x_iload (np := 58) (x := 6) (by decide +kernel) rfl l6 ?_
  refine x_cV (t := 8) (mj := 281) (n := 3) (rc := 13) (ml := 5) (nr := 0) (np := 61) (as := [x_r 63, iv_c a2, iv_c v5]) (rest := []) (lo1 := [x_r 63, iv_c a2, iv_c v5, 147573952589676412928, 147573952589676412928]) (by decide +kernel) (by decide) (by decide +kernel) (x_rb_of (by decide +kernel)) rfl rfl (x_wr (by decide) (x_wi la2 (x_wi l6 x_wn))) x_wn (by decide) rfl (c281_63 j34  (by first | decide | omega) (by first | decide | omega)) (fun h42 q41 => ?_)
  obtain ⟨j43, f44⟩ := q41
  have f47 := Fr.trans f38 f44 (by decide)
  refine x_retV (np := 62) (x := 0) (by decide +kernel) (by decide +kernel) ⟨rfl, ?_⟩
  exact ⟨j43, f47⟩
set_option maxHeartbeats 0 in
/-- LentNames$Search.tryLoans(IIIII)V -/
theorem c276_63_c4 {sc : Nat × Nat} {d a2 a3 a4 a5 : Nat} {h : xh} (hJ : J h) (ba2 : 2147483648 ≤ a2 ∧ a2 ≤ 2147483653) (ba3 : 2147483648 ≤ a3 ∧ a3 ≤ 2147483653) (ba4 : 0 ≤ a4 ∧ a4 ≤ 4294967295) (ba5 : 0 ≤ a5 ∧ a5 ≤ 4294967295) : X sc 276 (d + 5) (xV fun h' => J h' ∧ Fr 32769 h h') 0 0 0 [x_r 63, iv_c 2147483652, iv_c a2, iv_c a3, iv_c a4, iv_c a5, 147573952589676412928, 147573952589676412928, 147573952589676412928, 147573952589676412928] [] h := by
  have la2 : a2 < 4294967296 := by first | decide | omega
  have la3 : a3 < 4294967296 := by first | decide | omega
  have la4 : a4 < 4294967296 := by first | decide | omega
  have la5 : a5 < 4294967296 := by first | decide | omega
  have hF := Fr.refl 32769 h
  refine x_aload (np := 1) (x := 0) (by decide +kernel) rfl (x_nc_le (by decide)) ?_
  have q1 : h 63 5 = 45 := by have z := jB (e := 5) 0 hJ rg_63_5_0_1 (by decide) (by decide); omega
  refine x_getR (np := 4) (x := 773) (f := 5) (q := 45) (by decide +kernel) (by decide) (by decide +kernel) q1 ?_
  have q2 : h 45 0 = 46 := by have z := jB (e := 0) 0 hJ rg_45_0_0_1 (by decide) (by decide); omega
  refine x_getR (np := 7) (x := 64) (f := 0) (q := 46) (by decide +kernel) (by decide) (by decide +kernel) q2 ?_
  refine x_iload (np := 8) (x := 3) (by decide +kernel) rfl la3 ?_
  obtain ⟨u3, q4⟩ : ∃ z, a3 = 2147483648 + z := ⟨a3 - 2147483648, by first | decide | omega⟩
  refine x_aldC (np := 9) (x := 0) (n := 6) (i := u3) (q := (h 46 u3)) (by decide +kernel) (by decide +kernel) (by first | decide | omega) (by first | decide | omega) (by decide) rfl (fun l5 => ?_)
  refine x_aload (np := 10) (x := 0) (by decide +kernel) rfl (x_nc_le (by decide)) ?_
  have q6 : h 63 5 = 45 := by have z := jB (e := 5) 0 hJ rg_63_5_0_1 (by decide) (by decide); omega
  refine x_getR (np := 13) (x := 773) (f := 5) (q := 45) (by decide +kernel) (by decide) (by decide +kernel) q6 ?_
  have q7 : h 45 1 = 47 := by have z := jB (e := 1) 0 hJ rg_45_1_0_1 (by decide) (by decide); omega
  refine x_getR (np := 16) (x := 65) (f := 1) (q := 47) (by decide +kernel) (by decide) (by decide +kernel) q7 ?_
  refine x_iload (np := 17) (x := 2) (by decide +kernel) rfl la2 ?_
  refine x_iload (np := 18) (x := 3) (by decide +kernel) rfl la3 ?_
  refine x_nI (t := 7) (mj := 149) (n := 2) (rc := 0) (ml := 2) (nr := 2) (np := 21) (as := [iv_c a2, iv_c a3]) (rest := [x_r 47, iv_c (h 46 u3)]) (lo1 := [iv_c a2, iv_c a3]) (by decide +kernel) (by decide) (by decide +kernel) (Or.inl rfl) rfl rfl (x_wi la2 (x_wi la3 x_wn)) (x_wr (by decide) (x_wi l5 x_wn)) (by decide) rfl ?_
  refine x_iload (np := 1) (x := 0) (by decide +kernel) rfl la2 ?_
  refine x_const (np := 3) (x := 9223372064772063238) (a := 2147483654) (by decide +kernel) (by decide) (by decide) ?_
  obtain ⟨u8, q9⟩ : ∃ z, a2 = 2147483648 + z := ⟨a2 - 2147483648, by first | decide | omega⟩
  refine x_imul (np := 4) (x := 0) (i := u8) (j := 6) (v := (2147483648 + 6 * u8)) (by decide +kernel) (by first | decide | omega) (by first | decide | omega) (by first | decide | omega) (by first | decide | omega) la2 (by decide) ?_
  refine x_iload (np := 5) (x := 1) (by decide +kernel) rfl la3 ?_
  refine x_iadd (np := 6) (x := 0) (v := (6 * u8 + a3)) (by decide +kernel) (by first | decide | omega) la3 (by first | decide | omega) (by first | decide | omega) ?_
  refine x_retI (np := 7) (x := 0) (by decide +kernel) (by first | decide | omega) (Or.inl (by decide +kernel)) ⟨_, rfl, (by first | decide | omega), ?_⟩
  refine x_aldC (np := 22) (x := 0) (n := 36) (i := (6 * u8 + u3)) (q := ((h 47 (6 * u8 + u3)))) (by decide +kernel) (by decide +kernel) (by first | decide | omega) (by first | decide | omega) (by decide) rfl (fun l11 => ?_)
  refine x_const (np := 23) (x := 9223372034707292159) (a := 2147483647) (by decide +kernel) (by decide) (by decide) ?_
  refine x_any (np := 24) (k9 := 2) (by decide +kernel) (by decide) l11 (by decide) (fun v12 l13 => ?_)
  refine x_any (np := 25) (k9 := 0) (by decide +kernel) (by decide) l5 l13 (fun v14 l15 => ?_)
  refine x_aload (np := 26) (x := 0) (by decide +kernel) rfl (x_nc_le (by decide)) ?_
  have q16 : h 63 2 = 66 := by have z := jB (e := 2) 0 hJ rg_63_2_0_1 (by decide) (by decide); omega
  refine x_getR (np := 29) (x := 770) (f := 2) (q := 66) (by decide +kernel) (by decide) (by decide +kernel) q16 ?_
  refine x_iload (np := 30) (x := 2) (by decide +kernel) rfl la2 ?_
  refine x_aldC (np := 31) (x := 0) (n := 6) (i := u8) (q := (h 66 u8)) (by decide +kernel) (by decide +kernel) (by first | decide | omega) (by first | decide | omega) (by decide) rfl (fun l17 => ?_)
  refine x_const (np := 32) (x := 9223372034707292159) (a := 2147483647) (by decide +kernel) (by decide) (by decide) ?_
  refine x_any (np := 33) (k9 := 2) (by decide +kernel) (by decide) l17 (by decide) (fun v18 l19 => ?_)
  refine x_any (np := 34) (k9 := 0) (by decide +kernel) (by decide) l15 l19 (fun v20 l21 => ?_)
  refine x_istore (np := 36) (x := 6) (lo' := [x_r 63, iv_c 2147483652, iv_c a2, iv_c a3, iv_c a4, iv_c a5, iv_c v20, 147573952589676412928, 147573952589676412928, 147573952589676412928]) (by decide +kernel) l21 (Nat.le_of_ble_eq_true rfl) rfl ?_
  refine x_aload (np := 37) (x := 0) (by decide +kernel) rfl (x_nc_le (by decide)) ?_
  have q22 : h 63 1 = 65 := by have z := jB (e := 1) 0 hJ rg_63_1_0_1 (by decide) (by decide); omega
  refine x_getR (np := 40) (x := 769) (f := 1) (q := 65) (by decide +kernel) (by decide) (by decide +kernel) q22 ?_
  refine x_iload (np := 41) (x := 2) (by decide +kernel) rfl la2 ?_
  refine x_aldC (np := 42) (x := 0) (n := 6) (i := u8) (q := (h 65 u8)) (by decide +kernel) (by decide +kernel) (by first | decide | omega) (by first | decide | omega) (by decide) rfl (fun l23 => ?_)
  refine x_iload (np := 44) (x := 6) (by decide +kernel) rfl l21 ?_
  refine x_any (np := 45) (k9 := 0) (by decide +kernel) (by decide) l23 l21 (fun v24 l25 => ?_)
  refine x_istore (np := 47) (x := 7) (lo' := [x_r 63, iv_c 2147483652, iv_c a2, iv_c a3, iv_c a4, iv_c a5, iv_c v20, iv_c v24, 147573952589676412928, 147573952589676412928]) (by decide +kernel) l25 (Nat.le_of_ble_eq_true rfl) rfl ?_
  refine x_const (np := 48) (x := 9223372039002259456) (a := 2147483648) (by decide +kernel) (by decide) (by decide) ?_
  refine x_istore (np := 50) (x := 8) (lo' := [x_r 63, iv_c 2147483652, iv_c a2, iv_c a3, iv_c a4, iv_c a5, iv_c v20, iv_c v24, iv_c 2147483648, 147573952589676412928]) (by decide +kernel) (by decide) (Nat.le_of_ble_eq_true rfl) rfl ?_
  have p3726 : ∀ (n : Nat) (v3720 : Nat) (w3722 : Nat) (h3723 : xh), 4294967296 - v3720 < n → (2147483648 ≤ v3720 ∧ v3720 ≤ 2147483660) → J h3723 → Fr 32769 h h3723 → X sc 276 (d + 5) (xV fun h' => J h' ∧ Fr 32769 h h') 0 0 50 [x_r 63, iv_c 2147483652, iv_c a2, iv_c a3, iv_c a4, iv_c a5, iv_c v20, iv_c v24, iv_c v3720, w3722] [] h3723 := by
    intro n
    induction n with
    | zero => intro v3720 w3722 h3723 q3727; exact absurd q3727 (Nat.not_lt_zero _)
    | succ n i3728 =>
      intro v3720 w3722 h3723 q3727 b3721 j3725 f3724
      have f3729 := Fr.trans hF f3724 (by decide)
      refine x_iload (np := 52) (x := 8) (by decide +kernel) rfl (by first | decide | omega) ?_
      refine x_iload (np := 54) (x := 5) (by decide +kernel) rfl la5 ?_
      refine x_icmp (k := 4) (tg := 145) (np := 57) (by decide +kernel) (by decide) (by first | decide | omega) la5 (fun q3730 => ?_) (fun q3731 => ?_)
      · have q3730 : a5 < v3720 := q3730
        refine x_retV (np := 146) (x := 0) (by decide +kernel) (by decide +kernel) ⟨rfl, ?_⟩
        exact ⟨j3725, f3729⟩
      have q3731 : ¬ (a5 < v3720) := q3731
      refine x_iload (np := 59) (x := 8) (by decide +kernel) rfl (by first | decide | omega) ?_
      refine x_const (np := 61) (x := 9223372090541867020) (a := 2147483660) (by decide +kernel) (by decide) (by decide) ?_
      refine x_icmp (k := 3) (tg := 145) (np := 64) (by decide +kernel) (by decide) (by first | decide | omega) (by decide) (fun q3732 => ?_) (fun q3733 => ?_)
      · have q3732 : 2147483660 ≤ v3720 := q3732
        refine x_retV (np := 146) (x := 0) (by decide +kernel) (by decide +kernel) ⟨rfl, ?_⟩
        exact ⟨j3725, f3729⟩
      have q3733 : ¬ (2147483660 ≤ v3720) := q3733
      refine x_iload (np := 66) (x := 7) (by decide +kernel) rfl l25 ?_
      refine x_iload (np := 68) (x := 8) (by decide +kernel) rfl (by first | decide | omega) ?_
      refine x_cP (t := 7) (mj := 148) (n := 2) (rc := 0) (ml := 2) (nr := 0) (np := 71) (as := [iv_c v24, iv_c v3720]) (rest := []) (lo1 := [iv_c v24, iv_c v3720]) (by decide +kernel) (by decide) (by decide +kernel) (Or.inl rfl) rfl rfl (x_wi l25 (x_wi (by first | decide | omega) x_wn)) x_wn (by decide) rfl (c148 j3725 (by first | decide | omega) (by first | decide | omega)) (fun v3734 l3735 q3736 => ?_)
      refine x_ifz (k := 1) (tg := 77) (np := 74) (by decide +kernel) (by decide) l3735 (fun q3737 => ?_) (fun q3738 => ?_)
      · have q3737 : v3734 ≠ 2147483648 := q3737
        refine x_iload (np := 79) (x := 8) (by decide +kernel) rfl (by first | decide | omega) ?_
        refine x_istore (np := 81) (x := 9) (lo' := [x_r 63, iv_c 2147483652, iv_c a2, iv_c a3, iv_c a4, iv_c a5, iv_c v20, iv_c v24, iv_c v3720, iv_c v3720]) (by decide +kernel) (by first | decide | omega) (Nat.le_of_ble_eq_true rfl) rfl ?_
        have p3831 : ∀ (n : Nat) (v3826 : Nat) (h3828 : xh), 4294967296 - v3826 < n → (2147483648 ≤ v3826 ∧ v3826 ≤ 2147483660) → J h3828 → Fr 32769 h3723 h3828 → X sc 276 (d + 5) (xV fun h' => J h' ∧ Fr 32769 h h') 0 0 81 [x_r 63, iv_c 2147483652, iv_c a2, iv_c a3, iv_c a4, iv_c a5, iv_c v20, iv_c v24, iv_c v3720, iv_c v3826] [] h3828 := by
          intro n
          induction n with
          | zero => intro v3826 h3828 q3832; exact absurd q3832 (Nat.not_lt_zero _)
          | succ n i3833 =>
            intro v3826 h3828 q3832 b3827 j3830 f3829
            have f3834 := Fr.trans f3729 f3829 (by decide)
            have f3835 := Fr.trans f3724 f3829 (by decide)
            refine x_iload (np := 83) (x := 9) (by decide +kernel) rfl (by first | decide | omega) ?_
            refine x_const (np := 85) (x := 9223372090541867020) (a := 2147483660) (by decide +kernel) (by decide) (by decide) ?_
            refine x_icmp (k := 3) (tg := 139) (np := 88) (by decide +kernel) (by decide) (by first | decide | omega) (by decide) (fun q3836 => ?_) (fun q3837 => ?_)
            · have q3836 : 2147483660 ≤ v3826 := q3836
              refine x_iinc (np := 142) (i := 8) (j := 2147483649) (v := (1 + v3720)) (lo' := [x_r 63, iv_c 2147483652, iv_c a2, iv_c a3, iv_c a4, iv_c a5, iv_c v20, iv_c v24, iv_c (1 + v3720), iv_c v3826]) (by decide +kernel) (by decide) (by decide) rfl (by first | decide | omega) (by first | decide | omega) (by first | decide | omega) rfl ?_
              refine x_goto (np := 145) (x := 50) (by decide +kernel) ?_
              exact i3728 (1 + v3720) (iv_c v3826) h3828 (by first | decide | omega) (by first | decide | omega) j3830 f3835
            have q3837 : ¬ (2147483660 ≤ v3826) := q3837
            refine x_iload (np := 90) (x := 6) (by decide +kernel) rfl l21 ?_
            refine x_iload (np := 92) (x := 9) (by decide +kernel) rfl (by first | decide | omega) ?_
            refine x_cP (t := 7) (mj := 148) (n := 2) (rc := 0) (ml := 2) (nr := 0) (np := 95) (as := [iv_c v20, iv_c v3826]) (rest := []) (lo1 := [iv_c v20, iv_c v3826]) (by decide +kernel) (by decide) (by decide +kernel) (Or.inl rfl) rfl rfl (x_wi l21 (x_wi (by first | decide | omega) x_wn)) x_wn (by decide) rfl (c148 j3830 (by first | decide | omega) (by first | decide | omega)) (fun v3838 l3839 q3840 => ?_)
            refine x_ifz (k := 0) (tg := 139) (np := 98) (by decide +kernel) (by decide) l3839 (fun q3841 => ?_) (fun q3842 => ?_)
            · have q3841 : v3838 = 2147483648 := q3841
              refine x_iinc (np := 142) (i := 8) (j := 2147483649) (v := (1 + v3720)) (lo' := [x_r 63, iv_c 2147483652, iv_c a2, iv_c a3, iv_c a4, iv_c a5, iv_c v20, iv_c v24, iv_c (1 + v3720), iv_c v3826]) (by decide +kernel) (by decide) (by decide) rfl (by first | decide | omega) (by first | decide | omega) (by first | decide | omega) rfl ?_
              refine x_goto (np := 145) (x := 50) (by decide +kernel) ?_
              exact i3728 (1 + v3720) (iv_c v3826) h3828 (by first | decide | omega) (by first | decide | omega) j3830 f3835
            have q3842 : ¬ (v3838 = 2147483648) := q3842
            refine x_aload (np := 99) (x := 0) (by decide +kernel) rfl (x_nc_le (by decide)) ?_
            refine x_nI (t := 8) (mj := 278) (n := 1) (rc := 13) (ml := 1) (nr := 0) (np := 102) (as := [x_r 63]) (rest := []) (lo1 := [x_r 63]) (by decide +kernel) (by decide) (by decide +kernel) (x_rb_of (by decide +kernel)) rfl rfl (x_wr (by decide) x_wn) x_wn (by decide) rfl ?_
            refine x_aload (np := 1) (x := 0) (by decide +kernel) rfl (x_nc_le (by decide)) ?_
            have b3843 := jB (e := 9) 0 j3830 rg_63_9_0_1 (by first | decide | omega) (by first | decide | omega)
            refine x_getC (np := 4) (x := 777) (f := 9) (q := (h3828 63 9)) (by decide +kernel) (by decide) (by decide +kernel) rfl (fun l3844 => ?_)
            refine x_ifz (k := 1) (tg := 21) (np := 7) (by decide +kernel) (by decide) l3844 (fun q3845 => ?_) (fun q3846 => ?_)
            · have q3845 : (h3828 63 9) ≠ 2147483648 := q3845
              refine x_const (np := 22) (x := 9223372043297226753) (a := 2147483649) (by decide +kernel) (by decide) (by decide) ?_
              refine x_goto (np := 25) (x := 26) (by decide +kernel) ?_
              refine x_retI (np := 27) (x := 0) (by decide +kernel) (by decide) (Or.inr ⟨by decide +kernel, by first | decide | omega, by first | decide | omega⟩) ⟨_, rfl, (by decide), ?_⟩
              refine x_ifz (k := 1) (tg := 139) (np := 105) (by decide +kernel) (by decide) (by decide) (fun q3847 => ?_) (fun q3848 => ?_)
              · have q3847 : 2147483649 ≠ 2147483648 := q3847
                refine x_iinc (np := 142) (i := 8) (j := 2147483649) (v := (1 + v3720)) (lo' := [x_r 63, iv_c 2147483652, iv_c a2, iv_c a3, iv_c a4, iv_c a5, iv_c v20, iv_c v24, iv_c (1 + v3720), iv_c v3826]) (by decide +kernel) (by decide) (by decide) rfl (by first | decide | omega) (by first | decide | omega) (by first | decide | omega) rfl ?_
                refine x_goto (np := 145) (x := 50) (by decide +kernel) ?_
                exact i3728 (1 + v3720) (iv_c v3826) h3828 (by first | decide | omega) (by first | decide | omega) j3830 f3835
              have q3848 : ¬ (2147483649 ≠ 2147483648) := q3848
              exfalso; omega
            have q3846 : ¬ ((h3828 63 9) ≠ 2147483648) := q3846
            refine x_aload (np := 8) (x := 0) (by decide +kernel) rfl (x_nc_le (by decide)) ?_
            refine x_getC (np := 11) (x := 776) (f := 8) (q := (h3828 63 8)) (by decide +kernel) (by decide) (by decide +kernel) rfl (fun l3849 => ?_)
            refine x_ifz (k := 5) (tg := 25) (np := 14) (by decide +kernel) (by decide) l3849 (fun q3850 => ?_) (fun q3851 => ?_)
            · have q3850 : (h3828 63 8) ≤ 2147483648 := q3850
              refine x_const (np := 26) (x := 9223372039002259456) (a := 2147483648) (by decide +kernel) (by decide) (by decide) ?_
              refine x_retI (np := 27) (x := 0) (by decide +kernel) (by decide) (Or.inr ⟨by decide +kernel, by first | decide | omega, by first | decide | omega⟩) ⟨_, rfl, (by decide), ?_⟩
              refine x_ifz (k := 1) (tg := 139) (np := 105) (by decide +kernel) (by decide) (by decide) (fun q3852 => ?_) (fun q3853 => ?_)
              · have q3852 : 2147483648 ≠ 2147483648 := q3852
                exfalso; omega
              have q3853 : ¬ (2147483648 ≠ 2147483648) := q3853
              refine x_iload (np := 107) (x := 9) (by decide +kernel) rfl (by first | decide | omega) ?_
              refine x_iload (np := 109) (x := 4) (by decide +kernel) rfl la4 ?_
              refine x_icmp (k := 2) (tg := 133) (np := 112) (by decide +kernel) (by decide) (by first | decide | omega) la4 (fun q3854 => ?_) (fun q3855 => ?_)
              · have q3854 : v3826 < a4 := q3854
                refine x_iinc (np := 136) (i := 9) (j := 2147483649) (v := (1 + v3826)) (lo' := [x_r 63, iv_c 2147483652, iv_c a2, iv_c a3, iv_c a4, iv_c a5, iv_c v20, iv_c v24, iv_c v3720, iv_c (1 + v3826)]) (by decide +kernel) (by decide) (by decide) rfl (by first | decide | omega) (by first | decide | omega) (by first | decide | omega) rfl ?_
                refine x_goto (np := 139) (x := 81) (by decide +kernel) ?_
                exact i3833 (1 + v3826) h3828 (by first | decide | omega) (by first | decide | omega) j3830 f3829
              have q3855 : ¬ (v3826 < a4) := q3855
              refine x_iload (np := 114) (x := 7) (by decide +kernel) rfl l25 ?_
              refine x_iload (np := 116) (x := 9) (by decide +kernel) rfl (by first | decide | omega) ?_
              refine x_cP (t := 7) (mj := 148) (n := 2) (rc := 0) (ml := 2) (nr := 0) (np := 119) (as := [iv_c v24, iv_c v3826]) (rest := []) (lo1 := [iv_c v24, iv_c v3826]) (by decide +kernel) (by decide) (by decide +kernel) (Or.inl rfl) rfl rfl (x_wi l25 (x_wi (by first | decide | omega) x_wn)) x_wn (by decide) rfl (c148 j3830 (by first | decide | omega) (by first | decide | omega)) (fun v3856 l3857 q3858 => ?_)
              refine x_ifz (k := 0) (tg := 133) (np := 122) (by decide +kernel) (by decide) l3857 (fun q3859 => ?_) (fun q3860 => ?_)
              · have q3859 : v3856 = 2147483648 := q3859
                refine x_iinc (np := 136) (i := 9) (j := 2147483649) (v := (1 + v3826)) (lo' := [x_r 63, iv_c 2147483652, iv_c a2, iv_c a3, iv_c a4, iv_c a5, iv_c v20, iv_c v24, iv_c v3720, iv_c (1 + v3826)]) (by decide +kernel) (by decide) (by decide) rfl (by first | decide | omega) (by first | decide | omega) (by first | decide | omega) rfl ?_
                refine x_goto (np := 139) (x := 81) (by decide +kernel) ?_
                exact i3833 (1 + v3826) h3828 (by first | decide | omega) (by first | decide | omega) j3830 f3829
              have q3860 : ¬ (v3856 = 2147483648) := q3860
              refine x_aload (np := 123) (x := 0) (by decide +kernel) rfl (x_nc_le (by decide)) ?_
              refine x_iload (np := 124) (x := 1) (by decide +kernel) rfl (by decide) ?_
              refine x_iload (np := 125) (x := 2) (by decide +kernel) rfl la2 ?_
              refine x_iload (np := 126) (x := 3) (by decide +kernel) rfl la3 ?_
              refine x_iload (np := 128) (x := 8) (by decide +kernel) rfl (by first | decide | omega) ?_
              refine x_iload (np := 130) (x := 9) (by decide +kernel) rfl (by first | decide | omega) ?_
              refine x_cV (t := 8) (mj := 277) (n := 6) (rc := 13) (ml := 7) (nr := 0) (np := 133) (as := [x_r 63, iv_c 2147483652, iv_c a2, iv_c a3, iv_c v3720, iv_c v3826]) (rest := []) (lo1 := [x_r 63, iv_c 2147483652, iv_c a2, iv_c a3, iv_c v3720, iv_c v3826, 147573952589676412928]) (by decide +kernel) (by decide) (by decide +kernel) (x_rb_of (by decide +kernel)) rfl rfl (x_wr (by decide) (x_wi (by decide) (x_wi la2 (x_wi la3 (x_wi (by first | decide | omega) (x_wi (by first | decide | omega) x_wn)))))) x_wn (by decide) rfl (c277_63_c4 j3830   (by first | decide | omega) (by first | decide | omega) (by first | decide | omega) (by first | decide | omega)) (fun h3864 q3863 => ?_)
              obtain ⟨j3865, f3866⟩ := q3863
              have f3869 := Fr.trans f3834 f3866 (by decide)
              have f3870 := Fr.trans f3835 f3866 (by decide)
              have f3871 := Fr.trans f3829 f3866 (by decide)
              refine x_iinc (np := 136) (i := 9) (j := 2147483649) (v := (1 + v3826)) (lo' := [x_r 63, iv_c 2147483652, iv_c a2, iv_c a3, iv_c a4, iv_c a5, iv_c v20, iv_c v24, iv_c v3720, iv_c (1 + v3826)]) (by decide +kernel) (by decide) (by decide) rfl (by first | decide | omega) (by first | decide | omega) (by first | decide | omega) rfl ?_
              refine x_goto (np := 139) (x := 81) (by decide +kernel) ?_
              exact i3833 (1 + v3826) h3864 (by first | decide | omega) (by first | decide | omega) j3865 f3871
            have q3851 : ¬ ((h3828 63 8) ≤ 2147483648) := q3851
            refine x_aload (np := 15) (x := 0) (by decide +kernel) rfl (x_nc_le (by decide)) ?_
            refine x_vI (P := fun r9 h9 => X sc 278 _ _ 0 0 18 [x_r 63] (iv_c r9 :: []) h9) (np := 18) (x := 5246977) (kk := 1) (cls := 4) (mj := 54) (ml := 1) (nr := 0) (rest := []) (lo1 := [x_r 63]) (by decide +kernel) (by decide) (by decide) (by decide) (by decide +kernel) (by decide +kernel) (by decide) (by decide +kernel) (by decide +kernel) x_wn (by decide) rfl ?_ (fun _ _ _ z => z)
            refine x_const (np := 1) (x := 9223372043297226753) (a := 2147483649) (by decide +kernel) (by decide) (by decide) ?_
            refine x_retI (np := 2) (x := 0) (by decide +kernel) (by decide) (Or.inr ⟨by decide +kernel, by first | decide | omega, by first | decide | omega⟩) ⟨_, rfl, (by decide), ?_⟩
            refine x_ifz (k := 0) (tg := 25) (np := 21) (by decide +kernel) (by decide) (by decide) (fun q3872 => ?_) (fun q3873 => ?_)
            · have q3872 : 2147483649 = 2147483648 := q3872
              exfalso; omega
            have q3873 : ¬ (2147483649 = 2147483648) := q3873
            refine x_const (np := 22) (x := 9223372043297226753) (a := 2147483649) (by decide +kernel) (by decide) (by decide) ?_
            refine x_goto (np := 25) (x := 26) (by decide +kernel) ?_
            refine x_retI (np := 27) (x := 0) (by decide +kernel) (by decide) (Or.inr ⟨by decide +kernel, by first | decide | omega, by first | decide | omega⟩) ⟨_, rfl, (by decide), ?_⟩
            refine x_ifz (k := 1) (tg := 139) (np := 105) (by decide +kernel) (by decide) (by decide) (fun q3874 => ?_) (fun q3875 => ?_)
            · have q3874 : 2147483649 ≠ 2147483648 := q3874
              refine x_iinc (np := 142) (i := 8) (j := 2147483649) (v := (1 + v3720)) (lo' := [x_r 63, iv_c 2147483652, iv_c a2, iv_c a3, iv_c a4, iv_c a5, iv_c v20, iv_c v24, iv_c (1 + v3720), iv_c v3826]) (by decide +kernel) (by decide) (by decide) rfl (by first | decide | omega) (by first | decide | omega) (by first | decide | omega) rfl ?_
              refine x_goto (np := 145) (x := 50) (by decide +kernel) ?_
              exact i3728 (1 + v3720) (iv_c v3826) h3828 (by first | decide | omega) (by first | decide | omega) j3830 f3835
            have q3875 : ¬ (2147483649 ≠ 2147483648) := q3875
            exfalso; omega
        exact p3831 _ v3720 h3723 (Nat.lt_succ_self _) (by first | decide | omega) j3725 (Fr.refl _ _)
      have q3738 : ¬ (v3734 ≠ 2147483648) := q3738
      refine x_goto (np := 77) (x := 139) (by decide +kernel) ?_
      refine x_iinc (np := 142) (i := 8) (j := 2147483649) (v := (1 + v3720)) (lo' := [x_r 63, iv_c 2147483652, iv_c a2, iv_c a3, iv_c a4, iv_c a5, iv_c v20, iv_c v24, iv_c (1 + v3720), w3722]) (by decide +kernel) (by decide) (by decide) rfl (by first | decide | omega) (by first | decide | omega) (by first | decide | omega) rfl ?_
      refine x_goto (np := 145) (x := 50) (by decide +kernel) ?_
      exact i3728 (1 + v3720) w3722 h3723 (by first | decide | omega) (by first | decide | omega) j3725 f3724
  exact p3726 _ 2147483648 147573952589676412928 h (Nat.lt_succ_self _) (by first | decide | omega) hJ (Fr.refl _ _)
set_option maxHeartbeats 0 in
/-- LentNames$Search.mend(I)V -/
theorem c275_63_c4 {sc : Nat × Nat} {d  : Nat} {h : xh} (hJ : J h) : X sc 275 (d + 6) (xV fun h' => J h' ∧ Fr 32769 h h') 0 0 0 [x_r 63, iv_c 2147483652, 147573952589676412928, 147573952589676412928, 147573952589676412928, 147573952589676412928, 147573952589676412928, 147573952589676412928] [] h := by
  have hF := Fr.refl 32769 h
  refine x_aload (np := 1) (x := 0) (by decide +kernel) rfl (x_nc_le (by decide)) ?_
  refine x_getC (np := 4) (x := 778) (f := 10) (q := (h 63 10)) (by decide +kernel) (by decide) (by decide +kernel) rfl (fun l1 => ?_)
  refine x_istore (np := 5) (x := 2) (lo' := [x_r 63, iv_c 2147483652, iv_c (h 63 10), 147573952589676412928, 147573952589676412928, 147573952589676412928, 147573952589676412928, 147573952589676412928]) (by decide +kernel) l1 (Nat.le_of_ble_eq_true rfl) rfl ?_
  refine x_aload (np := 6) (x := 0) (by decide +kernel) rfl (x_nc_le (by decide)) ?_
  refine x_getC (np := 9) (x := 779) (f := 11) (q := (h 63 11)) (by decide +kernel) (by decide) (by decide +kernel) rfl (fun l2 => ?_)
  refine x_istore (np := 10) (x := 3) (lo' := [x_r 63, iv_c 2147483652, iv_c (h 63 10), iv_c (h 63 11), 147573952589676412928, 147573952589676412928, 147573952589676412928, 147573952589676412928]) (by decide +kernel) l2 (Nat.le_of_ble_eq_true rfl) rfl ?_
  refine x_aload (np := 11) (x := 0) (by decide +kernel) rfl (x_nc_le (by decide)) ?_
  refine x_getC (np := 14) (x := 780) (f := 12) (q := (h 63 12)) (by decide +kernel) (by decide) (by decide +kernel) rfl (fun l3 => ?_)
  refine x_istore (np := 16) (x := 4) (lo' := [x_r 63, iv_c 2147483652, iv_c (h 63 10), iv_c (h 63 11), iv_c (h 63 12), 147573952589676412928, 147573952589676412928, 147573952589676412928]) (by decide +kernel) l3 (Nat.le_of_ble_eq_true rfl) rfl ?_
  refine x_aload (np := 17) (x := 0) (by decide +kernel) rfl (x_nc_le (by decide)) ?_
  refine x_getC (np := 20) (x := 781) (f := 13) (q := (h 63 13)) (by decide +kernel) (by decide) (by decide +kernel) rfl (fun l4 => ?_)
  refine x_istore (np := 22) (x := 5) (lo' := [x_r 63, iv_c 2147483652, iv_c (h 63 10), iv_c (h 63 11), iv_c (h 63 12), iv_c (h 63 13), 147573952589676412928, 147573952589676412928]) (by decide +kernel) l4 (Nat.le_of_ble_eq_true rfl) rfl ?_
  refine x_const (np := 23) (x := 9223372039002259456) (a := 2147483648) (by decide +kernel) (by decide) (by decide) ?_
  refine x_istore (np := 25) (x := 6) (lo' := [x_r 63, iv_c 2147483652, iv_c (h 63 10), iv_c (h 63 11), iv_c (h 63 12), iv_c (h 63 13), iv_c 2147483648, 147573952589676412928]) (by decide +kernel) (by decide) (Nat.le_of_ble_eq_true rfl) rfl ?_
  have p1452 : ∀ (n : Nat) (v1446 : Nat) (w1448 : Nat) (h1449 : xh), 4294967296 - v1446 < n → (2147483648 ≤ v1446 ∧ v1446 ≤ 2147483654) → J h1449 → Fr 32769 h h1449 → X sc 275 (d + 6) (xV fun h' => J h' ∧ Fr 32769 h h') 0 0 25 [x_r 63, iv_c 2147483652, iv_c (h 63 10), iv_c (h 63 11), iv_c (h 63 12), iv_c (h 63 13), iv_c v1446, w1448] [] h1449 := by
    intro n
    induction n with
    | zero => intro v1446 w1448 h1449 q1453; exact absurd q1453 (Nat.not_lt_zero _)
    | succ n i1454 =>
      intro v1446 w1448 h1449 q1453 b1447 j1451 f1450
      have f1455 := Fr.trans hF f1450 (by decide)
      refine x_iload (np := 27) (x := 6) (by decide +kernel) rfl (by first | decide | omega) ?_
      refine x_aload (np := 28) (x := 0) (by decide +kernel) rfl (x_nc_le (by decide)) ?_
      have t1456 : tw (h1449 63 6) := j1451.2.2.2.2.2.1
      refine x_getR (np := 31) (x := 774) (f := 6) (q := (h1449 63 6)) (by decide +kernel) (by decide) (by decide +kernel) rfl ?_
      have q1457 : h1449 (h1449 63 6) 7 = h (h1449 63 6) 7 := jK 0 f1450 (rg_T0_7_0_1 t1456) (by first | decide | omega) (by first | decide | omega) (by decide)
      have b1458 := jB (e := 7) 0 hJ (rg_T0_7_0_1 t1456) (by first | decide | omega) (by first | decide | omega)
      refine x_getC (np := 34) (x := 519) (f := 7) (q := (h (h1449 63 6) 7)) (by decide +kernel) (by decide) (tg_0_519_7_0 t1456) q1457 (fun l1459 => ?_)
      refine x_icmp (k := 3) (tg := 95) (np := 37) (by decide +kernel) (by decide) (by first | decide | omega) l1459 (fun q1460 => ?_) (fun q1461 => ?_)
      · have q1460 : (h (h1449 63 6) 7) ≤ v1446 := q1460
        refine x_retV (np := 96) (x := 0) (by decide +kernel) (by decide +kernel) ⟨rfl, ?_⟩
        exact ⟨j1451, f1455⟩
      have q1461 : ¬ ((h (h1449 63 6) 7) ≤ v1446) := q1461
      refine x_const (np := 38) (x := 9223372039002259456) (a := 2147483648) (by decide +kernel) (by decide) (by decide) ?_
      refine x_istore (np := 40) (x := 7) (lo' := [x_r 63, iv_c 2147483652, iv_c (h 63 10), iv_c (h 63 11), iv_c (h 63 12), iv_c (h 63 13), iv_c v1446, iv_c 2147483648]) (by decide +kernel) (by decide) (Nat.le_of_ble_eq_true rfl) rfl ?_
      have p1659 : ∀ (n : Nat) (v1654 : Nat) (h1656 : xh), 4294967296 - v1654 < n → (2147483648 ≤ v1654 ∧ v1654 ≤ 2147483654) → J h1656 → Fr 32769 h1449 h1656 → X sc 275 (d + 6) (xV fun h' => J h' ∧ Fr 32769 h h') 0 0 40 [x_r 63, iv_c 2147483652, iv_c (h 63 10), iv_c (h 63 11), iv_c (h 63 12), iv_c (h 63 13), iv_c v1446, iv_c v1654] [] h1656 := by
        intro n
        induction n with
        | zero => intro v1654 h1656 q1660; exact absurd q1660 (Nat.not_lt_zero _)
        | succ n i1661 =>
          intro v1654 h1656 q1660 b1655 j1658 f1657
          have f1662 := Fr.trans f1455 f1657 (by decide)
          have f1663 := Fr.trans f1450 f1657 (by decide)
          refine x_iload (np := 42) (x := 7) (by decide +kernel) rfl (by first | decide | omega) ?_
          refine x_aload (np := 43) (x := 0) (by decide +kernel) rfl (x_nc_le (by decide)) ?_
          have t1664 : tw (h1656 63 6) := j1658.2.2.2.2.2.1
          refine x_getR (np := 46) (x := 774) (f := 6) (q := (h1656 63 6)) (by decide +kernel) (by decide) (by decide +kernel) rfl ?_
          have q1665 : h1656 (h1656 63 6) 7 = h1449 (h1656 63 6) 7 := jK 0 f1657 (rg_T0_7_0_1 t1664) (by first | decide | omega) (by first | decide | omega) (by decide)
          have q1666 : h1449 (h1656 63 6) 7 = h (h1656 63 6) 7 := jK 0 f1450 (rg_T0_7_0_1 t1664) (by first | decide | omega) (by first | decide | omega) (by decide)
          have b1667 := jB (e := 7) 0 hJ (rg_T0_7_0_1 t1664) (by first | decide | omega) (by first | decide | omega)
          refine x_getC (np := 49) (x := 519) (f := 7) (q := (h (h1656 63 6) 7)) (by decide +kernel) (by decide) (tg_0_519_7_0 t1664) (q1665.trans q1666) (fun l1668 => ?_)
          refine x_icmp (k := 3) (tg := 89) (np := 52) (by decide +kernel) (by decide) (by first | decide | omega) l1668 (fun q1669 => ?_) (fun q1670 => ?_)
          · have q1669 : (h (h1656 63 6) 7) ≤ v1654 := q1669
            refine x_iinc (np := 92) (i := 6) (j := 2147483649) (v := (1 + v1446)) (lo' := [x_r 63, iv_c 2147483652, iv_c (h 63 10), iv_c (h 63 11), iv_c (h 63 12), iv_c (h 63 13), iv_c (1 + v1446), iv_c v1654]) (by decide +kernel) (by decide) (by decide) rfl (by first | decide | omega) (by first | decide | omega) (by first | decide | omega) rfl ?_
            refine x_goto (np := 95) (x := 25) (by decide +kernel) ?_
            exact i1454 (1 + v1446) (iv_c v1654) h1656 (by first | decide | omega) (by first | decide | omega) j1658 f1663
          have q1670 : ¬ ((h (h1656 63 6) 7) ≤ v1654) := q1670
          refine x_iload (np := 53) (x := 2) (by decide +kernel) rfl l1 ?_
          refine x_iload (np := 55) (x := 6) (by decide +kernel) rfl (by first | decide | omega) ?_
          refine x_cP (t := 7) (mj := 148) (n := 2) (rc := 0) (ml := 2) (nr := 0) (np := 58) (as := [iv_c (h 63 10), iv_c v1446]) (rest := []) (lo1 := [iv_c (h 63 10), iv_c v1446]) (by decide +kernel) (by decide) (by decide +kernel) (Or.inl rfl) rfl rfl (x_wi l1 (x_wi (by first | decide | omega) x_wn)) x_wn (by decide) rfl (c148 j1658 (by first | decide | omega) (by first | decide | omega)) (fun v1671 l1672 q1673 => ?_)
          refine x_ifz (k := 0) (tg := 83) (np := 61) (by decide +kernel) (by decide) l1672 (fun q1674 => ?_) (fun q1675 => ?_)
          · have q1674 : v1671 = 2147483648 := q1674
            refine x_iinc (np := 86) (i := 7) (j := 2147483649) (v := (1 + v1654)) (lo' := [x_r 63, iv_c 2147483652, iv_c (h 63 10), iv_c (h 63 11), iv_c (h 63 12), iv_c (h 63 13), iv_c v1446, iv_c (1 + v1654)]) (by decide +kernel) (by decide) (by decide) rfl (by first | decide | omega) (by first | decide | omega) (by first | decide | omega) rfl ?_
            refine x_goto (np := 89) (x := 40) (by decide +kernel) ?_
            exact i1661 (1 + v1654) h1656 (by first | decide | omega) (by first | decide | omega) j1658 f1657
          have q1675 : ¬ (v1671 = 2147483648) := q1675
          refine x_iload (np := 62) (x := 3) (by decide +kernel) rfl l2 ?_
          refine x_iload (np := 64) (x := 7) (by decide +kernel) rfl (by first | decide | omega) ?_
          refine x_cP (t := 7) (mj := 148) (n := 2) (rc := 0) (ml := 2) (nr := 0) (np := 67) (as := [iv_c (h 63 11), iv_c v1654]) (rest := []) (lo1 := [iv_c (h 63 11), iv_c v1654]) (by decide +kernel) (by decide) (by decide +kernel) (Or.inl rfl) rfl rfl (x_wi l2 (x_wi (by first | decide | omega) x_wn)) x_wn (by decide) rfl (c148 j1658 (by first | decide | omega) (by first | decide | omega)) (fun v1676 l1677 q1678 => ?_)
          refine x_ifz (k := 0) (tg := 83) (np := 70) (by decide +kernel) (by decide) l1677 (fun q1679 => ?_) (fun q1680 => ?_)
          · have q1679 : v1676 = 2147483648 := q1679
            refine x_iinc (np := 86) (i := 7) (j := 2147483649) (v := (1 + v1654)) (lo' := [x_r 63, iv_c 2147483652, iv_c (h 63 10), iv_c (h 63 11), iv_c (h 63 12), iv_c (h 63 13), iv_c v1446, iv_c (1 + v1654)]) (by decide +kernel) (by decide) (by decide) rfl (by first | decide | omega) (by first | decide | omega) (by first | decide | omega) rfl ?_
            refine x_goto (np := 89) (x := 40) (by decide +kernel) ?_
            exact i1661 (1 + v1654) h1656 (by first | decide | omega) (by first | decide | omega) j1658 f1657
          have q1680 : ¬ (v1676 = 2147483648) := q1680
          refine x_aload (np := 71) (x := 0) (by decide +kernel) rfl (x_nc_le (by decide)) ?_
          refine x_iload (np := 72) (x := 1) (by decide +kernel) rfl (by decide) ?_
          refine x_iload (np := 74) (x := 6) (by decide +kernel) rfl (by first | decide | omega) ?_
          refine x_iload (np := 76) (x := 7) (by decide +kernel) rfl (by first | decide | omega) ?_
          refine x_iload (np := 78) (x := 4) (by decide +kernel) rfl l3 ?_
          refine x_iload (np := 80) (x := 5) (by decide +kernel) rfl l4 ?_
          refine x_cV (t := 8) (mj := 276) (n := 6) (rc := 13) (ml := 10) (nr := 0) (np := 83) (as := [x_r 63, iv_c 2147483652, iv_c v1446, iv_c v1654, iv_c (h 63 12), iv_c (h 63 13)]) (rest := []) (lo1 := [x_r 63, iv_c 2147483652, iv_c v1446, iv_c v1654, iv_c (h 63 12), iv_c (h 63 13), 147573952589676412928, 147573952589676412928, 147573952589676412928, 147573952589676412928]) (by decide +kernel) (by decide) (by decide +kernel) (x_rb_of (by decide +kernel)) rfl rfl (x_wr (by decide) (x_wi (by decide) (x_wi (by first | decide | omega) (x_wi (by first | decide | omega) (x_wi l3 (x_wi l4 x_wn)))))) x_wn (by decide) rfl (c276_63_c4 j1658   (by first | decide | omega) (by first | decide | omega) (by first | decide | omega) (by first | decide | omega)) (fun h1684 q1683 => ?_)
          obtain ⟨j1685, f1686⟩ := q1683
          have f1689 := Fr.trans f1662 f1686 (by decide)
          have f1690 := Fr.trans f1663 f1686 (by decide)
          have f1691 := Fr.trans f1657 f1686 (by decide)
          refine x_iinc (np := 86) (i := 7) (j := 2147483649) (v := (1 + v1654)) (lo' := [x_r 63, iv_c 2147483652, iv_c (h 63 10), iv_c (h 63 11), iv_c (h 63 12), iv_c (h 63 13), iv_c v1446, iv_c (1 + v1654)]) (by decide +kernel) (by decide) (by decide) rfl (by first | decide | omega) (by first | decide | omega) (by first | decide | omega) rfl ?_
          refine x_goto (np := 89) (x := 40) (by decide +kernel) ?_
          exact i1661 (1 + v1654) h1684 (by first | decide | omega) (by first | decide | omega) j1685 f1691
      exact p1659 _ 2147483648 h1449 (Nat.lt_succ_self _) (by first | decide | omega) j1451 (Fr.refl _ _)
  exact p1452 _ 2147483648 147573952589676412928 h (Nat.lt_succ_self _) (by first | decide | omega) hJ (Fr.refl _ _)
set_option maxHeartbeats 0 in
/-- LentNames$Search.keepSet(I)V -/
theorem c279_63_c4 {sc : Nat × Nat} {d  : Nat} {h : xh} (hJ : J h) : X sc 279 d (xV fun h' => J h' ∧ Fr 32769 h h') 0 0 0 [x_r 63, iv_c 2147483652, 147573952589676412928, 147573952589676412928] [] h := by
  have hF := Fr.refl 32769 h
  refine x_aload (np := 1) (x := 0) (by decide +kernel) rfl (x_nc_le (by decide)) ?_
  refine x_dup (np := 2) (x := 0) (by decide +kernel) (by have z := x_nc_le (k := 63) (by decide); unfold x_r; omega) ?_
  refine x_getC (np := 5) (x := 776) (f := 8) (q := (h 63 8)) (by decide +kernel) (by decide) (by decide +kernel) rfl (fun l1 => ?_)
  refine x_const (np := 6) (x := 9223372043297226753) (a := 2147483649) (by decide +kernel) (by decide) (by decide) ?_
  refine x_addA (by rw [tb_b279]; decide +kernel) l1 (by decide) (fun v2 l3 => ?_)
  refine x_putI (np := 10) (x := 776) (f := 8) (by decide +kernel) (by decide +kernel) l3 (Or.inl (by decide)) ?_
  have j5 := jU (e := 8) (v := v2) 0 hJ rg_63_8_0_1 (by first | decide | omega) (by first | decide | omega) (by first | decide | omega)
  have f7 := jF (e := 8) (v := v2) 0 hF rg_63_8_0_1 (by first | decide | omega) (by first | decide | omega) (by decide)
  generalize e6 : x_up h 63 8 v2 = h4 at j5 f7 ⊢
  refine x_aload (np := 11) (x := 0) (by decide +kernel) rfl (x_nc_le (by decide)) ?_
  have q8 : h4 63 8 = v2 := by rw [← e6]; exact x_up_at
  refine x_getC (np := 14) (x := 776) (f := 8) (q := v2) (by decide +kernel) (by decide) (by decide +kernel) q8 (fun l9 => ?_)
  refine x_const (np := 15) (x := 9223372043297226753) (a := 2147483649) (by decide +kernel) (by decide) (by decide) ?_
  refine x_icmp (k := 5) (tg := 19) (np := 18) (by decide +kernel) (by decide) l3 (by decide) (fun q10 => ?_) (fun q11 => ?_)
  · have q10 : v2 ≤ 2147483649 := q10
    refine x_aload (np := 20) (x := 0) (by decide +kernel) rfl (x_nc_le (by decide)) ?_
    refine x_iload (np := 21) (x := 1) (by decide +kernel) rfl (by decide) ?_
    refine x_putI (np := 24) (x := 783) (f := 15) (by decide +kernel) (by decide +kernel) (by decide) (Or.inl (by decide)) ?_
    have j13 := jU (e := 15) (v := 2147483652) 0 j5 rg_63_15_0_1 (by first | decide | omega) (by first | decide | omega) (by first | decide | omega)
    have f15 := jF (e := 15) (v := 2147483652) 0 f7 rg_63_15_0_1 (by first | decide | omega) (by first | decide | omega) (by decide)
    generalize e14 : x_up h4 63 15 2147483652 = h12 at j13 f15 ⊢
    refine x_const (np := 25) (x := 9223372039002259456) (a := 2147483648) (by decide +kernel) (by decide) (by decide) ?_
    refine x_istore (np := 26) (x := 2) (lo' := [x_r 63, iv_c 2147483652, iv_c 2147483648, 147573952589676412928]) (by decide +kernel) (by decide) (Nat.le_of_ble_eq_true rfl) rfl ?_
    have p622 : ∀ (n : Nat) (v616 : Nat) (w618 : Nat) (h619 : xh), 4294967296 - v616 < n → (2147483648 ≤ v616 ∧ v616 ≤ 2147483653) → J h619 → Fr 32768 h12 h619 → X sc 279 d (xV fun h' => J h' ∧ Fr 32769 h h') 0 0 26 [x_r 63, iv_c 2147483652, iv_c v616, w618] [] h619 := by
      intro n
      induction n with
      | zero => intro v616 w618 h619 q623; exact absurd q623 (Nat.not_lt_zero _)
      | succ n i624 =>
        intro v616 w618 h619 q623 b617 j621 f620
        have f625 := Fr.trans f15 f620 (by decide)
        refine x_iload (np := 27) (x := 2) (by decide +kernel) rfl (by first | decide | omega) ?_
        refine x_aload (np := 28) (x := 0) (by decide +kernel) rfl (x_nc_le (by decide)) ?_
        have b626 := jB (e := 15) 0 j621 rg_63_15_0_1 (by first | decide | omega) (by first | decide | omega)
        refine x_getC (np := 31) (x := 783) (f := 15) (q := (h619 63 15)) (by decide +kernel) (by decide) (by decide +kernel) rfl (fun l627 => ?_)
        refine x_icmp (k := 3) (tg := 95) (np := 34) (by decide +kernel) (by decide) (by first | decide | omega) l627 (fun q628 => ?_) (fun q629 => ?_)
        · have q628 : (h619 63 15) ≤ v616 := q628
          refine x_retV (np := 96) (x := 0) (by decide +kernel) (by decide +kernel) ⟨rfl, ?_⟩
          exact ⟨j621, f625⟩
        have q629 : ¬ ((h619 63 15) ≤ v616) := q629
        refine x_iload (np := 35) (x := 2) (by decide +kernel) rfl (by first | decide | omega) ?_
        refine x_istore (np := 36) (x := 3) (lo' := [x_r 63, iv_c 2147483652, iv_c v616, iv_c v616]) (by decide +kernel) (by first | decide | omega) (Nat.le_of_ble_eq_true rfl) rfl ?_
        have p704 : ∀ (n : Nat) (v699 : Nat) (h701 : xh), v699 < n → (2147483648 ≤ v699 ∧ v699 ≤ 2147483652) → J h701 → Fr 32768 h619 h701 → X sc 279 d (xV fun h' => J h' ∧ Fr 32769 h h') 0 0 36 [x_r 63, iv_c 2147483652, iv_c v616, iv_c v699] [] h701 := by
          intro n
          induction n with
          | zero => intro v699 h701 q705; exact absurd q705 (Nat.not_lt_zero _)
          | succ n i706 =>
            intro v699 h701 q705 b700 j703 f702
            have f707 := Fr.trans f625 f702 (by decide)
            have f708 := Fr.trans f620 f702 (by decide)
            refine x_iload (np := 37) (x := 3) (by decide +kernel) rfl (by first | decide | omega) ?_
            refine x_ifz (k := 5) (tg := 77) (np := 40) (by decide +kernel) (by decide) (by first | decide | omega) (fun q709 => ?_) (fun q710 => ?_)
            · have q709 : v699 ≤ 2147483648 := q709
              refine x_aload (np := 78) (x := 0) (by decide +kernel) rfl (x_nc_le (by decide)) ?_
              have q711 : h701 63 4 = 68 := by have z := jB (e := 4) 0 j703 rg_63_4_0_1 (by decide) (by decide); omega
              refine x_getR (np := 81) (x := 772) (f := 4) (q := 68) (by decide +kernel) (by decide) (by decide +kernel) q711 ?_
              refine x_iload (np := 82) (x := 3) (by decide +kernel) rfl (by first | decide | omega) ?_
              refine x_aload (np := 83) (x := 0) (by decide +kernel) rfl (x_nc_le (by decide)) ?_
              have q712 : h701 63 3 = 67 := by have z := jB (e := 3) 0 j703 rg_63_3_0_1 (by decide) (by decide); omega
              refine x_getR (np := 86) (x := 771) (f := 3) (q := 67) (by decide +kernel) (by decide) (by decide +kernel) q712 ?_
              refine x_iload (np := 87) (x := 2) (by decide +kernel) rfl (by first | decide | omega) ?_
              obtain ⟨u713, q714⟩ : ∃ z, v616 = 2147483648 + z := ⟨v616 - 2147483648, by first | decide | omega⟩
              refine x_aldC (np := 88) (x := 0) (n := 5) (i := u713) (q := (h701 67 u713)) (by decide +kernel) (by decide +kernel) (by first | decide | omega) (by first | decide | omega) (by decide) rfl (fun l715 => ?_)
              obtain ⟨u716, q717⟩ : ∃ z, v699 = 2147483648 + z := ⟨v699 - 2147483648, by first | decide | omega⟩
              refine x_ast (np := 89) (x := 0) (kd := 1) (n := 5) (i := u716) (by decide +kernel) (Or.inl rfl) (by decide +kernel) (by first | decide | omega) (by first | decide | omega) (by decide) l715 (fun z => absurd z (by decide)) ?_
              have j719 := jU (e := u716) (v := (h701 67 u713)) u716 j703 rg_68_0_1_5 (by first | decide | omega) (by first | decide | omega) (by first | decide | omega)
              have f721 := jF (e := u716) (v := (h701 67 u713)) u716 f707 rg_68_0_1_5 (by first | decide | omega) (by first | decide | omega) (by decide)
              have f722 := jF (e := u716) (v := (h701 67 u713)) u716 f708 rg_68_0_1_5 (by first | decide | omega) (by first | decide | omega) (by decide)
              generalize e720 : x_up h701 68 u716 (h701 67 u713) = h718 at j719 f721 f722 ⊢
              refine x_iinc (np := 92) (i := 2) (j := 2147483649) (v := (1 + v616)) (lo' := [x_r 63, iv_c 2147483652, iv_c (1 + v616), iv_c v699]) (by decide +kernel) (by decide) (by decide) rfl (by first | decide | omega) (by first | decide | omega) (by first | decide | omega) rfl ?_
              refine x_goto (np := 95) (x := 26) (by decide +kernel) ?_
              exact i624 (1 + v616) (iv_c v699) h718 (by first | decide | omega) (by first | decide | omega) j719 f722
            have q710 : ¬ (v699 ≤ 2147483648) := q710
            refine x_aload (np := 41) (x := 0) (by decide +kernel) rfl (x_nc_le (by decide)) ?_
            have q723 : h701 63 4 = 68 := by have z := jB (e := 4) 0 j703 rg_63_4_0_1 (by decide) (by decide); omega
            refine x_getR (np := 44) (x := 772) (f := 4) (q := 68) (by decide +kernel) (by decide) (by decide +kernel) q723 ?_
            refine x_iload (np := 45) (x := 3) (by decide +kernel) rfl (by first | decide | omega) ?_
            refine x_const (np := 46) (x := 9223372043297226753) (a := 2147483649) (by decide +kernel) (by decide) (by decide) ?_
            obtain ⟨v724, q725⟩ : ∃ z, z + 2147483649 = v699 + 2147483648 := ⟨v699 + 2147483648 - 2147483649, by first | decide | omega⟩
            refine x_isub (np := 47) (x := 0) (v := v724) (by decide +kernel) (by first | decide | omega) (by decide) (by first | decide | omega) (by first | decide | omega) ?_
            obtain ⟨u726, q727⟩ : ∃ z, v724 = 2147483648 + z := ⟨v724 - 2147483648, by first | decide | omega⟩
            refine x_aldC (np := 48) (x := 0) (n := 5) (i := u726) (q := (h701 68 u726)) (by decide +kernel) (by decide +kernel) (by first | decide | omega) (by first | decide | omega) (by decide) rfl (fun l728 => ?_)
            refine x_aload (np := 49) (x := 0) (by decide +kernel) rfl (x_nc_le (by decide)) ?_
            have q729 : h701 63 3 = 67 := by have z := jB (e := 3) 0 j703 rg_63_3_0_1 (by decide) (by decide); omega
            refine x_getR (np := 52) (x := 771) (f := 3) (q := 67) (by decide +kernel) (by decide) (by decide +kernel) q729 ?_
            refine x_iload (np := 53) (x := 2) (by decide +kernel) rfl (by first | decide | omega) ?_
            obtain ⟨u730, q731⟩ : ∃ z, v616 = 2147483648 + z := ⟨v616 - 2147483648, by first | decide | omega⟩
            refine x_aldC (np := 54) (x := 0) (n := 5) (i := u730) (q := (h701 67 u730)) (by decide +kernel) (by decide +kernel) (by first | decide | omega) (by first | decide | omega) (by decide) rfl (fun l732 => ?_)
            refine x_icmp (k := 5) (tg := 77) (np := 57) (by decide +kernel) (by decide) l728 l732 (fun q733 => ?_) (fun q734 => ?_)
            · have q733 : (h701 68 u726) ≤ (h701 67 u730) := q733
              refine x_aload (np := 78) (x := 0) (by decide +kernel) rfl (x_nc_le (by decide)) ?_
              have q735 : h701 63 4 = 68 := by have z := jB (e := 4) 0 j703 rg_63_4_0_1 (by decide) (by decide); omega
              refine x_getR (np := 81) (x := 772) (f := 4) (q := 68) (by decide +kernel) (by decide) (by decide +kernel) q735 ?_
              refine x_iload (np := 82) (x := 3) (by decide +kernel) rfl (by first | decide | omega) ?_
              refine x_aload (np := 83) (x := 0) (by decide +kernel) rfl (x_nc_le (by decide)) ?_
              have q736 : h701 63 3 = 67 := by have z := jB (e := 3) 0 j703 rg_63_3_0_1 (by decide) (by decide); omega
              refine x_getR (np := 86) (x := 771) (f := 3) (q := 67) (by decide +kernel) (by decide) (by decide +kernel) q736 ?_
              refine x_iload (np := 87) (x := 2) (by decide +kernel) rfl (by first | decide | omega) ?_
              refine x_aldC (np := 88) (x := 0) (n := 5) (i := u730) (q := (h701 67 u730)) (by decide +kernel) (by decide +kernel) (by first | decide | omega) (by first | decide | omega) (by decide) rfl (fun l737 => ?_)
              obtain ⟨u738, q739⟩ : ∃ z, v699 = 2147483648 + z := ⟨v699 - 2147483648, by first | decide | omega⟩
              refine x_ast (np := 89) (x := 0) (kd := 1) (n := 5) (i := u738) (by decide +kernel) (Or.inl rfl) (by decide +kernel) (by first | decide | omega) (by first | decide | omega) (by decide) l732 (fun z => absurd z (by decide)) ?_
              have j741 := jU (e := u738) (v := (h701 67 u730)) u738 j703 rg_68_0_1_5 (by first | decide | omega) (by first | decide | omega) (by first | decide | omega)
              have f743 := jF (e := u738) (v := (h701 67 u730)) u738 f707 rg_68_0_1_5 (by first | decide | omega) (by first | decide | omega) (by decide)
              have f744 := jF (e := u738) (v := (h701 67 u730)) u738 f708 rg_68_0_1_5 (by first | decide | omega) (by first | decide | omega) (by decide)
              generalize e742 : x_up h701 68 u738 (h701 67 u730) = h740 at j741 f743 f744 ⊢
              refine x_iinc (np := 92) (i := 2) (j := 2147483649) (v := (1 + v616)) (lo' := [x_r 63, iv_c 2147483652, iv_c (1 + v616), iv_c v699]) (by decide +kernel) (by decide) (by decide) rfl (by first | decide | omega) (by first | decide | omega) (by first | decide | omega) rfl ?_
              refine x_goto (np := 95) (x := 26) (by decide +kernel) ?_
              exact i624 (1 + v616) (iv_c v699) h740 (by first | decide | omega) (by first | decide | omega) j741 f744
            have q734 : ¬ ((h701 68 u726) ≤ (h701 67 u730)) := q734
            refine x_aload (np := 58) (x := 0) (by decide +kernel) rfl (x_nc_le (by decide)) ?_
            have q745 : h701 63 4 = 68 := by have z := jB (e := 4) 0 j703 rg_63_4_0_1 (by decide) (by decide); omega
            refine x_getR (np := 61) (x := 772) (f := 4) (q := 68) (by decide +kernel) (by decide) (by decide +kernel) q745 ?_
            refine x_iload (np := 62) (x := 3) (by decide +kernel) rfl (by first | decide | omega) ?_
            refine x_aload (np := 63) (x := 0) (by decide +kernel) rfl (x_nc_le (by decide)) ?_
            have q746 : h701 63 4 = 68 := by have z := jB (e := 4) 0 j703 rg_63_4_0_1 (by decide) (by decide); omega
            refine x_getR (np := 66) (x := 772) (f := 4) (q := 68) (by decide +kernel) (by decide) (by decide +kernel) q746 ?_
            refine x_iload (np := 67) (x := 3) (by decide +kernel) rfl (by first | decide | omega) ?_
            refine x_const (np := 68) (x := 9223372043297226753) (a := 2147483649) (by decide +kernel) (by decide) (by decide) ?_
            obtain ⟨v747, q748⟩ : ∃ z, z + 2147483649 = v699 + 2147483648 := ⟨v699 + 2147483648 - 2147483649, by first | decide | omega⟩
            refine x_isub (np := 69) (x := 0) (v := v747) (by decide +kernel) (by first | decide | omega) (by decide) (by first | decide | omega) (by first | decide | omega) ?_
            obtain ⟨u749, q750⟩ : ∃ z, v747 = 2147483648 + z := ⟨v747 - 2147483648, by first | decide | omega⟩
            refine x_aldC (np := 70) (x := 0) (n := 5) (i := u749) (q := (h701 68 u749)) (by decide +kernel) (by decide +kernel) (by first | decide | omega) (by first | decide | omega) (by decide) rfl (fun l751 => ?_)
            obtain ⟨u752, q753⟩ : ∃ z, v699 = 2147483648 + z := ⟨v699 - 2147483648, by first | decide | omega⟩
            refine x_ast (np := 71) (x := 0) (kd := 1) (n := 5) (i := u752) (by decide +kernel) (Or.inl rfl) (by decide +kernel) (by first | decide | omega) (by first | decide | omega) (by decide) l751 (fun z => absurd z (by decide)) ?_
            have j755 := jU (e := u752) (v := (h701 68 u749)) u752 j703 rg_68_0_1_5 (by first | decide | omega) (by first | decide | omega) (by first | decide | omega)
            have f757 := jF (e := u752) (v := (h701 68 u749)) u752 f707 rg_68_0_1_5 (by first | decide | omega) (by first | decide | omega) (by decide)
            have f758 := jF (e := u752) (v := (h701 68 u749)) u752 f708 rg_68_0_1_5 (by first | decide | omega) (by first | decide | omega) (by decide)
            have f759 := jF (e := u752) (v := (h701 68 u749)) u752 f702 rg_68_0_1_5 (by first | decide | omega) (by first | decide | omega) (by decide)
            generalize e756 : x_up h701 68 u752 (h701 68 u749) = h754 at j755 f757 f758 f759 ⊢
            obtain ⟨v760, q761⟩ : ∃ z, z + 1 = v699 := ⟨v699 - 1, by first | decide | omega⟩
            refine x_iinc (np := 74) (i := 3) (j := 2147483647) (v := v760) (lo' := [x_r 63, iv_c 2147483652, iv_c v616, iv_c v760]) (by decide +kernel) (by decide) (by decide) rfl (by first | decide | omega) (by first | decide | omega) (by first | decide | omega) rfl ?_
            refine x_goto (np := 77) (x := 36) (by decide +kernel) ?_
            exact i706 v760 h754 (by first | decide | omega) (by first | decide | omega) j755 f759
        exact p704 _ v616 h619 (Nat.lt_succ_self _) (by first | decide | omega) j621 (Fr.refl _ _)
    exact p622 _ 2147483648 147573952589676412928 h12 (Nat.lt_succ_self _) (by first | decide | omega) j13 (Fr.refl _ _)
  have q11 : ¬ (v2 ≤ 2147483649) := q11
  refine x_retV (np := 19) (x := 0) (by decide +kernel) (by decide +kernel) ⟨rfl, ?_⟩
  exact ⟨j5, f7⟩
