/-! ===== methods ===== -/
set_option maxHeartbeats 0 in
/-- LentNames.bears(II)I -/
theorem c110_0 {sc : Nat × Nat} {d a1 a2 : Nat} {h : xh} (hJ : J h) (ba1 : 0 ≤ a1 ∧ a1 ≤ 4294967295) (ba2 : 0 ≤ a2 ∧ a2 ≤ 4294967295) : X sc 110 (d + 2) (xT (fun r h' => J h' ∧ Fr 0 h h' ∧ (2147483647 ≤ r ∧ r ≤ 2147483653)) (fun E h' => J h' ∧ Fr 0 h h' ∧ (E = 2))) 0 0 0 [x_r 0, iv_c a1, iv_c a2] [] h := by
  have la1 : a1 < 4294967296 := by omega
  have la2 : a2 < 4294967296 := by omega
  have hF := Fr.refl 0 h
  refine x_aload (np := 1) (x := 0) (by decide +kernel) rfl (x_nc_le (by decide)) ?_
  refine x_iload (np := 2) (x := 1) (by decide +kernel) rfl la1 ?_
  refine x_nU (t := 6) (mj := 144) (n := 2) (rc := 11) (ml := 2) (cc := 1) (ss := 6) (nr := 0) (np := 5) (as := [x_r 0, iv_c a1]) (rest := []) (lo1 := [x_r 0, iv_c a1]) (by decide +kernel) (by decide) (by decide +kernel) (by decide +kernel) (x_rb_of (by decide +kernel)) rfl rfl (x_wr (by decide) (x_wi la1 x_wn)) x_wn (by decide) rfl ?_
  refine x_iload (np := 1) (x := 1) (by decide +kernel) rfl la1 ?_
  refine x_ifz (k := 2) (tg := 15) (np := 4) (by decide +kernel) (by decide) la1 (fun q1 => ?_) (fun q2 => ?_)
  · have q1 : a1 < 2147483648 := q1
    refine x_thr (np := 18) (x := 2) (by decide +kernel) (by decide +kernel) (Nat.le_trans x_wn (by decide)) (Or.inr ⟨_, rfl, ?_⟩)
    refine Or.inr ⟨_, rfl, ?_⟩
    exact ⟨hJ, hF, by decide⟩
  have q2 : ¬ (a1 < 2147483648) := q2
  refine x_iload (np := 5) (x := 1) (by decide +kernel) rfl la1 ?_
  refine x_aload (np := 6) (x := 0) (by decide +kernel) rfl (x_nc_le (by decide)) ?_
  have t3 : tw (h 0 8) := hJ.2.1
  refine x_getR (np := 9) (x := 648) (f := 8) (q := (h 0 8)) (by decide +kernel) (by decide) (by decide +kernel) rfl ?_
  have b4 := jB (e := 7) 0 hJ (rg_T0_7_0_1 t3) (by omega) (by omega)
  refine x_getC (np := 12) (x := 519) (f := 7) (q := (h (h 0 8) 7)) (by decide +kernel) (by decide) (tg_0_519_7_0 t3) rfl (fun l5 => ?_)
  refine x_icmp (k := 2) (tg := 26) (np := 15) (by decide +kernel) (by decide) la1 l5 (fun q6 => ?_) (fun q7 => ?_)
  · have q6 : a1 < (h (h 0 8) 7) := q6
    refine x_retV (np := 27) (x := 0) (by decide +kernel) (by decide +kernel) (Or.inl ⟨rfl, ?_⟩)
    refine x_iload (np := 6) (x := 2) (by decide +kernel) rfl la2 ?_
    refine x_nU (t := 0) (mj := 146) (n := 1) (rc := 0) (ml := 1) (cc := 1) (ss := 6) (nr := 0) (np := 9) (as := [iv_c a2]) (rest := []) (lo1 := [iv_c a2]) (by decide +kernel) (by decide) (by decide +kernel) (by decide +kernel) (Or.inl rfl) rfl rfl (x_wi la2 x_wn) x_wn (by decide) rfl ?_
    refine x_iload (np := 1) (x := 0) (by decide +kernel) rfl la2 ?_
    refine x_ifz (k := 2) (tg := 10) (np := 4) (by decide +kernel) (by decide) la2 (fun q8 => ?_) (fun q9 => ?_)
    · have q8 : a2 < 2147483648 := q8
      refine x_thr (np := 13) (x := 2) (by decide +kernel) (by decide +kernel) (Nat.le_trans x_wn (by decide)) (Or.inr ⟨_, rfl, ?_⟩)
      refine Or.inr ⟨_, rfl, ?_⟩
      exact ⟨hJ, hF, by decide⟩
    have q9 : ¬ (a2 < 2147483648) := q9
    refine x_iload (np := 5) (x := 0) (by decide +kernel) rfl la2 ?_
    refine x_const (np := 7) (x := 9223372090541867020) (a := 2147483660) (by decide +kernel) (by decide) (by decide) ?_
    refine x_icmp (k := 2) (tg := 21) (np := 10) (by decide +kernel) (by decide) la2 (by decide) (fun q10 => ?_) (fun q11 => ?_)
    · have q10 : a2 < 2147483660 := q10
      refine x_retV (np := 22) (x := 0) (by decide +kernel) (by decide +kernel) (Or.inl ⟨rfl, ?_⟩)
      refine x_aload (np := 10) (x := 0) (by decide +kernel) rfl (x_nc_le (by decide)) ?_
      have q12 : h 0 1 = 45 := by have z := jB (e := 1) 0 hJ rg_0_1_0_1 (by decide) (by decide); omega
      refine x_getR (np := 13) (x := 641) (f := 1) (q := 45) (by decide +kernel) (by decide) (by decide +kernel) q12 ?_
      refine x_iload (np := 14) (x := 1) (by decide +kernel) rfl la1 ?_
      refine x_iload (np := 15) (x := 2) (by decide +kernel) rfl la2 ?_
      refine x_cP (t := 6) (mj := 5) (n := 3) (rc := 2) (ml := 3) (nr := 0) (np := 18) (as := [x_r 45, iv_c a1, iv_c a2]) (rest := []) (lo1 := [x_r 45, iv_c a1, iv_c a2]) (by decide +kernel) (by decide) (by decide +kernel) (x_rb_of (by decide +kernel)) rfl rfl (x_wr (by decide) (x_wi la1 (x_wi la2 x_wn))) x_wn (by decide) rfl (c5_45 hJ  (by omega) (by omega)) (fun v13 l14 q15 => ?_)
      refine x_retI (np := 19) (x := 0) (by decide +kernel) l14 (Or.inl (by decide +kernel)) (Or.inl ⟨_, rfl, l14, ?_⟩)
      exact ⟨hJ, hF, (by omega)⟩
    have q11 : ¬ (a2 < 2147483660) := q11
    refine x_thr (np := 13) (x := 2) (by decide +kernel) (by decide +kernel) (Nat.le_trans x_wn (by decide)) (Or.inr ⟨_, rfl, ?_⟩)
    refine Or.inr ⟨_, rfl, ?_⟩
    exact ⟨hJ, hF, by decide⟩
  have q7 : ¬ (a1 < (h (h 0 8) 7)) := q7
  refine x_thr (np := 18) (x := 2) (by decide +kernel) (by decide +kernel) (Nat.le_trans x_wn (by decide)) (Or.inr ⟨_, rfl, ?_⟩)
  refine Or.inr ⟨_, rfl, ?_⟩
  exact ⟨hJ, hF, by decide⟩
set_option maxHeartbeats 0 in
/-- LentNames$Calendar.namesOf(II)I -/
theorem c8_45 {sc : Nat × Nat} {d a1 a2 : Nat} {h : xh} (hJ : J h) (ba1 : 2147483648 ≤ a1 ∧ a1 ≤ 2147483653) (ba2 : 2147483648 ≤ a2 ∧ a2 ≤ 2147483659) : X sc 8 (d + 2) (xI fun r h' => h' = h ∧ (0 ≤ r ∧ r ≤ 4294967295)) 0 0 0 [x_r 45, iv_c a1, iv_c a2, 147573952589676412928, 147573952589676412928] [] h := by
  have la1 : a1 < 4294967296 := by omega
  have la2 : a2 < 4294967296 := by omega
  refine x_const (np := 1) (x := 9223372039002259456) (a := 2147483648) (by decide +kernel) (by decide) (by decide) ?_
  refine x_istore (np := 2) (x := 3) (lo' := [x_r 45, iv_c a1, iv_c a2, iv_c 2147483648, 147573952589676412928]) (by decide +kernel) (by decide) (Nat.le_of_ble_eq_true rfl) rfl ?_
  refine x_const (np := 3) (x := 9223372039002259456) (a := 2147483648) (by decide +kernel) (by decide) (by decide) ?_
  refine x_istore (np := 5) (x := 4) (lo' := [x_r 45, iv_c a1, iv_c a2, iv_c 2147483648, iv_c 2147483648]) (by decide +kernel) (by decide) (Nat.le_of_ble_eq_true rfl) rfl ?_
  have p113 : ∀ (n : Nat) (v109 : Nat) (v111 : Nat), 4294967296 - v111 < n → (0 ≤ v109 ∧ v109 ≤ 4294967295) → (2147483648 ≤ v111 ∧ v111 ≤ 2147483654) → X sc 8 (d + 2) (xI fun r h' => h' = h ∧ (0 ≤ r ∧ r ≤ 4294967295)) 0 0 5 [x_r 45, iv_c a1, iv_c a2, iv_c v109, iv_c v111] [] h := by
    intro n
    induction n with
    | zero => intro v109 v111 q114; exact absurd q114 (Nat.not_lt_zero _)
    | succ n i115 =>
      intro v109 v111 q114 b110 b112
      refine x_iload (np := 7) (x := 4) (by decide +kernel) rfl (by omega) ?_
      refine x_aload (np := 8) (x := 0) (by decide +kernel) rfl (x_nc_le (by decide)) ?_
      have t116 : tw (h 45 5) := hJ.2.2.2.1
      refine x_getR (np := 11) (x := 69) (f := 5) (q := (h 45 5)) (by decide +kernel) (by decide) (by decide +kernel) rfl ?_
      have b117 := jB (e := 7) 0 hJ (rg_T0_7_0_1 t116) (by omega) (by omega)
      refine x_getC (np := 14) (x := 519) (f := 7) (q := (h (h 45 5) 7)) (by decide +kernel) (by decide) (tg_0_519_7_0 t116) rfl (fun l118 => ?_)
      refine x_icmp (k := 3) (tg := 41) (np := 17) (by decide +kernel) (by decide) (by omega) l118 (fun q119 => ?_) (fun q120 => ?_)
      · have q119 : (h (h 45 5) 7) ≤ v111 := q119
        refine x_iload (np := 42) (x := 3) (by decide +kernel) rfl (by omega) ?_
        refine x_retI (np := 43) (x := 0) (by decide +kernel) (by omega) (Or.inl (by decide +kernel)) ⟨_, rfl, (by omega), ?_⟩
        exact ⟨rfl, (by omega)⟩
      have q120 : ¬ ((h (h 45 5) 7) ≤ v111) := q120
      refine x_aload (np := 18) (x := 0) (by decide +kernel) rfl (x_nc_le (by decide)) ?_
      refine x_iload (np := 20) (x := 4) (by decide +kernel) rfl (by omega) ?_
      refine x_iload (np := 21) (x := 2) (by decide +kernel) rfl la2 ?_
      refine x_cP (t := 6) (mj := 5) (n := 3) (rc := 2) (ml := 3) (nr := 0) (np := 24) (as := [x_r 45, iv_c v111, iv_c a2]) (rest := []) (lo1 := [x_r 45, iv_c v111, iv_c a2]) (by decide +kernel) (by decide) (by decide +kernel) (x_rb_of (by decide +kernel)) rfl rfl (x_wr (by decide) (x_wi (by omega) (x_wi la2 x_wn))) x_wn (by decide) rfl (c5_45 hJ  (by omega) (by omega)) (fun v121 l122 q123 => ?_)
      refine x_iload (np := 25) (x := 1) (by decide +kernel) rfl la1 ?_
      refine x_icmp (k := 1) (tg := 35) (np := 28) (by decide +kernel) (by decide) l122 la1 (fun q124 => ?_) (fun q125 => ?_)
      · have q124 : v121 ≠ a1 := q124
        refine x_iinc (np := 38) (i := 4) (j := 2147483649) (v := (1 + v111)) (lo' := [x_r 45, iv_c a1, iv_c a2, iv_c v109, iv_c (1 + v111)]) (by decide +kernel) (by decide) (by decide) rfl (by omega) (by omega) (by omega) rfl ?_
        refine x_goto (np := 41) (x := 5) (by decide +kernel) ?_
        exact i115 v109 (1 + v111) (by omega) (by omega) (by omega)
      have q125 : ¬ (v121 ≠ a1) := q125
      refine x_iload (np := 29) (x := 3) (by decide +kernel) rfl (by omega) ?_
      refine x_const (np := 30) (x := 9223372043297226753) (a := 2147483649) (by decide +kernel) (by decide) (by decide) ?_
      refine x_iload (np := 32) (x := 4) (by decide +kernel) rfl (by omega) ?_
      refine x_any (np := 33) (k9 := 3) (by decide +kernel) (by decide) (by decide) (by omega) (fun v126 l127 => ?_)
      refine x_any (np := 34) (k9 := 1) (by decide +kernel) (by decide) (by omega) l127 (fun v128 l129 => ?_)
      refine x_istore (np := 35) (x := 3) (lo' := [x_r 45, iv_c a1, iv_c a2, iv_c v128, iv_c v111]) (by decide +kernel) l129 (Nat.le_of_ble_eq_true rfl) rfl ?_
      refine x_iinc (np := 38) (i := 4) (j := 2147483649) (v := (1 + v111)) (lo' := [x_r 45, iv_c a1, iv_c a2, iv_c v128, iv_c (1 + v111)]) (by decide +kernel) (by decide) (by decide) rfl (by omega) (by omega) (by omega) rfl ?_
      refine x_goto (np := 41) (x := 5) (by decide +kernel) ?_
      exact i115 v128 (1 + v111) (by omega) (by omega) (by omega)
  exact p113 _ 2147483648 2147483648 (Nat.lt_succ_self _) (by omega) (by omega)
set_option maxHeartbeats 0 in
/-- LentNames.names(II)I -/
theorem c111_0 {sc : Nat × Nat} {d a1 a2 : Nat} {h : xh} (hJ : J h) (ba1 : 0 ≤ a1 ∧ a1 ≤ 4294967295) (ba2 : 0 ≤ a2 ∧ a2 ≤ 4294967295) : X sc 111 (d + 3) (xT (fun r h' => J h' ∧ Fr 0 h h' ∧ (0 ≤ r ∧ r ≤ 4294967295)) (fun E h' => J h' ∧ Fr 0 h h' ∧ (E = 2))) 0 0 0 [x_r 0, iv_c a1, iv_c a2] [] h := by
  have la1 : a1 < 4294967296 := by omega
  have la2 : a2 < 4294967296 := by omega
  have hF := Fr.refl 0 h
  refine x_aload (np := 1) (x := 0) (by decide +kernel) rfl (x_nc_le (by decide)) ?_
  refine x_iload (np := 2) (x := 1) (by decide +kernel) rfl la1 ?_
  refine x_nU (t := 6) (mj := 145) (n := 2) (rc := 11) (ml := 2) (cc := 1) (ss := 6) (nr := 0) (np := 5) (as := [x_r 0, iv_c a1]) (rest := []) (lo1 := [x_r 0, iv_c a1]) (by decide +kernel) (by decide) (by decide +kernel) (by decide +kernel) (x_rb_of (by decide +kernel)) rfl rfl (x_wr (by decide) (x_wi la1 x_wn)) x_wn (by decide) rfl ?_
  refine x_iload (np := 1) (x := 1) (by decide +kernel) rfl la1 ?_
  refine x_ifz (k := 2) (tg := 15) (np := 4) (by decide +kernel) (by decide) la1 (fun q1 => ?_) (fun q2 => ?_)
  · have q1 : a1 < 2147483648 := q1
    refine x_thr (np := 18) (x := 2) (by decide +kernel) (by decide +kernel) (Nat.le_trans x_wn (by decide)) (Or.inr ⟨_, rfl, ?_⟩)
    refine Or.inr ⟨_, rfl, ?_⟩
    exact ⟨hJ, hF, by decide⟩
  have q2 : ¬ (a1 < 2147483648) := q2
  refine x_iload (np := 5) (x := 1) (by decide +kernel) rfl la1 ?_
  refine x_aload (np := 6) (x := 0) (by decide +kernel) rfl (x_nc_le (by decide)) ?_
  have t3 : tw (h 0 8) := hJ.2.1
  refine x_getR (np := 9) (x := 648) (f := 8) (q := (h 0 8)) (by decide +kernel) (by decide) (by decide +kernel) rfl ?_
  have b4 := jB (e := 7) 0 hJ (rg_T0_7_0_1 t3) (by omega) (by omega)
  refine x_getC (np := 12) (x := 519) (f := 7) (q := (h (h 0 8) 7)) (by decide +kernel) (by decide) (tg_0_519_7_0 t3) rfl (fun l5 => ?_)
  refine x_icmp (k := 2) (tg := 26) (np := 15) (by decide +kernel) (by decide) la1 l5 (fun q6 => ?_) (fun q7 => ?_)
  · have q6 : a1 < (h (h 0 8) 7) := q6
    refine x_retV (np := 27) (x := 0) (by decide +kernel) (by decide +kernel) (Or.inl ⟨rfl, ?_⟩)
    refine x_iload (np := 6) (x := 2) (by decide +kernel) rfl la2 ?_
    refine x_nU (t := 0) (mj := 146) (n := 1) (rc := 0) (ml := 1) (cc := 1) (ss := 6) (nr := 0) (np := 9) (as := [iv_c a2]) (rest := []) (lo1 := [iv_c a2]) (by decide +kernel) (by decide) (by decide +kernel) (by decide +kernel) (Or.inl rfl) rfl rfl (x_wi la2 x_wn) x_wn (by decide) rfl ?_
    refine x_iload (np := 1) (x := 0) (by decide +kernel) rfl la2 ?_
    refine x_ifz (k := 2) (tg := 10) (np := 4) (by decide +kernel) (by decide) la2 (fun q8 => ?_) (fun q9 => ?_)
    · have q8 : a2 < 2147483648 := q8
      refine x_thr (np := 13) (x := 2) (by decide +kernel) (by decide +kernel) (Nat.le_trans x_wn (by decide)) (Or.inr ⟨_, rfl, ?_⟩)
      refine Or.inr ⟨_, rfl, ?_⟩
      exact ⟨hJ, hF, by decide⟩
    have q9 : ¬ (a2 < 2147483648) := q9
    refine x_iload (np := 5) (x := 0) (by decide +kernel) rfl la2 ?_
    refine x_const (np := 7) (x := 9223372090541867020) (a := 2147483660) (by decide +kernel) (by decide) (by decide) ?_
    refine x_icmp (k := 2) (tg := 21) (np := 10) (by decide +kernel) (by decide) la2 (by decide) (fun q10 => ?_) (fun q11 => ?_)
    · have q10 : a2 < 2147483660 := q10
      refine x_retV (np := 22) (x := 0) (by decide +kernel) (by decide +kernel) (Or.inl ⟨rfl, ?_⟩)
      refine x_aload (np := 10) (x := 0) (by decide +kernel) rfl (x_nc_le (by decide)) ?_
      have q12 : h 0 1 = 45 := by have z := jB (e := 1) 0 hJ rg_0_1_0_1 (by decide) (by decide); omega
      refine x_getR (np := 13) (x := 641) (f := 1) (q := 45) (by decide +kernel) (by decide) (by decide +kernel) q12 ?_
      refine x_iload (np := 14) (x := 1) (by decide +kernel) rfl la1 ?_
      refine x_iload (np := 15) (x := 2) (by decide +kernel) rfl la2 ?_
      refine x_cP (t := 6) (mj := 8) (n := 3) (rc := 2) (ml := 5) (nr := 0) (np := 18) (as := [x_r 45, iv_c a1, iv_c a2]) (rest := []) (lo1 := [x_r 45, iv_c a1, iv_c a2, 147573952589676412928, 147573952589676412928]) (by decide +kernel) (by decide) (by decide +kernel) (x_rb_of (by decide +kernel)) rfl rfl (x_wr (by decide) (x_wi la1 (x_wi la2 x_wn))) x_wn (by decide) rfl (c8_45 hJ  (by omega) (by omega)) (fun v13 l14 q15 => ?_)
      refine x_retI (np := 19) (x := 0) (by decide +kernel) l14 (Or.inl (by decide +kernel)) (Or.inl ⟨_, rfl, l14, ?_⟩)
      exact ⟨hJ, hF, (by omega)⟩
    have q11 : ¬ (a2 < 2147483660) := q11
    refine x_thr (np := 13) (x := 2) (by decide +kernel) (by decide +kernel) (Nat.le_trans x_wn (by decide)) (Or.inr ⟨_, rfl, ?_⟩)
    refine Or.inr ⟨_, rfl, ?_⟩
    exact ⟨hJ, hF, by decide⟩
  have q7 : ¬ (a1 < (h (h 0 8) 7)) := q7
  refine x_thr (np := 18) (x := 2) (by decide +kernel) (by decide +kernel) (Nat.le_trans x_wn (by decide)) (Or.inr ⟨_, rfl, ?_⟩)
  refine Or.inr ⟨_, rfl, ?_⟩
  exact ⟨hJ, hF, by decide⟩
set_option maxHeartbeats 0 in
/-- LentNames.how(II)I -/
theorem c112_0 {sc : Nat × Nat} {d a1 a2 : Nat} {h : xh} (hJ : J h) (ba1 : 0 ≤ a1 ∧ a1 ≤ 4294967295) (ba2 : 0 ≤ a2 ∧ a2 ≤ 4294967295) : X sc 112 (d + 2) (xT (fun r h' => J h' ∧ Fr 0 h h' ∧ (0 ≤ r ∧ r ≤ 4294967295)) (fun E h' => J h' ∧ Fr 0 h h' ∧ (E = 2))) 0 0 0 [x_r 0, iv_c a1, iv_c a2] [] h := by
  have la1 : a1 < 4294967296 := by omega
  have la2 : a2 < 4294967296 := by omega
  have hF := Fr.refl 0 h
  refine x_aload (np := 1) (x := 0) (by decide +kernel) rfl (x_nc_le (by decide)) ?_
  refine x_iload (np := 2) (x := 1) (by decide +kernel) rfl la1 ?_
  refine x_nU (t := 6) (mj := 144) (n := 2) (rc := 11) (ml := 2) (cc := 1) (ss := 6) (nr := 0) (np := 5) (as := [x_r 0, iv_c a1]) (rest := []) (lo1 := [x_r 0, iv_c a1]) (by decide +kernel) (by decide) (by decide +kernel) (by decide +kernel) (x_rb_of (by decide +kernel)) rfl rfl (x_wr (by decide) (x_wi la1 x_wn)) x_wn (by decide) rfl ?_
  refine x_iload (np := 1) (x := 1) (by decide +kernel) rfl la1 ?_
  refine x_ifz (k := 2) (tg := 15) (np := 4) (by decide +kernel) (by decide) la1 (fun q1 => ?_) (fun q2 => ?_)
  · have q1 : a1 < 2147483648 := q1
    refine x_thr (np := 18) (x := 2) (by decide +kernel) (by decide +kernel) (Nat.le_trans x_wn (by decide)) (Or.inr ⟨_, rfl, ?_⟩)
    refine Or.inr ⟨_, rfl, ?_⟩
    exact ⟨hJ, hF, by decide⟩
  have q2 : ¬ (a1 < 2147483648) := q2
  refine x_iload (np := 5) (x := 1) (by decide +kernel) rfl la1 ?_
  refine x_aload (np := 6) (x := 0) (by decide +kernel) rfl (x_nc_le (by decide)) ?_
  have t3 : tw (h 0 8) := hJ.2.1
  refine x_getR (np := 9) (x := 648) (f := 8) (q := (h 0 8)) (by decide +kernel) (by decide) (by decide +kernel) rfl ?_
  have b4 := jB (e := 7) 0 hJ (rg_T0_7_0_1 t3) (by omega) (by omega)
  refine x_getC (np := 12) (x := 519) (f := 7) (q := (h (h 0 8) 7)) (by decide +kernel) (by decide) (tg_0_519_7_0 t3) rfl (fun l5 => ?_)
  refine x_icmp (k := 2) (tg := 26) (np := 15) (by decide +kernel) (by decide) la1 l5 (fun q6 => ?_) (fun q7 => ?_)
  · have q6 : a1 < (h (h 0 8) 7) := q6
    refine x_retV (np := 27) (x := 0) (by decide +kernel) (by decide +kernel) (Or.inl ⟨rfl, ?_⟩)
    refine x_iload (np := 6) (x := 2) (by decide +kernel) rfl la2 ?_
    refine x_nU (t := 0) (mj := 146) (n := 1) (rc := 0) (ml := 1) (cc := 1) (ss := 6) (nr := 0) (np := 9) (as := [iv_c a2]) (rest := []) (lo1 := [iv_c a2]) (by decide +kernel) (by decide) (by decide +kernel) (by decide +kernel) (Or.inl rfl) rfl rfl (x_wi la2 x_wn) x_wn (by decide) rfl ?_
    refine x_iload (np := 1) (x := 0) (by decide +kernel) rfl la2 ?_
    refine x_ifz (k := 2) (tg := 10) (np := 4) (by decide +kernel) (by decide) la2 (fun q8 => ?_) (fun q9 => ?_)
    · have q8 : a2 < 2147483648 := q8
      refine x_thr (np := 13) (x := 2) (by decide +kernel) (by decide +kernel) (Nat.le_trans x_wn (by decide)) (Or.inr ⟨_, rfl, ?_⟩)
      refine Or.inr ⟨_, rfl, ?_⟩
      exact ⟨hJ, hF, by decide⟩
    have q9 : ¬ (a2 < 2147483648) := q9
    refine x_iload (np := 5) (x := 0) (by decide +kernel) rfl la2 ?_
    refine x_const (np := 7) (x := 9223372090541867020) (a := 2147483660) (by decide +kernel) (by decide) (by decide) ?_
    refine x_icmp (k := 2) (tg := 21) (np := 10) (by decide +kernel) (by decide) la2 (by decide) (fun q10 => ?_) (fun q11 => ?_)
    · have q10 : a2 < 2147483660 := q10
      refine x_retV (np := 22) (x := 0) (by decide +kernel) (by decide +kernel) (Or.inl ⟨rfl, ?_⟩)
      refine x_aload (np := 10) (x := 0) (by decide +kernel) rfl (x_nc_le (by decide)) ?_
      have q12 : h 0 1 = 45 := by have z := jB (e := 1) 0 hJ rg_0_1_0_1 (by decide) (by decide); omega
      refine x_getR (np := 13) (x := 641) (f := 1) (q := 45) (by decide +kernel) (by decide) (by decide +kernel) q12 ?_
      refine x_iload (np := 14) (x := 1) (by decide +kernel) rfl la1 ?_
      refine x_iload (np := 15) (x := 2) (by decide +kernel) rfl la2 ?_
      refine x_nI (t := 6) (mj := 6) (n := 3) (rc := 2) (ml := 3) (nr := 0) (np := 18) (as := [x_r 45, iv_c a1, iv_c a2]) (rest := []) (lo1 := [x_r 45, iv_c a1, iv_c a2]) (by decide +kernel) (by decide) (by decide +kernel) (x_rb_of (by decide +kernel)) rfl rfl (x_wr (by decide) (x_wi la1 (x_wi la2 x_wn))) x_wn (by decide) rfl ?_
      refine x_aload (np := 1) (x := 0) (by decide +kernel) rfl (x_nc_le (by decide)) ?_
      refine x_iload (np := 2) (x := 1) (by decide +kernel) rfl la1 ?_
      refine x_iload (np := 3) (x := 2) (by decide +kernel) rfl la2 ?_
      refine x_nI (t := 6) (mj := 15) (n := 3) (rc := 2) (ml := 3) (nr := 0) (np := 6) (as := [x_r 45, iv_c a1, iv_c a2]) (rest := []) (lo1 := [x_r 45, iv_c a1, iv_c a2]) (by decide +kernel) (by decide) (by decide +kernel) (x_rb_of (by decide +kernel)) rfl rfl (x_wr (by decide) (x_wi la1 (x_wi la2 x_wn))) x_wn (by decide) rfl ?_
      refine x_iload (np := 1) (x := 1) (by decide +kernel) rfl la1 ?_
      refine x_ifz (k := 2) (tg := 24) (np := 4) (by decide +kernel) (by decide) la1 (fun q13 => ?_) (fun q14 => ?_)
      · have q13 : a1 < 2147483648 := q13
        exfalso; omega
      have q14 : ¬ (a1 < 2147483648) := q14
      refine x_iload (np := 5) (x := 1) (by decide +kernel) rfl la1 ?_
      refine x_const (np := 7) (x := 9223372064772063238) (a := 2147483654) (by decide +kernel) (by decide) (by decide) ?_
      refine x_icmp (k := 3) (tg := 24) (np := 10) (by decide +kernel) (by decide) la1 (by decide) (fun q15 => ?_) (fun q16 => ?_)
      · have q15 : 2147483654 ≤ a1 := q15
        exfalso; omega
      have q16 : ¬ (2147483654 ≤ a1) := q16
      refine x_iload (np := 11) (x := 2) (by decide +kernel) rfl la2 ?_
      refine x_ifz (k := 2) (tg := 24) (np := 14) (by decide +kernel) (by decide) la2 (fun q17 => ?_) (fun q18 => ?_)
      · have q17 : a2 < 2147483648 := q17
        exfalso; omega
      have q18 : ¬ (a2 < 2147483648) := q18
      refine x_iload (np := 15) (x := 2) (by decide +kernel) rfl la2 ?_
      refine x_const (np := 17) (x := 9223372090541867020) (a := 2147483660) (by decide +kernel) (by decide) (by decide) ?_
      refine x_icmp (k := 3) (tg := 24) (np := 20) (by decide +kernel) (by decide) la2 (by decide) (fun q19 => ?_) (fun q20 => ?_)
      · have q19 : 2147483660 ≤ a2 := q19
        exfalso; omega
      have q20 : ¬ (2147483660 ≤ a2) := q20
      refine x_const (np := 21) (x := 9223372043297226753) (a := 2147483649) (by decide +kernel) (by decide) (by decide) ?_
      refine x_goto (np := 24) (x := 25) (by decide +kernel) ?_
      refine x_retI (np := 26) (x := 0) (by decide +kernel) (by decide) (Or.inr ⟨by decide +kernel, by omega, by omega⟩) ⟨_, rfl, (by decide), ?_⟩
      refine x_ifz (k := 0) (tg := 22) (np := 9) (by decide +kernel) (by decide) (by decide) (fun q21 => ?_) (fun q22 => ?_)
      · have q21 : 2147483649 = 2147483648 := q21
        exfalso; omega
      have q22 : ¬ (2147483649 = 2147483648) := q22
      refine x_aload (np := 10) (x := 0) (by decide +kernel) rfl (x_nc_le (by decide)) ?_
      have q23 : h 45 7 = 52 := by have z := jB (e := 7) 0 hJ rg_45_7_0_1 (by decide) (by decide); omega
      refine x_getR (np := 13) (x := 71) (f := 7) (q := 52) (by decide +kernel) (by decide) (by decide +kernel) q23 ?_
      refine x_iload (np := 14) (x := 1) (by decide +kernel) rfl la1 ?_
      refine x_iload (np := 15) (x := 2) (by decide +kernel) rfl la2 ?_
      refine x_nI (t := 7) (mj := 150) (n := 2) (rc := 0) (ml := 2) (nr := 1) (np := 18) (as := [iv_c a1, iv_c a2]) (rest := [x_r 52]) (lo1 := [iv_c a1, iv_c a2]) (by decide +kernel) (by decide) (by decide +kernel) (Or.inl rfl) rfl rfl (x_wi la1 (x_wi la2 x_wn)) (x_wr (by decide) x_wn) (by decide) rfl ?_
      refine x_iload (np := 1) (x := 0) (by decide +kernel) rfl la1 ?_
      refine x_const (np := 3) (x := 9223372090541867020) (a := 2147483660) (by decide +kernel) (by decide) (by decide) ?_
      obtain ⟨u24, q25⟩ : ∃ z, a1 = 2147483648 + z := ⟨a1 - 2147483648, by omega⟩
      refine x_imul (np := 4) (x := 0) (i := u24) (j := 12) (v := (2147483648 + 12 * u24)) (by decide +kernel) (by omega) (by omega) (by omega) (by omega) la1 (by decide) ?_
      refine x_iload (np := 5) (x := 1) (by decide +kernel) rfl la2 ?_
      refine x_iadd (np := 6) (x := 0) (v := (12 * u24 + a2)) (by decide +kernel) (by omega) la2 (by omega) (by omega) ?_
      refine x_retI (np := 7) (x := 0) (by decide +kernel) (by omega) (Or.inl (by decide +kernel)) ⟨_, rfl, (by omega), ?_⟩
      obtain ⟨u27, q28⟩ : ∃ z, a2 = 2147483648 + z := ⟨a2 - 2147483648, by omega⟩
      refine x_aldC (np := 19) (x := 0) (n := 72) (i := (12 * u24 + u27)) (q := ((h 52 (12 * u24 + u27)))) (by decide +kernel) (by decide +kernel) (by omega) (by omega) (by decide) rfl (fun l29 => ?_)
      refine x_goto (np := 22) (x := 23) (by decide +kernel) ?_
      refine x_retI (np := 24) (x := 0) (by decide +kernel) l29 (Or.inl (by decide +kernel)) ⟨_, rfl, l29, ?_⟩
      refine x_retI (np := 19) (x := 0) (by decide +kernel) l29 (Or.inl (by decide +kernel)) (Or.inl ⟨_, rfl, l29, ?_⟩)
      exact ⟨hJ, hF, (by omega)⟩
    have q11 : ¬ (a2 < 2147483660) := q11
    refine x_thr (np := 13) (x := 2) (by decide +kernel) (by decide +kernel) (Nat.le_trans x_wn (by decide)) (Or.inr ⟨_, rfl, ?_⟩)
    refine Or.inr ⟨_, rfl, ?_⟩
    exact ⟨hJ, hF, by decide⟩
  have q7 : ¬ (a1 < (h (h 0 8) 7)) := q7
  refine x_thr (np := 18) (x := 2) (by decide +kernel) (by decide +kernel) (Nat.le_trans x_wn (by decide)) (Or.inr ⟨_, rfl, ?_⟩)
  refine Or.inr ⟨_, rfl, ?_⟩
  exact ⟨hJ, hF, by decide⟩
set_option maxHeartbeats 0 in
/-- LentNames.row(III)I -/
theorem c113_0 {sc : Nat × Nat} {d a1 a2 a3 : Nat} {h : xh} (hJ : J h) (ba1 : 0 ≤ a1 ∧ a1 ≤ 4294967295) (ba2 : 0 ≤ a2 ∧ a2 ≤ 4294967295) (ba3 : 0 ≤ a3 ∧ a3 ≤ 4294967295) : X sc 113 (d + 2) (xT (fun r h' => J h' ∧ Fr 0 h h' ∧ (0 ≤ r ∧ r ≤ 4294967295)) (fun E h' => J h' ∧ Fr 0 h h' ∧ (E = 2))) 0 0 0 [x_r 0, iv_c a1, iv_c a2, iv_c a3] [] h := by
  have la1 : a1 < 4294967296 := by omega
  have la2 : a2 < 4294967296 := by omega
  have la3 : a3 < 4294967296 := by omega
  have hF := Fr.refl 0 h
  refine x_aload (np := 1) (x := 0) (by decide +kernel) rfl (x_nc_le (by decide)) ?_
  refine x_iload (np := 2) (x := 1) (by decide +kernel) rfl la1 ?_
  refine x_nU (t := 6) (mj := 144) (n := 2) (rc := 11) (ml := 2) (cc := 1) (ss := 6) (nr := 0) (np := 5) (as := [x_r 0, iv_c a1]) (rest := []) (lo1 := [x_r 0, iv_c a1]) (by decide +kernel) (by decide) (by decide +kernel) (by decide +kernel) (x_rb_of (by decide +kernel)) rfl rfl (x_wr (by decide) (x_wi la1 x_wn)) x_wn (by decide) rfl ?_
  refine x_iload (np := 1) (x := 1) (by decide +kernel) rfl la1 ?_
  refine x_ifz (k := 2) (tg := 15) (np := 4) (by decide +kernel) (by decide) la1 (fun q1 => ?_) (fun q2 => ?_)
  · have q1 : a1 < 2147483648 := q1
    refine x_thr (np := 18) (x := 2) (by decide +kernel) (by decide +kernel) (Nat.le_trans x_wn (by decide)) (Or.inr ⟨_, rfl, ?_⟩)
    refine Or.inr ⟨_, rfl, ?_⟩
    exact ⟨hJ, hF, by decide⟩
  have q2 : ¬ (a1 < 2147483648) := q2
  refine x_iload (np := 5) (x := 1) (by decide +kernel) rfl la1 ?_
  refine x_aload (np := 6) (x := 0) (by decide +kernel) rfl (x_nc_le (by decide)) ?_
  have t3 : tw (h 0 8) := hJ.2.1
  refine x_getR (np := 9) (x := 648) (f := 8) (q := (h 0 8)) (by decide +kernel) (by decide) (by decide +kernel) rfl ?_
  have b4 := jB (e := 7) 0 hJ (rg_T0_7_0_1 t3) (by omega) (by omega)
  refine x_getC (np := 12) (x := 519) (f := 7) (q := (h (h 0 8) 7)) (by decide +kernel) (by decide) (tg_0_519_7_0 t3) rfl (fun l5 => ?_)
  refine x_icmp (k := 2) (tg := 26) (np := 15) (by decide +kernel) (by decide) la1 l5 (fun q6 => ?_) (fun q7 => ?_)
  · have q6 : a1 < (h (h 0 8) 7) := q6
    refine x_retV (np := 27) (x := 0) (by decide +kernel) (by decide +kernel) (Or.inl ⟨rfl, ?_⟩)
    refine x_iload (np := 6) (x := 2) (by decide +kernel) rfl la2 ?_
    refine x_nU (t := 0) (mj := 146) (n := 1) (rc := 0) (ml := 1) (cc := 1) (ss := 6) (nr := 0) (np := 9) (as := [iv_c a2]) (rest := []) (lo1 := [iv_c a2]) (by decide +kernel) (by decide) (by decide +kernel) (by decide +kernel) (Or.inl rfl) rfl rfl (x_wi la2 x_wn) x_wn (by decide) rfl ?_
    refine x_iload (np := 1) (x := 0) (by decide +kernel) rfl la2 ?_
    refine x_ifz (k := 2) (tg := 10) (np := 4) (by decide +kernel) (by decide) la2 (fun q8 => ?_) (fun q9 => ?_)
    · have q8 : a2 < 2147483648 := q8
      refine x_thr (np := 13) (x := 2) (by decide +kernel) (by decide +kernel) (Nat.le_trans x_wn (by decide)) (Or.inr ⟨_, rfl, ?_⟩)
      refine Or.inr ⟨_, rfl, ?_⟩
      exact ⟨hJ, hF, by decide⟩
    have q9 : ¬ (a2 < 2147483648) := q9
    refine x_iload (np := 5) (x := 0) (by decide +kernel) rfl la2 ?_
    refine x_const (np := 7) (x := 9223372090541867020) (a := 2147483660) (by decide +kernel) (by decide) (by decide) ?_
    refine x_icmp (k := 2) (tg := 21) (np := 10) (by decide +kernel) (by decide) la2 (by decide) (fun q10 => ?_) (fun q11 => ?_)
    · have q10 : a2 < 2147483660 := q10
      refine x_retV (np := 22) (x := 0) (by decide +kernel) (by decide +kernel) (Or.inl ⟨rfl, ?_⟩)
      refine x_aload (np := 10) (x := 0) (by decide +kernel) rfl (x_nc_le (by decide)) ?_
      have q12 : h 0 1 = 45 := by have z := jB (e := 1) 0 hJ rg_0_1_0_1 (by decide) (by decide); omega
      refine x_getR (np := 13) (x := 641) (f := 1) (q := 45) (by decide +kernel) (by decide) (by decide +kernel) q12 ?_
      refine x_iload (np := 14) (x := 1) (by decide +kernel) rfl la1 ?_
      refine x_iload (np := 15) (x := 2) (by decide +kernel) rfl la2 ?_
      refine x_iload (np := 16) (x := 3) (by decide +kernel) rfl la3 ?_
      refine x_nI (t := 6) (mj := 7) (n := 4) (rc := 2) (ml := 4) (nr := 0) (np := 19) (as := [x_r 45, iv_c a1, iv_c a2, iv_c a3]) (rest := []) (lo1 := [x_r 45, iv_c a1, iv_c a2, iv_c a3]) (by decide +kernel) (by decide) (by decide +kernel) (x_rb_of (by decide +kernel)) rfl rfl (x_wr (by decide) (x_wi la1 (x_wi la2 (x_wi la3 x_wn)))) x_wn (by decide) rfl ?_
      refine x_aload (np := 1) (x := 0) (by decide +kernel) rfl (x_nc_le (by decide)) ?_
      refine x_iload (np := 2) (x := 1) (by decide +kernel) rfl la1 ?_
      refine x_iload (np := 3) (x := 2) (by decide +kernel) rfl la2 ?_
      refine x_nI (t := 6) (mj := 15) (n := 3) (rc := 2) (ml := 3) (nr := 0) (np := 6) (as := [x_r 45, iv_c a1, iv_c a2]) (rest := []) (lo1 := [x_r 45, iv_c a1, iv_c a2]) (by decide +kernel) (by decide) (by decide +kernel) (x_rb_of (by decide +kernel)) rfl rfl (x_wr (by decide) (x_wi la1 (x_wi la2 x_wn))) x_wn (by decide) rfl ?_
      refine x_iload (np := 1) (x := 1) (by decide +kernel) rfl la1 ?_
      refine x_ifz (k := 2) (tg := 24) (np := 4) (by decide +kernel) (by decide) la1 (fun q13 => ?_) (fun q14 => ?_)
      · have q13 : a1 < 2147483648 := q13
        exfalso; omega
      have q14 : ¬ (a1 < 2147483648) := q14
      refine x_iload (np := 5) (x := 1) (by decide +kernel) rfl la1 ?_
      refine x_const (np := 7) (x := 9223372064772063238) (a := 2147483654) (by decide +kernel) (by decide) (by decide) ?_
      refine x_icmp (k := 3) (tg := 24) (np := 10) (by decide +kernel) (by decide) la1 (by decide) (fun q15 => ?_) (fun q16 => ?_)
      · have q15 : 2147483654 ≤ a1 := q15
        exfalso; omega
      have q16 : ¬ (2147483654 ≤ a1) := q16
      refine x_iload (np := 11) (x := 2) (by decide +kernel) rfl la2 ?_
      refine x_ifz (k := 2) (tg := 24) (np := 14) (by decide +kernel) (by decide) la2 (fun q17 => ?_) (fun q18 => ?_)
      · have q17 : a2 < 2147483648 := q17
        exfalso; omega
      have q18 : ¬ (a2 < 2147483648) := q18
      refine x_iload (np := 15) (x := 2) (by decide +kernel) rfl la2 ?_
      refine x_const (np := 17) (x := 9223372090541867020) (a := 2147483660) (by decide +kernel) (by decide) (by decide) ?_
      refine x_icmp (k := 3) (tg := 24) (np := 20) (by decide +kernel) (by decide) la2 (by decide) (fun q19 => ?_) (fun q20 => ?_)
      · have q19 : 2147483660 ≤ a2 := q19
        exfalso; omega
      have q20 : ¬ (2147483660 ≤ a2) := q20
      refine x_const (np := 21) (x := 9223372043297226753) (a := 2147483649) (by decide +kernel) (by decide) (by decide) ?_
      refine x_goto (np := 24) (x := 25) (by decide +kernel) ?_
      refine x_retI (np := 26) (x := 0) (by decide +kernel) (by decide) (Or.inr ⟨by decide +kernel, by omega, by omega⟩) ⟨_, rfl, (by decide), ?_⟩
      refine x_ifz (k := 0) (tg := 19) (np := 9) (by decide +kernel) (by decide) (by decide) (fun q21 => ?_) (fun q22 => ?_)
      · have q21 : 2147483649 = 2147483648 := q21
        exfalso; omega
      have q22 : ¬ (2147483649 = 2147483648) := q22
      refine x_iload (np := 10) (x := 3) (by decide +kernel) rfl la3 ?_
      refine x_ifz (k := 2) (tg := 19) (np := 13) (by decide +kernel) (by decide) la3 (fun q23 => ?_) (fun q24 => ?_)
      · have q23 : a3 < 2147483648 := q23
        refine x_const (np := 20) (x := 9223372034707292159) (a := 2147483647) (by decide +kernel) (by decide) (by decide) ?_
        refine x_retI (np := 21) (x := 0) (by decide +kernel) (by decide) (Or.inl (by decide +kernel)) ⟨_, rfl, (by decide), ?_⟩
        refine x_retI (np := 20) (x := 0) (by decide +kernel) (by decide) (Or.inl (by decide +kernel)) (Or.inl ⟨_, rfl, (by decide), ?_⟩)
        exact ⟨hJ, hF, (by omega)⟩
      have q24 : ¬ (a3 < 2147483648) := q24
      refine x_iload (np := 14) (x := 3) (by decide +kernel) rfl la3 ?_
      refine x_const (np := 16) (x := 9223372129196572693) (a := 2147483669) (by decide +kernel) (by decide) (by decide) ?_
      refine x_icmp (k := 2) (tg := 21) (np := 19) (by decide +kernel) (by decide) la3 (by decide) (fun q25 => ?_) (fun q26 => ?_)
      · have q25 : a3 < 2147483669 := q25
        refine x_aload (np := 22) (x := 0) (by decide +kernel) rfl (x_nc_le (by decide)) ?_
        have q27 : h 45 8 = 53 := by have z := jB (e := 8) 0 hJ rg_45_8_0_1 (by decide) (by decide); omega
        refine x_getR (np := 25) (x := 72) (f := 8) (q := 53) (by decide +kernel) (by decide) (by decide +kernel) q27 ?_
        refine x_iload (np := 26) (x := 1) (by decide +kernel) rfl la1 ?_
        refine x_iload (np := 27) (x := 2) (by decide +kernel) rfl la2 ?_
        refine x_nI (t := 7) (mj := 150) (n := 2) (rc := 0) (ml := 2) (nr := 1) (np := 30) (as := [iv_c a1, iv_c a2]) (rest := [x_r 53]) (lo1 := [iv_c a1, iv_c a2]) (by decide +kernel) (by decide) (by decide +kernel) (Or.inl rfl) rfl rfl (x_wi la1 (x_wi la2 x_wn)) (x_wr (by decide) x_wn) (by decide) rfl ?_
        refine x_iload (np := 1) (x := 0) (by decide +kernel) rfl la1 ?_
        refine x_const (np := 3) (x := 9223372090541867020) (a := 2147483660) (by decide +kernel) (by decide) (by decide) ?_
        obtain ⟨u28, q29⟩ : ∃ z, a1 = 2147483648 + z := ⟨a1 - 2147483648, by omega⟩
        refine x_imul (np := 4) (x := 0) (i := u28) (j := 12) (v := (2147483648 + 12 * u28)) (by decide +kernel) (by omega) (by omega) (by omega) (by omega) la1 (by decide) ?_
        refine x_iload (np := 5) (x := 1) (by decide +kernel) rfl la2 ?_
        refine x_iadd (np := 6) (x := 0) (v := (12 * u28 + a2)) (by decide +kernel) (by omega) la2 (by omega) (by omega) ?_
        refine x_retI (np := 7) (x := 0) (by decide +kernel) (by omega) (Or.inl (by decide +kernel)) ⟨_, rfl, (by omega), ?_⟩
        refine x_const (np := 32) (x := 9223372129196572693) (a := 2147483669) (by decide +kernel) (by decide) (by decide) ?_
        obtain ⟨u31, q32⟩ : ∃ z, a2 = 2147483648 + z := ⟨a2 - 2147483648, by omega⟩
        refine x_imul (np := 33) (x := 0) (i := (12 * u28 + u31)) (j := 21) (v := (2147483648 + 252 * u28 + 21 * u31)) (by decide +kernel) (by omega) (by omega) (by omega) (by omega) (by omega) (by decide) ?_
        refine x_iload (np := 34) (x := 3) (by decide +kernel) rfl la3 ?_
        refine x_iadd (np := 35) (x := 0) (v := (252 * u28 + 21 * u31 + a3)) (by decide +kernel) (by omega) la3 (by omega) (by omega) ?_
        obtain ⟨u34, q35⟩ : ∃ z, a3 = 2147483648 + z := ⟨a3 - 2147483648, by omega⟩
        refine x_aldC (np := 36) (x := 0) (n := 1512) (i := (252 * u28 + 21 * u31 + u34)) (q := ((h 53 (252 * u28 + 21 * u31 + u34)))) (by decide +kernel) (by decide +kernel) (by omega) (by omega) (by decide) rfl (fun l36 => ?_)
        refine x_retI (np := 37) (x := 0) (by decide +kernel) l36 (Or.inl (by decide +kernel)) ⟨_, rfl, l36, ?_⟩
        refine x_retI (np := 20) (x := 0) (by decide +kernel) l36 (Or.inl (by decide +kernel)) (Or.inl ⟨_, rfl, l36, ?_⟩)
        exact ⟨hJ, hF, (by omega)⟩
      have q26 : ¬ (a3 < 2147483669) := q26
      refine x_const (np := 20) (x := 9223372034707292159) (a := 2147483647) (by decide +kernel) (by decide) (by decide) ?_
      refine x_retI (np := 21) (x := 0) (by decide +kernel) (by decide) (Or.inl (by decide +kernel)) ⟨_, rfl, (by decide), ?_⟩
      refine x_retI (np := 20) (x := 0) (by decide +kernel) (by decide) (Or.inl (by decide +kernel)) (Or.inl ⟨_, rfl, (by decide), ?_⟩)
      exact ⟨hJ, hF, (by omega)⟩
    have q11 : ¬ (a2 < 2147483660) := q11
    refine x_thr (np := 13) (x := 2) (by decide +kernel) (by decide +kernel) (Nat.le_trans x_wn (by decide)) (Or.inr ⟨_, rfl, ?_⟩)
    refine Or.inr ⟨_, rfl, ?_⟩
    exact ⟨hJ, hF, by decide⟩
  have q7 : ¬ (a1 < (h (h 0 8) 7)) := q7
  refine x_thr (np := 18) (x := 2) (by decide +kernel) (by decide +kernel) (Nat.le_trans x_wn (by decide)) (Or.inr ⟨_, rfl, ?_⟩)
  refine Or.inr ⟨_, rfl, ?_⟩
  exact ⟨hJ, hF, by decide⟩
set_option maxHeartbeats 0 in
/-- LentNames$Calendar.namelessDays(I)I -/
theorem c9_45 {sc : Nat × Nat} {d a1 : Nat} {h : xh} (hJ : J h) (ba1 : 2147483648 ≤ a1 ∧ a1 ≤ 2147483653) : X sc 9 (d + 1) (xI fun r h' => h' = h ∧ (0 ≤ r ∧ r ≤ 4294967295)) 0 0 0 [x_r 45, iv_c a1, 147573952589676412928, 147573952589676412928] [] h := by
  have la1 : a1 < 4294967296 := by omega
  refine x_aload (np := 1) (x := 0) (by decide +kernel) rfl (x_nc_le (by decide)) ?_
  have q1 : h 45 0 = 46 := by have z := jB (e := 0) 0 hJ rg_45_0_0_1 (by decide) (by decide); omega
  refine x_getR (np := 4) (x := 64) (f := 0) (q := 46) (by decide +kernel) (by decide) (by decide +kernel) q1 ?_
  refine x_iload (np := 5) (x := 1) (by decide +kernel) rfl la1 ?_
  obtain ⟨u2, q3⟩ : ∃ z, a1 = 2147483648 + z := ⟨a1 - 2147483648, by omega⟩
  refine x_aldC (np := 6) (x := 0) (n := 6) (i := u2) (q := (h 46 u2)) (by decide +kernel) (by decide +kernel) (by omega) (by omega) (by decide) rfl (fun l4 => ?_)
  refine x_istore (np := 7) (x := 2) (lo' := [x_r 45, iv_c a1, iv_c (h 46 u2), 147573952589676412928]) (by decide +kernel) l4 (Nat.le_of_ble_eq_true rfl) rfl ?_
  refine x_const (np := 8) (x := 9223372039002259456) (a := 2147483648) (by decide +kernel) (by decide) (by decide) ?_
  refine x_istore (np := 9) (x := 3) (lo' := [x_r 45, iv_c a1, iv_c (h 46 u2), iv_c 2147483648]) (by decide +kernel) (by decide) (Nat.le_of_ble_eq_true rfl) rfl ?_
  have p117 : ∀ (n : Nat) (v113 : Nat) (v115 : Nat), 4294967296 - v115 < n → (0 ≤ v113 ∧ v113 ≤ 4294967295) → (2147483648 ≤ v115 ∧ v115 ≤ 2147483654) → X sc 9 (d + 1) (xI fun r h' => h' = h ∧ (0 ≤ r ∧ r ≤ 4294967295)) 0 0 9 [x_r 45, iv_c a1, iv_c v113, iv_c v115] [] h := by
    intro n
    induction n with
    | zero => intro v113 v115 q118; exact absurd q118 (Nat.not_lt_zero _)
    | succ n i119 =>
      intro v113 v115 q118 b114 b116
      refine x_iload (np := 10) (x := 3) (by decide +kernel) rfl (by omega) ?_
      refine x_aload (np := 11) (x := 0) (by decide +kernel) rfl (x_nc_le (by decide)) ?_
      have t120 : tw (h 45 5) := hJ.2.2.2.1
      refine x_getR (np := 14) (x := 69) (f := 5) (q := (h 45 5)) (by decide +kernel) (by decide) (by decide +kernel) rfl ?_
      have b121 := jB (e := 7) 0 hJ (rg_T0_7_0_1 t120) (by omega) (by omega)
      refine x_getC (np := 17) (x := 519) (f := 7) (q := (h (h 45 5) 7)) (by decide +kernel) (by decide) (tg_0_519_7_0 t120) rfl (fun l122 => ?_)
      refine x_icmp (k := 3) (tg := 41) (np := 20) (by decide +kernel) (by decide) (by omega) l122 (fun q123 => ?_) (fun q124 => ?_)
      · have q123 : (h (h 45 5) 7) ≤ v115 := q123
        refine x_iload (np := 42) (x := 2) (by decide +kernel) rfl (by omega) ?_
        refine x_retI (np := 43) (x := 0) (by decide +kernel) (by omega) (Or.inl (by decide +kernel)) ⟨_, rfl, (by omega), ?_⟩
        exact ⟨rfl, (by omega)⟩
      have q124 : ¬ ((h (h 45 5) 7) ≤ v115) := q124
      refine x_iload (np := 21) (x := 2) (by decide +kernel) rfl (by omega) ?_
      refine x_aload (np := 22) (x := 0) (by decide +kernel) rfl (x_nc_le (by decide)) ?_
      have q125 : h 45 1 = 47 := by have z := jB (e := 1) 0 hJ rg_45_1_0_1 (by decide) (by decide); omega
      refine x_getR (np := 25) (x := 65) (f := 1) (q := 47) (by decide +kernel) (by decide) (by decide +kernel) q125 ?_
      refine x_iload (np := 26) (x := 3) (by decide +kernel) rfl (by omega) ?_
      refine x_iload (np := 27) (x := 1) (by decide +kernel) rfl la1 ?_
      refine x_nI (t := 7) (mj := 149) (n := 2) (rc := 0) (ml := 2) (nr := 2) (np := 30) (as := [iv_c v115, iv_c a1]) (rest := [x_r 47, iv_c v113]) (lo1 := [iv_c v115, iv_c a1]) (by decide +kernel) (by decide) (by decide +kernel) (Or.inl rfl) rfl rfl (x_wi (by omega) (x_wi la1 x_wn)) (x_wr (by decide) (x_wi (by omega) x_wn)) (by decide) rfl ?_
      refine x_iload (np := 1) (x := 0) (by decide +kernel) rfl (by omega) ?_
      refine x_const (np := 3) (x := 9223372064772063238) (a := 2147483654) (by decide +kernel) (by decide) (by decide) ?_
      obtain ⟨u126, q127⟩ : ∃ z, v115 = 2147483648 + z := ⟨v115 - 2147483648, by omega⟩
      refine x_imul (np := 4) (x := 0) (i := u126) (j := 6) (v := (2147483648 + 6 * u126)) (by decide +kernel) (by omega) (by omega) (by omega) (by omega) (by omega) (by decide) ?_
      refine x_iload (np := 5) (x := 1) (by decide +kernel) rfl la1 ?_
      refine x_iadd (np := 6) (x := 0) (v := (6 * u126 + a1)) (by decide +kernel) (by omega) la1 (by omega) (by omega) ?_
      refine x_retI (np := 7) (x := 0) (by decide +kernel) (by omega) (Or.inl (by decide +kernel)) ⟨_, rfl, (by omega), ?_⟩
      refine x_aldC (np := 31) (x := 0) (n := 36) (i := (6 * u126 + u2)) (q := ((h 47 (6 * u126 + u2)))) (by decide +kernel) (by decide +kernel) (by omega) (by omega) (by decide) rfl (fun l129 => ?_)
      refine x_const (np := 32) (x := 9223372034707292159) (a := 2147483647) (by decide +kernel) (by decide) (by decide) ?_
      refine x_any (np := 33) (k9 := 2) (by decide +kernel) (by decide) l129 (by decide) (fun v130 l131 => ?_)
      refine x_any (np := 34) (k9 := 0) (by decide +kernel) (by decide) (by omega) l131 (fun v132 l133 => ?_)
      refine x_istore (np := 35) (x := 2) (lo' := [x_r 45, iv_c a1, iv_c v132, iv_c v115]) (by decide +kernel) l133 (Nat.le_of_ble_eq_true rfl) rfl ?_
      refine x_iinc (np := 38) (i := 3) (j := 2147483649) (v := (1 + v115)) (lo' := [x_r 45, iv_c a1, iv_c v132, iv_c (1 + v115)]) (by decide +kernel) (by decide) (by decide) rfl (by omega) (by omega) (by omega) rfl ?_
      refine x_goto (np := 41) (x := 9) (by decide +kernel) ?_
      exact i119 v132 (1 + v115) (by omega) (by omega) (by omega)
  exact p117 _ (h 46 u2) 2147483648 (Nat.lt_succ_self _) (by omega) (by omega)
set_option maxHeartbeats 0 in
/-- LentNames.nameless(I)I -/
theorem c114_0 {sc : Nat × Nat} {d a1 : Nat} {h : xh} (hJ : J h) (ba1 : 0 ≤ a1 ∧ a1 ≤ 4294967295) : X sc 114 (d + 2) (xT (fun r h' => J h' ∧ Fr 0 h h' ∧ (0 ≤ r ∧ r ≤ 4294967295)) (fun E h' => J h' ∧ Fr 0 h h' ∧ (E = 2))) 0 0 0 [x_r 0, iv_c a1] [] h := by
  have la1 : a1 < 4294967296 := by omega
  have hF := Fr.refl 0 h
  refine x_aload (np := 1) (x := 0) (by decide +kernel) rfl (x_nc_le (by decide)) ?_
  refine x_iload (np := 2) (x := 1) (by decide +kernel) rfl la1 ?_
  refine x_nU (t := 6) (mj := 145) (n := 2) (rc := 11) (ml := 2) (cc := 1) (ss := 6) (nr := 0) (np := 5) (as := [x_r 0, iv_c a1]) (rest := []) (lo1 := [x_r 0, iv_c a1]) (by decide +kernel) (by decide) (by decide +kernel) (by decide +kernel) (x_rb_of (by decide +kernel)) rfl rfl (x_wr (by decide) (x_wi la1 x_wn)) x_wn (by decide) rfl ?_
  refine x_iload (np := 1) (x := 1) (by decide +kernel) rfl la1 ?_
  refine x_ifz (k := 2) (tg := 15) (np := 4) (by decide +kernel) (by decide) la1 (fun q1 => ?_) (fun q2 => ?_)
  · have q1 : a1 < 2147483648 := q1
    refine x_thr (np := 18) (x := 2) (by decide +kernel) (by decide +kernel) (Nat.le_trans x_wn (by decide)) (Or.inr ⟨_, rfl, ?_⟩)
    refine Or.inr ⟨_, rfl, ?_⟩
    exact ⟨hJ, hF, by decide⟩
  have q2 : ¬ (a1 < 2147483648) := q2
  refine x_iload (np := 5) (x := 1) (by decide +kernel) rfl la1 ?_
  refine x_aload (np := 6) (x := 0) (by decide +kernel) rfl (x_nc_le (by decide)) ?_
  have t3 : tw (h 0 8) := hJ.2.1
  refine x_getR (np := 9) (x := 648) (f := 8) (q := (h 0 8)) (by decide +kernel) (by decide) (by decide +kernel) rfl ?_
  have b4 := jB (e := 7) 0 hJ (rg_T0_7_0_1 t3) (by omega) (by omega)
  refine x_getC (np := 12) (x := 519) (f := 7) (q := (h (h 0 8) 7)) (by decide +kernel) (by decide) (tg_0_519_7_0 t3) rfl (fun l5 => ?_)
  refine x_icmp (k := 2) (tg := 26) (np := 15) (by decide +kernel) (by decide) la1 l5 (fun q6 => ?_) (fun q7 => ?_)
  · have q6 : a1 < (h (h 0 8) 7) := q6
    refine x_retV (np := 27) (x := 0) (by decide +kernel) (by decide +kernel) (Or.inl ⟨rfl, ?_⟩)
    refine x_aload (np := 6) (x := 0) (by decide +kernel) rfl (x_nc_le (by decide)) ?_
    have q8 : h 0 1 = 45 := by have z := jB (e := 1) 0 hJ rg_0_1_0_1 (by decide) (by decide); omega
    refine x_getR (np := 9) (x := 641) (f := 1) (q := 45) (by decide +kernel) (by decide) (by decide +kernel) q8 ?_
    refine x_iload (np := 10) (x := 1) (by decide +kernel) rfl la1 ?_
    refine x_cP (t := 6) (mj := 9) (n := 2) (rc := 2) (ml := 4) (nr := 0) (np := 13) (as := [x_r 45, iv_c a1]) (rest := []) (lo1 := [x_r 45, iv_c a1, 147573952589676412928, 147573952589676412928]) (by decide +kernel) (by decide) (by decide +kernel) (x_rb_of (by decide +kernel)) rfl rfl (x_wr (by decide) (x_wi la1 x_wn)) x_wn (by decide) rfl (c9_45 hJ  (by omega)) (fun v9 l10 q11 => ?_)
    refine x_retI (np := 14) (x := 0) (by decide +kernel) l10 (Or.inl (by decide +kernel)) (Or.inl ⟨_, rfl, l10, ?_⟩)
    exact ⟨hJ, hF, (by omega)⟩
  have q7 : ¬ (a1 < (h (h 0 8) 7)) := q7
  refine x_thr (np := 18) (x := 2) (by decide +kernel) (by decide +kernel) (Nat.le_trans x_wn (by decide)) (Or.inr ⟨_, rfl, ?_⟩)
  refine Or.inr ⟨_, rfl, ?_⟩
  exact ⟨hJ, hF, by decide⟩
set_option maxHeartbeats 0 in
/-- LentNames.longest(I)I -/
theorem c115_0 {sc : Nat × Nat} {d a1 : Nat} {h : xh} (hJ : J h) (ba1 : 0 ≤ a1 ∧ a1 ≤ 4294967295) : X sc 115 (d + 2) (xT (fun r h' => J h' ∧ Fr 0 h h' ∧ (2147483648 ≤ r ∧ r ≤ 2147483660)) (fun E h' => J h' ∧ Fr 0 h h' ∧ (E = 2))) 0 0 0 [x_r 0, iv_c a1, 147573952589676412928, 147573952589676412928, 147573952589676412928] [] h := by
  have la1 : a1 < 4294967296 := by omega
  have hF := Fr.refl 0 h
  refine x_aload (np := 1) (x := 0) (by decide +kernel) rfl (x_nc_le (by decide)) ?_
  refine x_iload (np := 2) (x := 1) (by decide +kernel) rfl la1 ?_
  refine x_nU (t := 6) (mj := 145) (n := 2) (rc := 11) (ml := 2) (cc := 1) (ss := 6) (nr := 0) (np := 5) (as := [x_r 0, iv_c a1]) (rest := []) (lo1 := [x_r 0, iv_c a1]) (by decide +kernel) (by decide) (by decide +kernel) (by decide +kernel) (x_rb_of (by decide +kernel)) rfl rfl (x_wr (by decide) (x_wi la1 x_wn)) x_wn (by decide) rfl ?_
  refine x_iload (np := 1) (x := 1) (by decide +kernel) rfl la1 ?_
  refine x_ifz (k := 2) (tg := 15) (np := 4) (by decide +kernel) (by decide) la1 (fun q1 => ?_) (fun q2 => ?_)
  · have q1 : a1 < 2147483648 := q1
    refine x_thr (np := 18) (x := 2) (by decide +kernel) (by decide +kernel) (Nat.le_trans x_wn (by decide)) (Or.inr ⟨_, rfl, ?_⟩)
    refine Or.inr ⟨_, rfl, ?_⟩
    exact ⟨hJ, hF, by decide⟩
  have q2 : ¬ (a1 < 2147483648) := q2
  refine x_iload (np := 5) (x := 1) (by decide +kernel) rfl la1 ?_
  refine x_aload (np := 6) (x := 0) (by decide +kernel) rfl (x_nc_le (by decide)) ?_
  have t3 : tw (h 0 8) := hJ.2.1
  refine x_getR (np := 9) (x := 648) (f := 8) (q := (h 0 8)) (by decide +kernel) (by decide) (by decide +kernel) rfl ?_
  have b4 := jB (e := 7) 0 hJ (rg_T0_7_0_1 t3) (by omega) (by omega)
  refine x_getC (np := 12) (x := 519) (f := 7) (q := (h (h 0 8) 7)) (by decide +kernel) (by decide) (tg_0_519_7_0 t3) rfl (fun l5 => ?_)
  refine x_icmp (k := 2) (tg := 26) (np := 15) (by decide +kernel) (by decide) la1 l5 (fun q6 => ?_) (fun q7 => ?_)
  · have q6 : a1 < (h (h 0 8) 7) := q6
    refine x_retV (np := 27) (x := 0) (by decide +kernel) (by decide +kernel) (Or.inl ⟨rfl, ?_⟩)
    refine x_aload (np := 6) (x := 0) (by decide +kernel) rfl (x_nc_le (by decide)) ?_
    have q8 : h 0 1 = 45 := by have z := jB (e := 1) 0 hJ rg_0_1_0_1 (by decide) (by decide); omega
    refine x_getR (np := 9) (x := 641) (f := 1) (q := 45) (by decide +kernel) (by decide) (by decide +kernel) q8 ?_
    refine x_iload (np := 10) (x := 1) (by decide +kernel) rfl la1 ?_
    refine x_cP (t := 6) (mj := 9) (n := 2) (rc := 2) (ml := 4) (nr := 0) (np := 13) (as := [x_r 45, iv_c a1]) (rest := []) (lo1 := [x_r 45, iv_c a1, 147573952589676412928, 147573952589676412928]) (by decide +kernel) (by decide) (by decide +kernel) (x_rb_of (by decide +kernel)) rfl rfl (x_wr (by decide) (x_wi la1 x_wn)) x_wn (by decide) rfl (c9_45 hJ  (by omega)) (fun v9 l10 q11 => ?_)
    refine x_istore (np := 14) (x := 2) (lo' := [x_r 0, iv_c a1, iv_c v9, 147573952589676412928, 147573952589676412928]) (by decide +kernel) l10 (Nat.le_of_ble_eq_true rfl) rfl ?_
    refine x_const (np := 15) (x := 9223372039002259456) (a := 2147483648) (by decide +kernel) (by decide) (by decide) ?_
    refine x_istore (np := 16) (x := 3) (lo' := [x_r 0, iv_c a1, iv_c v9, iv_c 2147483648, 147573952589676412928]) (by decide +kernel) (by decide) (Nat.le_of_ble_eq_true rfl) rfl ?_
    refine x_const (np := 17) (x := 9223372043297226753) (a := 2147483649) (by decide +kernel) (by decide) (by decide) ?_
    refine x_istore (np := 19) (x := 4) (lo' := [x_r 0, iv_c a1, iv_c v9, iv_c 2147483648, iv_c 2147483649]) (by decide +kernel) (by decide) (Nat.le_of_ble_eq_true rfl) rfl ?_
    have p172 : ∀ (n : Nat) (v166 : Nat) (v168 : Nat) (v170 : Nat), 4294967296 - v170 < n → (0 ≤ v166 ∧ v166 ≤ 4294967295) → (2147483648 ≤ v168 ∧ v168 ≤ 2147483660) → (2147483649 ≤ v170 ∧ v170 ≤ 2147483661) → X sc 115 (d + 2) (xT (fun r h' => J h' ∧ Fr 0 h h' ∧ (2147483648 ≤ r ∧ r ≤ 2147483660)) (fun E h' => J h' ∧ Fr 0 h h' ∧ (E = 2))) 1 6 19 [x_r 0, iv_c a1, iv_c v166, iv_c v168, iv_c v170] [] h := by
      intro n
      induction n with
      | zero => intro v166 v168 v170 q173; exact absurd q173 (Nat.not_lt_zero _)
      | succ n i174 =>
        intro v166 v168 v170 q173 b167 b169 b171
        refine x_iload (np := 21) (x := 4) (by decide +kernel) rfl (by omega) ?_
        refine x_const (np := 23) (x := 9223372090541867020) (a := 2147483660) (by decide +kernel) (by decide) (by decide) ?_
        refine x_icmp (k := 4) (tg := 44) (np := 26) (by decide +kernel) (by decide) (by omega) (by decide) (fun q175 => ?_) (fun q176 => ?_)
        · have q175 : 2147483660 < v170 := q175
          refine x_iload (np := 45) (x := 3) (by decide +kernel) rfl (by omega) ?_
          refine x_retI (np := 46) (x := 0) (by decide +kernel) (by omega) (Or.inl (by decide +kernel)) (Or.inl ⟨_, rfl, (by omega), ?_⟩)
          exact ⟨hJ, hF, (by omega)⟩
        have q176 : ¬ (2147483660 < v170) := q176
        refine x_iload (np := 27) (x := 2) (by decide +kernel) rfl (by omega) ?_
        refine x_ifz (k := 0) (tg := 44) (np := 30) (by decide +kernel) (by decide) (by omega) (fun q177 => ?_) (fun q178 => ?_)
        · have q177 : v166 = 2147483648 := q177
          refine x_iload (np := 45) (x := 3) (by decide +kernel) rfl (by omega) ?_
          refine x_retI (np := 46) (x := 0) (by decide +kernel) (by omega) (Or.inl (by decide +kernel)) (Or.inl ⟨_, rfl, (by omega), ?_⟩)
          exact ⟨hJ, hF, (by omega)⟩
        have q178 : ¬ (v166 = 2147483648) := q178
        refine x_iload (np := 32) (x := 4) (by decide +kernel) rfl (by omega) ?_
        refine x_istore (np := 33) (x := 3) (lo' := [x_r 0, iv_c a1, iv_c v166, iv_c v170, iv_c v170]) (by decide +kernel) (by omega) (Nat.le_of_ble_eq_true rfl) rfl ?_
        refine x_iload (np := 34) (x := 2) (by decide +kernel) rfl (by omega) ?_
        refine x_nI (t := 0) (mj := 151) (n := 1) (rc := 0) (ml := 1) (nr := 0) (np := 37) (as := [iv_c v166]) (rest := []) (lo1 := [iv_c v166]) (by decide +kernel) (by decide) (by decide +kernel) (Or.inl rfl) rfl rfl (x_wi (by omega) x_wn) x_wn (by decide) rfl ?_
        refine x_iload (np := 1) (x := 0) (by decide +kernel) rfl (by omega) ?_
        refine x_iload (np := 2) (x := 0) (by decide +kernel) rfl (by omega) ?_
        refine x_const (np := 3) (x := 9223372043297226753) (a := 2147483649) (by decide +kernel) (by decide) (by decide) ?_
        refine x_any (np := 4) (k9 := 3) (by decide +kernel) (by decide) (by omega) (by decide) (fun v179 l180 => ?_)
        refine x_any (np := 5) (k9 := 0) (by decide +kernel) (by decide) (by omega) l180 (fun v181 l182 => ?_)
        refine x_retI (np := 6) (x := 0) (by decide +kernel) l182 (Or.inl (by decide +kernel)) ⟨_, rfl, l182, ?_⟩
        refine x_istore (np := 38) (x := 2) (lo' := [x_r 0, iv_c a1, iv_c v181, iv_c v170, iv_c v170]) (by decide +kernel) l182 (Nat.le_of_ble_eq_true rfl) rfl ?_
        refine x_iinc (np := 41) (i := 4) (j := 2147483649) (v := (1 + v170)) (lo' := [x_r 0, iv_c a1, iv_c v181, iv_c v170, iv_c (1 + v170)]) (by decide +kernel) (by decide) (by decide) rfl (by omega) (by omega) (by omega) rfl ?_
        refine x_goto (np := 44) (x := 19) (by decide +kernel) ?_
        exact i174 v181 v170 (1 + v170) (by omega) (by omega) (by omega) (by omega)
    exact p172 _ v9 2147483648 2147483649 (Nat.lt_succ_self _) (by omega) (by omega) (by omega)
  have q7 : ¬ (a1 < (h (h 0 8) 7)) := q7
  refine x_thr (np := 18) (x := 2) (by decide +kernel) (by decide +kernel) (Nat.le_trans x_wn (by decide)) (Or.inr ⟨_, rfl, ?_⟩)
  refine Or.inr ⟨_, rfl, ?_⟩
  exact ⟨hJ, hF, by decide⟩
set_option maxHeartbeats 0 in
/-- LentNames.lives(II)Z -/
theorem c116_0 {sc : Nat × Nat} {d a1 a2 : Nat} {h : xh} (hJ : J h) (ba1 : 0 ≤ a1 ∧ a1 ≤ 4294967295) (ba2 : 0 ≤ a2 ∧ a2 ≤ 4294967295) : X sc 116 (d + 1) (xT (fun r h' => J h' ∧ Fr 0 h h' ∧ (2147483648 ≤ r ∧ r ≤ 2147483649)) (fun E h' => J h' ∧ Fr 0 h h' ∧ (E = 2))) 0 0 0 [x_r 0, iv_c a1, iv_c a2] [] h := by
  have la1 : a1 < 4294967296 := by omega
  have la2 : a2 < 4294967296 := by omega
  have hF := Fr.refl 0 h
  refine x_aload (np := 1) (x := 0) (by decide +kernel) rfl (x_nc_le (by decide)) ?_
  refine x_iload (np := 2) (x := 1) (by decide +kernel) rfl la1 ?_
  refine x_nU (t := 6) (mj := 145) (n := 2) (rc := 11) (ml := 2) (cc := 1) (ss := 6) (nr := 0) (np := 5) (as := [x_r 0, iv_c a1]) (rest := []) (lo1 := [x_r 0, iv_c a1]) (by decide +kernel) (by decide) (by decide +kernel) (by decide +kernel) (x_rb_of (by decide +kernel)) rfl rfl (x_wr (by decide) (x_wi la1 x_wn)) x_wn (by decide) rfl ?_
  refine x_iload (np := 1) (x := 1) (by decide +kernel) rfl la1 ?_
  refine x_ifz (k := 2) (tg := 15) (np := 4) (by decide +kernel) (by decide) la1 (fun q1 => ?_) (fun q2 => ?_)
  · have q1 : a1 < 2147483648 := q1
    refine x_thr (np := 18) (x := 2) (by decide +kernel) (by decide +kernel) (Nat.le_trans x_wn (by decide)) (Or.inr ⟨_, rfl, ?_⟩)
    refine Or.inr ⟨_, rfl, ?_⟩
    exact ⟨hJ, hF, by decide⟩
  have q2 : ¬ (a1 < 2147483648) := q2
  refine x_iload (np := 5) (x := 1) (by decide +kernel) rfl la1 ?_
  refine x_aload (np := 6) (x := 0) (by decide +kernel) rfl (x_nc_le (by decide)) ?_
  have t3 : tw (h 0 8) := hJ.2.1
  refine x_getR (np := 9) (x := 648) (f := 8) (q := (h 0 8)) (by decide +kernel) (by decide) (by decide +kernel) rfl ?_
  have b4 := jB (e := 7) 0 hJ (rg_T0_7_0_1 t3) (by omega) (by omega)
  refine x_getC (np := 12) (x := 519) (f := 7) (q := (h (h 0 8) 7)) (by decide +kernel) (by decide) (tg_0_519_7_0 t3) rfl (fun l5 => ?_)
  refine x_icmp (k := 2) (tg := 26) (np := 15) (by decide +kernel) (by decide) la1 l5 (fun q6 => ?_) (fun q7 => ?_)
  · have q6 : a1 < (h (h 0 8) 7) := q6
    refine x_retV (np := 27) (x := 0) (by decide +kernel) (by decide +kernel) (Or.inl ⟨rfl, ?_⟩)
    refine x_iload (np := 6) (x := 2) (by decide +kernel) rfl la2 ?_
    refine x_nU (t := 0) (mj := 146) (n := 1) (rc := 0) (ml := 1) (cc := 1) (ss := 6) (nr := 0) (np := 9) (as := [iv_c a2]) (rest := []) (lo1 := [iv_c a2]) (by decide +kernel) (by decide) (by decide +kernel) (by decide +kernel) (Or.inl rfl) rfl rfl (x_wi la2 x_wn) x_wn (by decide) rfl ?_
    refine x_iload (np := 1) (x := 0) (by decide +kernel) rfl la2 ?_
    refine x_ifz (k := 2) (tg := 10) (np := 4) (by decide +kernel) (by decide) la2 (fun q8 => ?_) (fun q9 => ?_)
    · have q8 : a2 < 2147483648 := q8
      refine x_thr (np := 13) (x := 2) (by decide +kernel) (by decide +kernel) (Nat.le_trans x_wn (by decide)) (Or.inr ⟨_, rfl, ?_⟩)
      refine Or.inr ⟨_, rfl, ?_⟩
      exact ⟨hJ, hF, by decide⟩
    have q9 : ¬ (a2 < 2147483648) := q9
    refine x_iload (np := 5) (x := 0) (by decide +kernel) rfl la2 ?_
    refine x_const (np := 7) (x := 9223372090541867020) (a := 2147483660) (by decide +kernel) (by decide) (by decide) ?_
    refine x_icmp (k := 2) (tg := 21) (np := 10) (by decide +kernel) (by decide) la2 (by decide) (fun q10 => ?_) (fun q11 => ?_)
    · have q10 : a2 < 2147483660 := q10
      refine x_retV (np := 22) (x := 0) (by decide +kernel) (by decide +kernel) (Or.inl ⟨rfl, ?_⟩)
      refine x_aload (np := 10) (x := 0) (by decide +kernel) rfl (x_nc_le (by decide)) ?_
      have q12 : h 0 1 = 45 := by have z := jB (e := 1) 0 hJ rg_0_1_0_1 (by decide) (by decide); omega
      refine x_getR (np := 13) (x := 641) (f := 1) (q := 45) (by decide +kernel) (by decide) (by decide +kernel) q12 ?_
      have q13 : h 45 0 = 46 := by have z := jB (e := 0) 0 hJ rg_45_0_0_1 (by decide) (by decide); omega
      refine x_getR (np := 16) (x := 64) (f := 0) (q := 46) (by decide +kernel) (by decide) (by decide +kernel) q13 ?_
      refine x_iload (np := 17) (x := 1) (by decide +kernel) rfl la1 ?_
      obtain ⟨u14, q15⟩ : ∃ z, a1 = 2147483648 + z := ⟨a1 - 2147483648, by omega⟩
      refine x_aldC (np := 18) (x := 0) (n := 6) (i := u14) (q := (h 46 u14)) (by decide +kernel) (by decide +kernel) (by omega) (by omega) (by decide) rfl (fun l16 => ?_)
      refine x_iload (np := 19) (x := 2) (by decide +kernel) rfl la2 ?_
      refine x_cP (t := 0) (mj := 148) (n := 2) (rc := 0) (ml := 2) (nr := 0) (np := 22) (as := [iv_c (h 46 u14), iv_c a2]) (rest := []) (lo1 := [iv_c (h 46 u14), iv_c a2]) (by decide +kernel) (by decide) (by decide +kernel) (Or.inl rfl) rfl rfl (x_wi l16 (x_wi la2 x_wn)) x_wn (by decide) rfl (c148 hJ (by omega) (by omega)) (fun v17 l18 q19 => ?_)
      refine x_retI (np := 23) (x := 0) (by decide +kernel) l18 (Or.inr ⟨by decide +kernel, by omega, by omega⟩) (Or.inl ⟨_, rfl, l18, ?_⟩)
      exact ⟨hJ, hF, (by omega)⟩
    have q11 : ¬ (a2 < 2147483660) := q11
    refine x_thr (np := 13) (x := 2) (by decide +kernel) (by decide +kernel) (Nat.le_trans x_wn (by decide)) (Or.inr ⟨_, rfl, ?_⟩)
    refine Or.inr ⟨_, rfl, ?_⟩
    exact ⟨hJ, hF, by decide⟩
  have q7 : ¬ (a1 < (h (h 0 8) 7)) := q7
  refine x_thr (np := 18) (x := 2) (by decide +kernel) (by decide +kernel) (Nat.le_trans x_wn (by decide)) (Or.inr ⟨_, rfl, ?_⟩)
  refine Or.inr ⟨_, rfl, ?_⟩
  exact ⟨hJ, hF, by decide⟩
set_option maxHeartbeats 0 in
/-- LentNames.rich(I)I -/
theorem c117_0 {sc : Nat × Nat} {d a1 : Nat} {h : xh} (hJ : J h) (ba1 : 0 ≤ a1 ∧ a1 ≤ 4294967295) : X sc 117 (d + 3) (xT (fun r h' => J h' ∧ Fr 0 h h' ∧ (0 ≤ r ∧ r ≤ 4294967295)) (fun E h' => J h' ∧ Fr 0 h h' ∧ (E = 2))) 0 0 0 [x_r 0, iv_c a1, 147573952589676412928, 147573952589676412928] [] h := by
  have la1 : a1 < 4294967296 := by omega
  have hF := Fr.refl 0 h
  refine x_iload (np := 1) (x := 1) (by decide +kernel) rfl la1 ?_
  refine x_nU (t := 0) (mj := 146) (n := 1) (rc := 0) (ml := 1) (cc := 1) (ss := 6) (nr := 0) (np := 4) (as := [iv_c a1]) (rest := []) (lo1 := [iv_c a1]) (by decide +kernel) (by decide) (by decide +kernel) (by decide +kernel) (Or.inl rfl) rfl rfl (x_wi la1 x_wn) x_wn (by decide) rfl ?_
  refine x_iload (np := 1) (x := 0) (by decide +kernel) rfl la1 ?_
  refine x_ifz (k := 2) (tg := 10) (np := 4) (by decide +kernel) (by decide) la1 (fun q1 => ?_) (fun q2 => ?_)
  · have q1 : a1 < 2147483648 := q1
    refine x_thr (np := 13) (x := 2) (by decide +kernel) (by decide +kernel) (Nat.le_trans x_wn (by decide)) (Or.inr ⟨_, rfl, ?_⟩)
    refine Or.inr ⟨_, rfl, ?_⟩
    exact ⟨hJ, hF, by decide⟩
  have q2 : ¬ (a1 < 2147483648) := q2
  refine x_iload (np := 5) (x := 0) (by decide +kernel) rfl la1 ?_
  refine x_const (np := 7) (x := 9223372090541867020) (a := 2147483660) (by decide +kernel) (by decide) (by decide) ?_
  refine x_icmp (k := 2) (tg := 21) (np := 10) (by decide +kernel) (by decide) la1 (by decide) (fun q3 => ?_) (fun q4 => ?_)
  · have q3 : a1 < 2147483660 := q3
    refine x_retV (np := 22) (x := 0) (by decide +kernel) (by decide +kernel) (Or.inl ⟨rfl, ?_⟩)
    refine x_const (np := 5) (x := 9223372039002259456) (a := 2147483648) (by decide +kernel) (by decide) (by decide) ?_
    refine x_istore (np := 6) (x := 2) (lo' := [x_r 0, iv_c a1, iv_c 2147483648, 147573952589676412928]) (by decide +kernel) (by decide) (Nat.le_of_ble_eq_true rfl) rfl ?_
    refine x_const (np := 7) (x := 9223372039002259456) (a := 2147483648) (by decide +kernel) (by decide) (by decide) ?_
    refine x_istore (np := 8) (x := 3) (lo' := [x_r 0, iv_c a1, iv_c 2147483648, iv_c 2147483648]) (by decide +kernel) (by decide) (Nat.le_of_ble_eq_true rfl) rfl ?_
    have p303 : ∀ (n : Nat) (v299 : Nat) (v301 : Nat), 4294967296 - v301 < n → (0 ≤ v299 ∧ v299 ≤ 4294967295) → (2147483648 ≤ v301 ∧ v301 ≤ 2147483654) → X sc 117 (d + 3) (xT (fun r h' => J h' ∧ Fr 0 h h' ∧ (0 ≤ r ∧ r ≤ 4294967295)) (fun E h' => J h' ∧ Fr 0 h h' ∧ (E = 2))) 1 6 8 [x_r 0, iv_c a1, iv_c v299, iv_c v301] [] h := by
      intro n
      induction n with
      | zero => intro v299 v301 q304; exact absurd q304 (Nat.not_lt_zero _)
      | succ n i305 =>
        intro v299 v301 q304 b300 b302
        refine x_iload (np := 9) (x := 3) (by decide +kernel) rfl (by omega) ?_
        refine x_aload (np := 10) (x := 0) (by decide +kernel) rfl (x_nc_le (by decide)) ?_
        have t306 : tw (h 0 8) := hJ.2.1
        refine x_getR (np := 13) (x := 648) (f := 8) (q := (h 0 8)) (by decide +kernel) (by decide) (by decide +kernel) rfl ?_
        have b307 := jB (e := 7) 0 hJ (rg_T0_7_0_1 t306) (by omega) (by omega)
        refine x_getC (np := 16) (x := 519) (f := 7) (q := (h (h 0 8) 7)) (by decide +kernel) (by decide) (tg_0_519_7_0 t306) rfl (fun l308 => ?_)
        refine x_icmp (k := 3) (tg := 47) (np := 19) (by decide +kernel) (by decide) (by omega) l308 (fun q309 => ?_) (fun q310 => ?_)
        · have q309 : (h (h 0 8) 7) ≤ v301 := q309
          refine x_iload (np := 48) (x := 2) (by decide +kernel) rfl (by omega) ?_
          refine x_retI (np := 49) (x := 0) (by decide +kernel) (by omega) (Or.inl (by decide +kernel)) (Or.inl ⟨_, rfl, (by omega), ?_⟩)
          exact ⟨hJ, hF, (by omega)⟩
        have q310 : ¬ ((h (h 0 8) 7) ≤ v301) := q310
        refine x_aload (np := 20) (x := 0) (by decide +kernel) rfl (x_nc_le (by decide)) ?_
        have q311 : h 0 1 = 45 := by have z := jB (e := 1) 0 hJ rg_0_1_0_1 (by decide) (by decide); omega
        refine x_getR (np := 23) (x := 641) (f := 1) (q := 45) (by decide +kernel) (by decide) (by decide +kernel) q311 ?_
        refine x_iload (np := 24) (x := 3) (by decide +kernel) rfl (by omega) ?_
        refine x_iload (np := 25) (x := 1) (by decide +kernel) rfl la1 ?_
        refine x_cP (t := 6) (mj := 8) (n := 3) (rc := 2) (ml := 5) (nr := 0) (np := 28) (as := [x_r 45, iv_c v301, iv_c a1]) (rest := []) (lo1 := [x_r 45, iv_c v301, iv_c a1, 147573952589676412928, 147573952589676412928]) (by decide +kernel) (by decide) (by decide +kernel) (x_rb_of (by decide +kernel)) rfl rfl (x_wr (by decide) (x_wi (by omega) (x_wi la1 x_wn))) x_wn (by decide) rfl (c8_45 hJ  (by omega) (by omega)) (fun v312 l313 q314 => ?_)
        refine x_nI (t := 7) (mj := 310) (n := 1) (rc := 0) (ml := 1) (nr := 0) (np := 31) (as := [iv_c v312]) (rest := []) (lo1 := [iv_c v312]) (by decide +kernel) (by decide) (by decide +kernel) (Or.inl rfl) rfl rfl (x_wi l313 x_wn) x_wn (by decide) rfl ?_
        refine x_iload (np := 1) (x := 0) (by decide +kernel) rfl l313 ?_
        refine x_iload (np := 2) (x := 0) (by decide +kernel) rfl l313 ?_
        refine x_const (np := 3) (x := 9223372043297226753) (a := 2147483649) (by decide +kernel) (by decide) (by decide) ?_
        refine x_any (np := 4) (k9 := 5) (by decide +kernel) (by decide) l313 (by decide) (fun v315 l316 => ?_)
        refine x_const (np := 7) (x := 15372286730238776661) (a := 3579139413) (by decide +kernel) (by decide) (by decide) ?_
        refine x_any (np := 8) (k9 := 0) (by decide +kernel) (by decide) l316 (by decide) (fun v317 l318 => ?_)
        refine x_subA (by rw [tb_b310]; decide +kernel) l313 l318 (fun v319 l320 => ?_)
        refine x_istore (np := 10) (x := 0) (lo' := [iv_c v319]) (by decide +kernel) l320 (Nat.le_of_ble_eq_true rfl) rfl ?_
        refine x_iload (np := 11) (x := 0) (by decide +kernel) rfl l320 ?_
        refine x_const (np := 14) (x := 12912720853744169779) (a := 3006477107) (by decide +kernel) (by decide) (by decide) ?_
        refine x_any (np := 15) (k9 := 0) (by decide +kernel) (by decide) l320 (by decide) (fun v321 l322 => ?_)
        refine x_iload (np := 16) (x := 0) (by decide +kernel) rfl l320 ?_
        refine x_const (np := 17) (x := 9223372047592194050) (a := 2147483650) (by decide +kernel) (by decide) (by decide) ?_
        refine x_any (np := 18) (k9 := 5) (by decide +kernel) (by decide) l320 (by decide) (fun v323 l324 => ?_)
        refine x_const (np := 21) (x := 12912720853744169779) (a := 3006477107) (by decide +kernel) (by decide) (by decide) ?_
        refine x_any (np := 22) (k9 := 0) (by decide +kernel) (by decide) l324 (by decide) (fun v325 l326 => ?_)
        refine x_addA (by rw [tb_b310]; decide +kernel) l322 l326 (fun v327 l328 => ?_)
        refine x_istore (np := 24) (x := 0) (lo' := [iv_c v327]) (by decide +kernel) l328 (Nat.le_of_ble_eq_true rfl) rfl ?_
        refine x_iload (np := 25) (x := 0) (by decide +kernel) rfl l328 ?_
        refine x_iload (np := 26) (x := 0) (by decide +kernel) rfl l328 ?_
        refine x_const (np := 27) (x := 9223372056182128644) (a := 2147483652) (by decide +kernel) (by decide) (by decide) ?_
        refine x_any (np := 28) (k9 := 5) (by decide +kernel) (by decide) l328 (by decide) (fun v329 l330 => ?_)
        refine x_addA (by rw [tb_b310]; decide +kernel) l328 l330 (fun v331 l332 => ?_)
        refine x_const (np := 32) (x := 10308474631573409551) (a := 2400128783) (by decide +kernel) (by decide) (by decide) ?_
        refine x_any (np := 33) (k9 := 0) (by decide +kernel) (by decide) l332 (by decide) (fun v333 l334 => ?_)
        refine x_istore (np := 34) (x := 0) (lo' := [iv_c v333]) (by decide +kernel) l334 (Nat.le_of_ble_eq_true rfl) rfl ?_
        refine x_iload (np := 35) (x := 0) (by decide +kernel) rfl l334 ?_
        refine x_iload (np := 36) (x := 0) (by decide +kernel) rfl l334 ?_
        refine x_const (np := 38) (x := 9223372073361997832) (a := 2147483656) (by decide +kernel) (by decide) (by decide) ?_
        refine x_any (np := 39) (k9 := 5) (by decide +kernel) (by decide) l334 (by decide) (fun v335 l336 => ?_)
        refine x_addA (by rw [tb_b310]; decide +kernel) l334 l336 (fun v337 l338 => ?_)
        refine x_istore (np := 41) (x := 0) (lo' := [iv_c v337]) (by decide +kernel) l338 (Nat.le_of_ble_eq_true rfl) rfl ?_
        refine x_iload (np := 42) (x := 0) (by decide +kernel) rfl l338 ?_
        refine x_iload (np := 43) (x := 0) (by decide +kernel) rfl l338 ?_
        refine x_const (np := 45) (x := 9223372107721736208) (a := 2147483664) (by decide +kernel) (by decide) (by decide) ?_
        refine x_any (np := 46) (k9 := 5) (by decide +kernel) (by decide) l338 (by decide) (fun v339 l340 => ?_)
        refine x_addA (by rw [tb_b310]; decide +kernel) l338 l340 (fun v341 l342 => ?_)
        refine x_istore (np := 48) (x := 0) (lo' := [iv_c v341]) (by decide +kernel) l342 (Nat.le_of_ble_eq_true rfl) rfl ?_
        refine x_iload (np := 49) (x := 0) (by decide +kernel) rfl l342 ?_
        refine x_const (np := 51) (x := 9223372309585199167) (a := 2147483711) (by decide +kernel) (by decide) (by decide) ?_
        refine x_mask (np := 52) (m := 6) (k9 := 64) (by decide +kernel) l342 (by decide +kernel) (by decide) (by decide) (by decide) (fun u343 l344 => ?_)
        refine x_retI (np := 53) (x := 0) (by decide +kernel) (by omega) (Or.inl (by decide +kernel)) ⟨_, rfl, (by omega), ?_⟩
        refine x_const (np := 32) (x := 9223372047592194050) (a := 2147483650) (by decide +kernel) (by decide) (by decide) ?_
        refine x_icmp (k := 2) (tg := 41) (np := 35) (by decide +kernel) (by decide) (by omega) (by decide) (fun q345 => ?_) (fun q346 => ?_)
        · have q345 : (2147483648 + u343) < 2147483650 := q345
          refine x_iinc (np := 44) (i := 3) (j := 2147483649) (v := (1 + v301)) (lo' := [x_r 0, iv_c a1, iv_c v299, iv_c (1 + v301)]) (by decide +kernel) (by decide) (by decide) rfl (by omega) (by omega) (by omega) rfl ?_
          refine x_goto (np := 47) (x := 8) (by decide +kernel) ?_
          exact i305 v299 (1 + v301) (by omega) (by omega) (by omega)
        have q346 : ¬ ((2147483648 + u343) < 2147483650) := q346
        refine x_iload (np := 36) (x := 2) (by decide +kernel) rfl (by omega) ?_
        refine x_const (np := 37) (x := 9223372043297226753) (a := 2147483649) (by decide +kernel) (by decide) (by decide) ?_
        refine x_iload (np := 38) (x := 3) (by decide +kernel) rfl (by omega) ?_
        refine x_any (np := 39) (k9 := 3) (by decide +kernel) (by decide) (by decide) (by omega) (fun v347 l348 => ?_)
        refine x_any (np := 40) (k9 := 1) (by decide +kernel) (by decide) (by omega) l348 (fun v349 l350 => ?_)
        refine x_istore (np := 41) (x := 2) (lo' := [x_r 0, iv_c a1, iv_c v349, iv_c v301]) (by decide +kernel) l350 (Nat.le_of_ble_eq_true rfl) rfl ?_
        refine x_iinc (np := 44) (i := 3) (j := 2147483649) (v := (1 + v301)) (lo' := [x_r 0, iv_c a1, iv_c v349, iv_c (1 + v301)]) (by decide +kernel) (by decide) (by decide) rfl (by omega) (by omega) (by omega) rfl ?_
        refine x_goto (np := 47) (x := 8) (by decide +kernel) ?_
        exact i305 v349 (1 + v301) (by omega) (by omega) (by omega)
    exact p303 _ 2147483648 2147483648 (Nat.lt_succ_self _) (by omega) (by omega)
  have q4 : ¬ (a1 < 2147483660) := q4
  refine x_thr (np := 13) (x := 2) (by decide +kernel) (by decide +kernel) (Nat.le_trans x_wn (by decide)) (Or.inr ⟨_, rfl, ?_⟩)
  refine Or.inr ⟨_, rfl, ?_⟩
  exact ⟨hJ, hF, by decide⟩
set_option maxHeartbeats 0 in
/-- LentNames.borne(II)I -/
theorem c118_0 {sc : Nat × Nat} {d a1 a2 : Nat} {h : xh} (hJ : J h) (ba1 : 0 ≤ a1 ∧ a1 ≤ 4294967295) (ba2 : 0 ≤ a2 ∧ a2 ≤ 4294967295) : X sc 118 (d + 1) (xT (fun r h' => J h' ∧ Fr 0 h h' ∧ (2147483648 ≤ r ∧ r ≤ 2147483711)) (fun E h' => J h' ∧ Fr 0 h h' ∧ (E = 2))) 0 0 0 [x_r 0, iv_c a1, iv_c a2] [] h := by
  have la1 : a1 < 4294967296 := by omega
  have la2 : a2 < 4294967296 := by omega
  have hF := Fr.refl 0 h
  refine x_aload (np := 1) (x := 0) (by decide +kernel) rfl (x_nc_le (by decide)) ?_
  refine x_iload (np := 2) (x := 1) (by decide +kernel) rfl la1 ?_
  refine x_nU (t := 6) (mj := 144) (n := 2) (rc := 11) (ml := 2) (cc := 1) (ss := 6) (nr := 0) (np := 5) (as := [x_r 0, iv_c a1]) (rest := []) (lo1 := [x_r 0, iv_c a1]) (by decide +kernel) (by decide) (by decide +kernel) (by decide +kernel) (x_rb_of (by decide +kernel)) rfl rfl (x_wr (by decide) (x_wi la1 x_wn)) x_wn (by decide) rfl ?_
  refine x_iload (np := 1) (x := 1) (by decide +kernel) rfl la1 ?_
  refine x_ifz (k := 2) (tg := 15) (np := 4) (by decide +kernel) (by decide) la1 (fun q1 => ?_) (fun q2 => ?_)
  · have q1 : a1 < 2147483648 := q1
    refine x_thr (np := 18) (x := 2) (by decide +kernel) (by decide +kernel) (Nat.le_trans x_wn (by decide)) (Or.inr ⟨_, rfl, ?_⟩)
    refine Or.inr ⟨_, rfl, ?_⟩
    exact ⟨hJ, hF, by decide⟩
  have q2 : ¬ (a1 < 2147483648) := q2
  refine x_iload (np := 5) (x := 1) (by decide +kernel) rfl la1 ?_
  refine x_aload (np := 6) (x := 0) (by decide +kernel) rfl (x_nc_le (by decide)) ?_
  have t3 : tw (h 0 8) := hJ.2.1
  refine x_getR (np := 9) (x := 648) (f := 8) (q := (h 0 8)) (by decide +kernel) (by decide) (by decide +kernel) rfl ?_
  have b4 := jB (e := 7) 0 hJ (rg_T0_7_0_1 t3) (by omega) (by omega)
  refine x_getC (np := 12) (x := 519) (f := 7) (q := (h (h 0 8) 7)) (by decide +kernel) (by decide) (tg_0_519_7_0 t3) rfl (fun l5 => ?_)
  refine x_icmp (k := 2) (tg := 26) (np := 15) (by decide +kernel) (by decide) la1 l5 (fun q6 => ?_) (fun q7 => ?_)
  · have q6 : a1 < (h (h 0 8) 7) := q6
    refine x_retV (np := 27) (x := 0) (by decide +kernel) (by decide +kernel) (Or.inl ⟨rfl, ?_⟩)
    refine x_aload (np := 6) (x := 0) (by decide +kernel) rfl (x_nc_le (by decide)) ?_
    refine x_iload (np := 7) (x := 2) (by decide +kernel) rfl la2 ?_
    refine x_nU (t := 6) (mj := 145) (n := 2) (rc := 11) (ml := 2) (cc := 1) (ss := 6) (nr := 0) (np := 10) (as := [x_r 0, iv_c a2]) (rest := []) (lo1 := [x_r 0, iv_c a2]) (by decide +kernel) (by decide) (by decide +kernel) (by decide +kernel) (x_rb_of (by decide +kernel)) rfl rfl (x_wr (by decide) (x_wi la2 x_wn)) x_wn (by decide) rfl ?_
    refine x_iload (np := 1) (x := 1) (by decide +kernel) rfl la2 ?_
    refine x_ifz (k := 2) (tg := 15) (np := 4) (by decide +kernel) (by decide) la2 (fun q8 => ?_) (fun q9 => ?_)
    · have q8 : a2 < 2147483648 := q8
      refine x_thr (np := 18) (x := 2) (by decide +kernel) (by decide +kernel) (Nat.le_trans x_wn (by decide)) (Or.inr ⟨_, rfl, ?_⟩)
      refine Or.inr ⟨_, rfl, ?_⟩
      exact ⟨hJ, hF, by decide⟩
    have q9 : ¬ (a2 < 2147483648) := q9
    refine x_iload (np := 5) (x := 1) (by decide +kernel) rfl la2 ?_
    refine x_aload (np := 6) (x := 0) (by decide +kernel) rfl (x_nc_le (by decide)) ?_
    refine x_getR (np := 9) (x := 648) (f := 8) (q := (h 0 8)) (by decide +kernel) (by decide) (by decide +kernel) rfl ?_
    refine x_getC (np := 12) (x := 519) (f := 7) (q := (h (h 0 8) 7)) (by decide +kernel) (by decide) (tg_0_519_7_0 t3) rfl (fun l10 => ?_)
    refine x_icmp (k := 2) (tg := 26) (np := 15) (by decide +kernel) (by decide) la2 l5 (fun q11 => ?_) (fun q12 => ?_)
    · have q11 : a2 < (h (h 0 8) 7) := q11
      refine x_retV (np := 27) (x := 0) (by decide +kernel) (by decide +kernel) (Or.inl ⟨rfl, ?_⟩)
      refine x_aload (np := 11) (x := 0) (by decide +kernel) rfl (x_nc_le (by decide)) ?_
      have q13 : h 0 1 = 45 := by have z := jB (e := 1) 0 hJ rg_0_1_0_1 (by decide) (by decide); omega
      refine x_getR (np := 14) (x := 641) (f := 1) (q := 45) (by decide +kernel) (by decide) (by decide +kernel) q13 ?_
      have q14 : h 45 1 = 47 := by have z := jB (e := 1) 0 hJ rg_45_1_0_1 (by decide) (by decide); omega
      refine x_getR (np := 17) (x := 65) (f := 1) (q := 47) (by decide +kernel) (by decide) (by decide +kernel) q14 ?_
      refine x_iload (np := 18) (x := 1) (by decide +kernel) rfl la1 ?_
      refine x_iload (np := 19) (x := 2) (by decide +kernel) rfl la2 ?_
      refine x_nI (t := 0) (mj := 149) (n := 2) (rc := 0) (ml := 2) (nr := 1) (np := 22) (as := [iv_c a1, iv_c a2]) (rest := [x_r 47]) (lo1 := [iv_c a1, iv_c a2]) (by decide +kernel) (by decide) (by decide +kernel) (Or.inl rfl) rfl rfl (x_wi la1 (x_wi la2 x_wn)) (x_wr (by decide) x_wn) (by decide) rfl ?_
      refine x_iload (np := 1) (x := 0) (by decide +kernel) rfl la1 ?_
      refine x_const (np := 3) (x := 9223372064772063238) (a := 2147483654) (by decide +kernel) (by decide) (by decide) ?_
      obtain ⟨u15, q16⟩ : ∃ z, a1 = 2147483648 + z := ⟨a1 - 2147483648, by omega⟩
      refine x_imul (np := 4) (x := 0) (i := u15) (j := 6) (v := (2147483648 + 6 * u15)) (by decide +kernel) (by omega) (by omega) (by omega) (by omega) la1 (by decide) ?_
      refine x_iload (np := 5) (x := 1) (by decide +kernel) rfl la2 ?_
      refine x_iadd (np := 6) (x := 0) (v := (6 * u15 + a2)) (by decide +kernel) (by omega) la2 (by omega) (by omega) ?_
      refine x_retI (np := 7) (x := 0) (by decide +kernel) (by omega) (Or.inl (by decide +kernel)) ⟨_, rfl, (by omega), ?_⟩
      obtain ⟨u18, q19⟩ : ∃ z, a2 = 2147483648 + z := ⟨a2 - 2147483648, by omega⟩
      refine x_aldC (np := 23) (x := 0) (n := 36) (i := (6 * u15 + u18)) (q := ((h 47 (6 * u15 + u18)))) (by decide +kernel) (by decide +kernel) (by omega) (by omega) (by decide) rfl (fun l20 => ?_)
      refine x_nI (t := 7) (mj := 310) (n := 1) (rc := 0) (ml := 1) (nr := 0) (np := 26) (as := [iv_c ((h 47 (6 * u15 + u18)))]) (rest := []) (lo1 := [iv_c ((h 47 (6 * u15 + u18)))]) (by decide +kernel) (by decide) (by decide +kernel) (Or.inl rfl) rfl rfl (x_wi l20 x_wn) x_wn (by decide) rfl ?_
      refine x_iload (np := 1) (x := 0) (by decide +kernel) rfl l20 ?_
      refine x_iload (np := 2) (x := 0) (by decide +kernel) rfl l20 ?_
      refine x_const (np := 3) (x := 9223372043297226753) (a := 2147483649) (by decide +kernel) (by decide) (by decide) ?_
      refine x_any (np := 4) (k9 := 5) (by decide +kernel) (by decide) l20 (by decide) (fun v21 l22 => ?_)
      refine x_const (np := 7) (x := 15372286730238776661) (a := 3579139413) (by decide +kernel) (by decide) (by decide) ?_
      refine x_any (np := 8) (k9 := 0) (by decide +kernel) (by decide) l22 (by decide) (fun v23 l24 => ?_)
      refine x_subA (by rw [tb_b310]; decide +kernel) l20 l24 (fun v25 l26 => ?_)
      refine x_istore (np := 10) (x := 0) (lo' := [iv_c v25]) (by decide +kernel) l26 (Nat.le_of_ble_eq_true rfl) rfl ?_
      refine x_iload (np := 11) (x := 0) (by decide +kernel) rfl l26 ?_
      refine x_const (np := 14) (x := 12912720853744169779) (a := 3006477107) (by decide +kernel) (by decide) (by decide) ?_
      refine x_any (np := 15) (k9 := 0) (by decide +kernel) (by decide) l26 (by decide) (fun v27 l28 => ?_)
      refine x_iload (np := 16) (x := 0) (by decide +kernel) rfl l26 ?_
      refine x_const (np := 17) (x := 9223372047592194050) (a := 2147483650) (by decide +kernel) (by decide) (by decide) ?_
      refine x_any (np := 18) (k9 := 5) (by decide +kernel) (by decide) l26 (by decide) (fun v29 l30 => ?_)
      refine x_const (np := 21) (x := 12912720853744169779) (a := 3006477107) (by decide +kernel) (by decide) (by decide) ?_
      refine x_any (np := 22) (k9 := 0) (by decide +kernel) (by decide) l30 (by decide) (fun v31 l32 => ?_)
      refine x_addA (by rw [tb_b310]; decide +kernel) l28 l32 (fun v33 l34 => ?_)
      refine x_istore (np := 24) (x := 0) (lo' := [iv_c v33]) (by decide +kernel) l34 (Nat.le_of_ble_eq_true rfl) rfl ?_
      refine x_iload (np := 25) (x := 0) (by decide +kernel) rfl l34 ?_
      refine x_iload (np := 26) (x := 0) (by decide +kernel) rfl l34 ?_
      refine x_const (np := 27) (x := 9223372056182128644) (a := 2147483652) (by decide +kernel) (by decide) (by decide) ?_
      refine x_any (np := 28) (k9 := 5) (by decide +kernel) (by decide) l34 (by decide) (fun v35 l36 => ?_)
      refine x_addA (by rw [tb_b310]; decide +kernel) l34 l36 (fun v37 l38 => ?_)
      refine x_const (np := 32) (x := 10308474631573409551) (a := 2400128783) (by decide +kernel) (by decide) (by decide) ?_
      refine x_any (np := 33) (k9 := 0) (by decide +kernel) (by decide) l38 (by decide) (fun v39 l40 => ?_)
      refine x_istore (np := 34) (x := 0) (lo' := [iv_c v39]) (by decide +kernel) l40 (Nat.le_of_ble_eq_true rfl) rfl ?_
      refine x_iload (np := 35) (x := 0) (by decide +kernel) rfl l40 ?_
      refine x_iload (np := 36) (x := 0) (by decide +kernel) rfl l40 ?_
      refine x_const (np := 38) (x := 9223372073361997832) (a := 2147483656) (by decide +kernel) (by decide) (by decide) ?_
      refine x_any (np := 39) (k9 := 5) (by decide +kernel) (by decide) l40 (by decide) (fun v41 l42 => ?_)
      refine x_addA (by rw [tb_b310]; decide +kernel) l40 l42 (fun v43 l44 => ?_)
      refine x_istore (np := 41) (x := 0) (lo' := [iv_c v43]) (by decide +kernel) l44 (Nat.le_of_ble_eq_true rfl) rfl ?_
      refine x_iload (np := 42) (x := 0) (by decide +kernel) rfl l44 ?_
      refine x_iload (np := 43) (x := 0) (by decide +kernel) rfl l44 ?_
      refine x_const (np := 45) (x := 9223372107721736208) (a := 2147483664) (by decide +kernel) (by decide) (by decide) ?_
      refine x_any (np := 46) (k9 := 5) (by decide +kernel) (by decide) l44 (by decide) (fun v45 l46 => ?_)
      refine x_addA (by rw [tb_b310]; decide +kernel) l44 l46 (fun v47 l48 => ?_)
      refine x_istore (np := 48) (x := 0) (lo' := [iv_c v47]) (by decide +kernel) l48 (Nat.le_of_ble_eq_true rfl) rfl ?_
      refine x_iload (np := 49) (x := 0) (by decide +kernel) rfl l48 ?_
      refine x_const (np := 51) (x := 9223372309585199167) (a := 2147483711) (by decide +kernel) (by decide) (by decide) ?_
      refine x_mask (np := 52) (m := 6) (k9 := 64) (by decide +kernel) l48 (by decide +kernel) (by decide) (by decide) (by decide) (fun u49 l50 => ?_)
      refine x_retI (np := 53) (x := 0) (by decide +kernel) (by omega) (Or.inl (by decide +kernel)) ⟨_, rfl, (by omega), ?_⟩
      refine x_retI (np := 27) (x := 0) (by decide +kernel) (by omega) (Or.inl (by decide +kernel)) (Or.inl ⟨_, rfl, (by omega), ?_⟩)
      exact ⟨hJ, hF, (by omega)⟩
    have q12 : ¬ (a2 < (h (h 0 8) 7)) := q12
    refine x_thr (np := 18) (x := 2) (by decide +kernel) (by decide +kernel) (Nat.le_trans x_wn (by decide)) (Or.inr ⟨_, rfl, ?_⟩)
    refine Or.inr ⟨_, rfl, ?_⟩
    exact ⟨hJ, hF, by decide⟩
  have q7 : ¬ (a1 < (h (h 0 8) 7)) := q7
  refine x_thr (np := 18) (x := 2) (by decide +kernel) (by decide +kernel) (Nat.le_trans x_wn (by decide)) (Or.inr ⟨_, rfl, ?_⟩)
  refine Or.inr ⟨_, rfl, ?_⟩
  exact ⟨hJ, hF, by decide⟩
set_option maxHeartbeats 0 in
/-- LentNames.again(II)I -/
theorem c119_0 {sc : Nat × Nat} {d a1 a2 : Nat} {h : xh} (hJ : J h) (ba1 : 0 ≤ a1 ∧ a1 ≤ 4294967295) (ba2 : 0 ≤ a2 ∧ a2 ≤ 4294967295) : X sc 119 (d + 2) (xT (fun r h' => J h' ∧ Fr 0 h h' ∧ (2147483647 ≤ r ∧ r ≤ 2147483659)) (fun E h' => J h' ∧ Fr 0 h h' ∧ (E = 2))) 0 0 0 [x_r 0, iv_c a1, iv_c a2, 147573952589676412928] [] h := by
  have la1 : a1 < 4294967296 := by omega
  have la2 : a2 < 4294967296 := by omega
  have hF := Fr.refl 0 h
  refine x_aload (np := 1) (x := 0) (by decide +kernel) rfl (x_nc_le (by decide)) ?_
  refine x_iload (np := 2) (x := 1) (by decide +kernel) rfl la1 ?_
  refine x_nU (t := 6) (mj := 144) (n := 2) (rc := 11) (ml := 2) (cc := 1) (ss := 6) (nr := 0) (np := 5) (as := [x_r 0, iv_c a1]) (rest := []) (lo1 := [x_r 0, iv_c a1]) (by decide +kernel) (by decide) (by decide +kernel) (by decide +kernel) (x_rb_of (by decide +kernel)) rfl rfl (x_wr (by decide) (x_wi la1 x_wn)) x_wn (by decide) rfl ?_
  refine x_iload (np := 1) (x := 1) (by decide +kernel) rfl la1 ?_
  refine x_ifz (k := 2) (tg := 15) (np := 4) (by decide +kernel) (by decide) la1 (fun q1 => ?_) (fun q2 => ?_)
  · have q1 : a1 < 2147483648 := q1
    refine x_thr (np := 18) (x := 2) (by decide +kernel) (by decide +kernel) (Nat.le_trans x_wn (by decide)) (Or.inr ⟨_, rfl, ?_⟩)
    refine Or.inr ⟨_, rfl, ?_⟩
    exact ⟨hJ, hF, by decide⟩
  have q2 : ¬ (a1 < 2147483648) := q2
  refine x_iload (np := 5) (x := 1) (by decide +kernel) rfl la1 ?_
  refine x_aload (np := 6) (x := 0) (by decide +kernel) rfl (x_nc_le (by decide)) ?_
  have t3 : tw (h 0 8) := hJ.2.1
  refine x_getR (np := 9) (x := 648) (f := 8) (q := (h 0 8)) (by decide +kernel) (by decide) (by decide +kernel) rfl ?_
  have b4 := jB (e := 7) 0 hJ (rg_T0_7_0_1 t3) (by omega) (by omega)
  refine x_getC (np := 12) (x := 519) (f := 7) (q := (h (h 0 8) 7)) (by decide +kernel) (by decide) (tg_0_519_7_0 t3) rfl (fun l5 => ?_)
  refine x_icmp (k := 2) (tg := 26) (np := 15) (by decide +kernel) (by decide) la1 l5 (fun q6 => ?_) (fun q7 => ?_)
  · have q6 : a1 < (h (h 0 8) 7) := q6
    refine x_retV (np := 27) (x := 0) (by decide +kernel) (by decide +kernel) (Or.inl ⟨rfl, ?_⟩)
    refine x_iload (np := 6) (x := 2) (by decide +kernel) rfl la2 ?_
    refine x_nU (t := 0) (mj := 146) (n := 1) (rc := 0) (ml := 1) (cc := 1) (ss := 6) (nr := 0) (np := 9) (as := [iv_c a2]) (rest := []) (lo1 := [iv_c a2]) (by decide +kernel) (by decide) (by decide +kernel) (by decide +kernel) (Or.inl rfl) rfl rfl (x_wi la2 x_wn) x_wn (by decide) rfl ?_
    refine x_iload (np := 1) (x := 0) (by decide +kernel) rfl la2 ?_
    refine x_ifz (k := 2) (tg := 10) (np := 4) (by decide +kernel) (by decide) la2 (fun q8 => ?_) (fun q9 => ?_)
    · have q8 : a2 < 2147483648 := q8
      refine x_thr (np := 13) (x := 2) (by decide +kernel) (by decide +kernel) (Nat.le_trans x_wn (by decide)) (Or.inr ⟨_, rfl, ?_⟩)
      refine Or.inr ⟨_, rfl, ?_⟩
      exact ⟨hJ, hF, by decide⟩
    have q9 : ¬ (a2 < 2147483648) := q9
    refine x_iload (np := 5) (x := 0) (by decide +kernel) rfl la2 ?_
    refine x_const (np := 7) (x := 9223372090541867020) (a := 2147483660) (by decide +kernel) (by decide) (by decide) ?_
    refine x_icmp (k := 2) (tg := 21) (np := 10) (by decide +kernel) (by decide) la2 (by decide) (fun q10 => ?_) (fun q11 => ?_)
    · have q10 : a2 < 2147483660 := q10
      refine x_retV (np := 22) (x := 0) (by decide +kernel) (by decide +kernel) (Or.inl ⟨rfl, ?_⟩)
      refine x_iload (np := 10) (x := 2) (by decide +kernel) rfl la2 ?_
      refine x_istore (np := 11) (x := 3) (lo' := [x_r 0, iv_c a1, iv_c a2, iv_c a2]) (by decide +kernel) la2 (Nat.le_of_ble_eq_true rfl) rfl ?_
      have p34 : ∀ (n : Nat) (v32 : Nat), 4294967296 - v32 < n → (2147483648 ≤ v32 ∧ v32 ≤ 2147483660) → X sc 119 (d + 2) (xT (fun r h' => J h' ∧ Fr 0 h h' ∧ (2147483647 ≤ r ∧ r ≤ 2147483659)) (fun E h' => J h' ∧ Fr 0 h h' ∧ (E = 2))) 2 12 11 [x_r 0, iv_c a1, iv_c a2, iv_c v32] [] h := by
        intro n
        induction n with
        | zero => intro v32 q35; exact absurd q35 (Nat.not_lt_zero _)
        | succ n i36 =>
          intro v32 q35 b33
          refine x_iload (np := 12) (x := 3) (by decide +kernel) rfl (by omega) ?_
          refine x_const (np := 14) (x := 9223372090541867020) (a := 2147483660) (by decide +kernel) (by decide) (by decide) ?_
          refine x_icmp (k := 3) (tg := 38) (np := 17) (by decide +kernel) (by decide) (by omega) (by decide) (fun q37 => ?_) (fun q38 => ?_)
          · have q37 : 2147483660 ≤ v32 := q37
            refine x_const (np := 39) (x := 9223372034707292159) (a := 2147483647) (by decide +kernel) (by decide) (by decide) ?_
            refine x_retI (np := 40) (x := 0) (by decide +kernel) (by decide) (Or.inl (by decide +kernel)) (Or.inl ⟨_, rfl, (by decide), ?_⟩)
            exact ⟨hJ, hF, (by omega)⟩
          have q38 : ¬ (2147483660 ≤ v32) := q38
          refine x_aload (np := 18) (x := 0) (by decide +kernel) rfl (x_nc_le (by decide)) ?_
          have q39 : h 0 1 = 45 := by have z := jB (e := 1) 0 hJ rg_0_1_0_1 (by decide) (by decide); omega
          refine x_getR (np := 21) (x := 641) (f := 1) (q := 45) (by decide +kernel) (by decide) (by decide +kernel) q39 ?_
          refine x_iload (np := 22) (x := 1) (by decide +kernel) rfl la1 ?_
          refine x_iload (np := 23) (x := 3) (by decide +kernel) rfl (by omega) ?_
          refine x_cP (t := 6) (mj := 5) (n := 3) (rc := 2) (ml := 3) (nr := 0) (np := 26) (as := [x_r 45, iv_c a1, iv_c v32]) (rest := []) (lo1 := [x_r 45, iv_c a1, iv_c v32]) (by decide +kernel) (by decide) (by decide +kernel) (x_rb_of (by decide +kernel)) rfl rfl (x_wr (by decide) (x_wi la1 (x_wi (by omega) x_wn))) x_wn (by decide) rfl (c5_45 hJ  (by omega) (by omega)) (fun v40 l41 q42 => ?_)
          refine x_iload (np := 27) (x := 1) (by decide +kernel) rfl la1 ?_
          refine x_icmp (k := 1) (tg := 32) (np := 30) (by decide +kernel) (by decide) l41 la1 (fun q43 => ?_) (fun q44 => ?_)
          · have q43 : v40 ≠ a1 := q43
            refine x_iinc (np := 35) (i := 3) (j := 2147483649) (v := (1 + v32)) (lo' := [x_r 0, iv_c a1, iv_c a2, iv_c (1 + v32)]) (by decide +kernel) (by decide) (by decide) rfl (by omega) (by omega) (by omega) rfl ?_
            refine x_goto (np := 38) (x := 11) (by decide +kernel) ?_
            exact i36 (1 + v32) (by omega) (by omega)
          have q44 : ¬ (v40 ≠ a1) := q44
          refine x_iload (np := 31) (x := 3) (by decide +kernel) rfl (by omega) ?_
          refine x_retI (np := 32) (x := 0) (by decide +kernel) (by omega) (Or.inl (by decide +kernel)) (Or.inl ⟨_, rfl, (by omega), ?_⟩)
          exact ⟨hJ, hF, (by omega)⟩
      exact p34 _ a2 (Nat.lt_succ_self _) (by omega)
    have q11 : ¬ (a2 < 2147483660) := q11
    refine x_thr (np := 13) (x := 2) (by decide +kernel) (by decide +kernel) (Nat.le_trans x_wn (by decide)) (Or.inr ⟨_, rfl, ?_⟩)
    refine Or.inr ⟨_, rfl, ?_⟩
    exact ⟨hJ, hF, by decide⟩
  have q7 : ¬ (a1 < (h (h 0 8) 7)) := q7
  refine x_thr (np := 18) (x := 2) (by decide +kernel) (by decide +kernel) (Nat.le_trans x_wn (by decide)) (Or.inr ⟨_, rfl, ?_⟩)
  refine Or.inr ⟨_, rfl, ?_⟩
  exact ⟨hJ, hF, by decide⟩
set_option maxHeartbeats 0 in
/-- LentNames$Calendar.handsOf(I)I -/
theorem c10_45 {sc : Nat × Nat} {d a1 : Nat} {h : xh} (hJ : J h) (ba1 : 2147483648 ≤ a1 ∧ a1 ≤ 2147483653) : X sc 10 (d + 2) (xI fun r h' => h' = h ∧ (0 ≤ r ∧ r ≤ 4294967295)) 0 0 0 [x_r 45, iv_c a1, 147573952589676412928, 147573952589676412928] [] h := by
  have la1 : a1 < 4294967296 := by omega
  refine x_const (np := 1) (x := 9223372039002259456) (a := 2147483648) (by decide +kernel) (by decide) (by decide) ?_
  refine x_istore (np := 2) (x := 2) (lo' := [x_r 45, iv_c a1, iv_c 2147483648, 147573952589676412928]) (by decide +kernel) (by decide) (Nat.le_of_ble_eq_true rfl) rfl ?_
  refine x_const (np := 3) (x := 9223372043297226753) (a := 2147483649) (by decide +kernel) (by decide) (by decide) ?_
  refine x_istore (np := 4) (x := 3) (lo' := [x_r 45, iv_c a1, iv_c 2147483648, iv_c 2147483649]) (by decide +kernel) (by decide) (Nat.le_of_ble_eq_true rfl) rfl ?_
  have p505 : ∀ (n : Nat) (v501 : Nat) (v503 : Nat), 4294967296 - v503 < n → (0 ≤ v501 ∧ v501 ≤ 4294967295) → (2147483649 ≤ v503 ∧ v503 ≤ 2147483660) → X sc 10 (d + 2) (xI fun r h' => h' = h ∧ (0 ≤ r ∧ r ≤ 4294967295)) 0 0 4 [x_r 45, iv_c a1, iv_c v501, iv_c v503] [] h := by
    intro n
    induction n with
    | zero => intro v501 v503 q506; exact absurd q506 (Nat.not_lt_zero _)
    | succ n i507 =>
      intro v501 v503 q506 b502 b504
      refine x_iload (np := 5) (x := 3) (by decide +kernel) rfl (by omega) ?_
      refine x_const (np := 7) (x := 9223372090541867020) (a := 2147483660) (by decide +kernel) (by decide) (by decide) ?_
      refine x_icmp (k := 3) (tg := 36) (np := 10) (by decide +kernel) (by decide) (by omega) (by decide) (fun q508 => ?_) (fun q509 => ?_)
      · have q508 : 2147483660 ≤ v503 := q508
        refine x_iload (np := 37) (x := 2) (by decide +kernel) rfl (by omega) ?_
        refine x_retI (np := 38) (x := 0) (by decide +kernel) (by omega) (Or.inl (by decide +kernel)) ⟨_, rfl, (by omega), ?_⟩
        exact ⟨rfl, (by omega)⟩
      have q509 : ¬ (2147483660 ≤ v503) := q509
      refine x_aload (np := 11) (x := 0) (by decide +kernel) rfl (x_nc_le (by decide)) ?_
      refine x_iload (np := 12) (x := 1) (by decide +kernel) rfl la1 ?_
      refine x_iload (np := 13) (x := 3) (by decide +kernel) rfl (by omega) ?_
      refine x_cP (t := 6) (mj := 5) (n := 3) (rc := 2) (ml := 3) (nr := 0) (np := 16) (as := [x_r 45, iv_c a1, iv_c v503]) (rest := []) (lo1 := [x_r 45, iv_c a1, iv_c v503]) (by decide +kernel) (by decide) (by decide +kernel) (x_rb_of (by decide +kernel)) rfl rfl (x_wr (by decide) (x_wi la1 (x_wi (by omega) x_wn))) x_wn (by decide) rfl (c5_45 hJ  (by omega) (by omega)) (fun v510 l511 q512 => ?_)
      refine x_aload (np := 17) (x := 0) (by decide +kernel) rfl (x_nc_le (by decide)) ?_
      refine x_iload (np := 18) (x := 1) (by decide +kernel) rfl la1 ?_
      refine x_iload (np := 19) (x := 3) (by decide +kernel) rfl (by omega) ?_
      refine x_const (np := 20) (x := 9223372043297226753) (a := 2147483649) (by decide +kernel) (by decide) (by decide) ?_
      obtain ⟨v513, q514⟩ : ∃ z, z + 2147483649 = v503 + 2147483648 := ⟨v503 + 2147483648 - 2147483649, by omega⟩
      refine x_isub (np := 21) (x := 0) (v := v513) (by decide +kernel) (by omega) (by decide) (by omega) (by omega) ?_
      refine x_cP (t := 6) (mj := 5) (n := 3) (rc := 2) (ml := 3) (nr := 1) (np := 24) (as := [x_r 45, iv_c a1, iv_c v513]) (rest := [iv_c v510]) (lo1 := [x_r 45, iv_c a1, iv_c v513]) (by decide +kernel) (by decide) (by decide +kernel) (x_rb_of (by decide +kernel)) rfl rfl (x_wr (by decide) (x_wi la1 (x_wi (by omega) x_wn))) (x_wi l511 x_wn) (by decide) rfl (c5_45 hJ  (by omega) (by omega)) (fun v515 l516 q517 => ?_)
      refine x_icmp (k := 0) (tg := 30) (np := 27) (by decide +kernel) (by decide) l511 l516 (fun q518 => ?_) (fun q519 => ?_)
      · have q518 : v510 = v515 := q518
        refine x_iinc (np := 33) (i := 3) (j := 2147483649) (v := (1 + v503)) (lo' := [x_r 45, iv_c a1, iv_c v501, iv_c (1 + v503)]) (by decide +kernel) (by decide) (by decide) rfl (by omega) (by omega) (by omega) rfl ?_
        refine x_goto (np := 36) (x := 4) (by decide +kernel) ?_
        exact i507 v501 (1 + v503) (by omega) (by omega) (by omega)
      have q519 : ¬ (v510 = v515) := q519
      refine x_incA (i := 2) (n := 1) (by rw [tb_b10]; decide +kernel) rfl (by omega) (fun v520 l521 => ?_)
      show X _ _ _ _ _ _ _ [x_r 45, iv_c a1, iv_c v520, iv_c v503] _ _
      refine x_iinc (np := 33) (i := 3) (j := 2147483649) (v := (1 + v503)) (lo' := [x_r 45, iv_c a1, iv_c v520, iv_c (1 + v503)]) (by decide +kernel) (by decide) (by decide) rfl (by omega) (by omega) (by omega) rfl ?_
      refine x_goto (np := 36) (x := 4) (by decide +kernel) ?_
      exact i507 v520 (1 + v503) (by omega) (by omega) (by omega)
  exact p505 _ 2147483648 2147483649 (Nat.lt_succ_self _) (by omega) (by omega)
set_option maxHeartbeats 0 in
/-- LentNames.way(IZ)I -/
theorem c120_0 {sc : Nat × Nat} {d a1 a2 : Nat} {h : xh} (hJ : J h) (ba1 : 0 ≤ a1 ∧ a1 ≤ 4294967295) (ba2 : 2147483648 ≤ a2 ∧ a2 ≤ 2147483649) : X sc 120 (d + 3) (xT (fun r h' => J h' ∧ Fr 0 h h' ∧ (0 ≤ r ∧ r ≤ 4294967295)) (fun E h' => J h' ∧ Fr 0 h h' ∧ (E = 2))) 0 0 0 [x_r 0, iv_c a1, iv_c a2, 147573952589676412928, 147573952589676412928] [] h := by
  have la1 : a1 < 4294967296 := by omega
  have la2 : a2 < 4294967296 := by omega
  have hF := Fr.refl 0 h
  refine x_aload (np := 1) (x := 0) (by decide +kernel) rfl (x_nc_le (by decide)) ?_
  refine x_iload (np := 2) (x := 1) (by decide +kernel) rfl la1 ?_
  refine x_nU (t := 6) (mj := 144) (n := 2) (rc := 11) (ml := 2) (cc := 1) (ss := 6) (nr := 0) (np := 5) (as := [x_r 0, iv_c a1]) (rest := []) (lo1 := [x_r 0, iv_c a1]) (by decide +kernel) (by decide) (by decide +kernel) (by decide +kernel) (x_rb_of (by decide +kernel)) rfl rfl (x_wr (by decide) (x_wi la1 x_wn)) x_wn (by decide) rfl ?_
  refine x_iload (np := 1) (x := 1) (by decide +kernel) rfl la1 ?_
  refine x_ifz (k := 2) (tg := 15) (np := 4) (by decide +kernel) (by decide) la1 (fun q1 => ?_) (fun q2 => ?_)
  · have q1 : a1 < 2147483648 := q1
    refine x_thr (np := 18) (x := 2) (by decide +kernel) (by decide +kernel) (Nat.le_trans x_wn (by decide)) (Or.inr ⟨_, rfl, ?_⟩)
    refine Or.inr ⟨_, rfl, ?_⟩
    exact ⟨hJ, hF, by decide⟩
  have q2 : ¬ (a1 < 2147483648) := q2
  refine x_iload (np := 5) (x := 1) (by decide +kernel) rfl la1 ?_
  refine x_aload (np := 6) (x := 0) (by decide +kernel) rfl (x_nc_le (by decide)) ?_
  have t3 : tw (h 0 8) := hJ.2.1
  refine x_getR (np := 9) (x := 648) (f := 8) (q := (h 0 8)) (by decide +kernel) (by decide) (by decide +kernel) rfl ?_
  have b4 := jB (e := 7) 0 hJ (rg_T0_7_0_1 t3) (by omega) (by omega)
  refine x_getC (np := 12) (x := 519) (f := 7) (q := (h (h 0 8) 7)) (by decide +kernel) (by decide) (tg_0_519_7_0 t3) rfl (fun l5 => ?_)
  refine x_icmp (k := 2) (tg := 26) (np := 15) (by decide +kernel) (by decide) la1 l5 (fun q6 => ?_) (fun q7 => ?_)
  · have q6 : a1 < (h (h 0 8) 7) := q6
    refine x_retV (np := 27) (x := 0) (by decide +kernel) (by decide +kernel) (Or.inl ⟨rfl, ?_⟩)
    refine x_iload (np := 6) (x := 2) (by decide +kernel) rfl la2 ?_
    refine x_ifz (k := 0) (tg := 18) (np := 9) (by decide +kernel) (by decide) la2 (fun q8 => ?_) (fun q9 => ?_)
    · have q8 : a2 = 2147483648 := q8
      refine x_const (np := 19) (x := 9223372039002259456) (a := 2147483648) (by decide +kernel) (by decide) (by decide) ?_
      refine x_istore (np := 20) (x := 3) (lo' := [x_r 0, iv_c a1, iv_c a2, iv_c 2147483648, 147573952589676412928]) (by decide +kernel) (by decide) (Nat.le_of_ble_eq_true rfl) rfl ?_
      refine x_const (np := 21) (x := 9223372039002259456) (a := 2147483648) (by decide +kernel) (by decide) (by decide) ?_
      refine x_istore (np := 23) (x := 4) (lo' := [x_r 0, iv_c a1, iv_c a2, iv_c 2147483648, iv_c 2147483648]) (by decide +kernel) (by decide) (Nat.le_of_ble_eq_true rfl) rfl ?_
      have p140 : ∀ (n : Nat) (v136 : Nat) (v138 : Nat), 4294967296 - v138 < n → (0 ≤ v136 ∧ v136 ≤ 4294967295) → (2147483648 ≤ v138 ∧ v138 ≤ 2147483654) → X sc 120 (d + 3) (xT (fun r h' => J h' ∧ Fr 0 h h' ∧ (0 ≤ r ∧ r ≤ 4294967295)) (fun E h' => J h' ∧ Fr 0 h h' ∧ (E = 2))) 1 6 23 [x_r 0, iv_c a1, iv_c a2, iv_c v136, iv_c v138] [] h := by
        intro n
        induction n with
        | zero => intro v136 v138 q141; exact absurd q141 (Nat.not_lt_zero _)
        | succ n i142 =>
          intro v136 v138 q141 b137 b139
          refine x_iload (np := 25) (x := 4) (by decide +kernel) rfl (by omega) ?_
          refine x_aload (np := 26) (x := 0) (by decide +kernel) rfl (x_nc_le (by decide)) ?_
          refine x_getR (np := 29) (x := 648) (f := 8) (q := (h 0 8)) (by decide +kernel) (by decide) (by decide +kernel) rfl ?_
          refine x_getC (np := 32) (x := 519) (f := 7) (q := (h (h 0 8) 7)) (by decide +kernel) (by decide) (tg_0_519_7_0 t3) rfl (fun l143 => ?_)
          refine x_icmp (k := 3) (tg := 65) (np := 35) (by decide +kernel) (by decide) (by omega) l5 (fun q144 => ?_) (fun q145 => ?_)
          · have q144 : (h (h 0 8) 7) ≤ v138 := q144
            refine x_iload (np := 66) (x := 3) (by decide +kernel) rfl (by omega) ?_
            refine x_retI (np := 67) (x := 0) (by decide +kernel) (by omega) (Or.inl (by decide +kernel)) (Or.inl ⟨_, rfl, (by omega), ?_⟩)
            exact ⟨hJ, hF, (by omega)⟩
          have q145 : ¬ ((h (h 0 8) 7) ≤ v138) := q145
          refine x_aload (np := 36) (x := 0) (by decide +kernel) rfl (x_nc_le (by decide)) ?_
          have q146 : h 0 1 = 45 := by have z := jB (e := 1) 0 hJ rg_0_1_0_1 (by decide) (by decide); omega
          refine x_getR (np := 39) (x := 641) (f := 1) (q := 45) (by decide +kernel) (by decide) (by decide +kernel) q146 ?_
          have q147 : h 45 1 = 47 := by have z := jB (e := 1) 0 hJ rg_45_1_0_1 (by decide) (by decide); omega
          refine x_getR (np := 42) (x := 65) (f := 1) (q := 47) (by decide +kernel) (by decide) (by decide +kernel) q147 ?_
          refine x_iload (np := 43) (x := 1) (by decide +kernel) rfl la1 ?_
          refine x_iload (np := 45) (x := 4) (by decide +kernel) rfl (by omega) ?_
          refine x_nI (t := 0) (mj := 149) (n := 2) (rc := 0) (ml := 2) (nr := 1) (np := 48) (as := [iv_c a1, iv_c v138]) (rest := [x_r 47]) (lo1 := [iv_c a1, iv_c v138]) (by decide +kernel) (by decide) (by decide +kernel) (Or.inl rfl) rfl rfl (x_wi la1 (x_wi (by omega) x_wn)) (x_wr (by decide) x_wn) (by decide) rfl ?_
          refine x_iload (np := 1) (x := 0) (by decide +kernel) rfl la1 ?_
          refine x_const (np := 3) (x := 9223372064772063238) (a := 2147483654) (by decide +kernel) (by decide) (by decide) ?_
          obtain ⟨u148, q149⟩ : ∃ z, a1 = 2147483648 + z := ⟨a1 - 2147483648, by omega⟩
          refine x_imul (np := 4) (x := 0) (i := u148) (j := 6) (v := (2147483648 + 6 * u148)) (by decide +kernel) (by omega) (by omega) (by omega) (by omega) la1 (by decide) ?_
          refine x_iload (np := 5) (x := 1) (by decide +kernel) rfl (by omega) ?_
          refine x_iadd (np := 6) (x := 0) (v := (6 * u148 + v138)) (by decide +kernel) (by omega) (by omega) (by omega) (by omega) ?_
          refine x_retI (np := 7) (x := 0) (by decide +kernel) (by omega) (Or.inl (by decide +kernel)) ⟨_, rfl, (by omega), ?_⟩
          obtain ⟨u151, q152⟩ : ∃ z, v138 = 2147483648 + z := ⟨v138 - 2147483648, by omega⟩
          refine x_aldC (np := 49) (x := 0) (n := 36) (i := (6 * u148 + u151)) (q := ((h 47 (6 * u148 + u151)))) (by decide +kernel) (by decide +kernel) (by omega) (by omega) (by decide) rfl (fun l153 => ?_)
          refine x_ifz (k := 0) (tg := 59) (np := 52) (by decide +kernel) (by decide) l153 (fun q154 => ?_) (fun q155 => ?_)
          · have q154 : ((h 47 (6 * u148 + u151))) = 2147483648 := q154
            refine x_iinc (np := 62) (i := 4) (j := 2147483649) (v := (1 + v138)) (lo' := [x_r 0, iv_c a1, iv_c a2, iv_c v136, iv_c (1 + v138)]) (by decide +kernel) (by decide) (by decide) rfl (by omega) (by omega) (by omega) rfl ?_
            refine x_goto (np := 65) (x := 23) (by decide +kernel) ?_
            exact i142 v136 (1 + v138) (by omega) (by omega) (by omega)
          have q155 : ¬ (((h 47 (6 * u148 + u151))) = 2147483648) := q155
          refine x_iload (np := 53) (x := 3) (by decide +kernel) rfl (by omega) ?_
          refine x_const (np := 54) (x := 9223372043297226753) (a := 2147483649) (by decide +kernel) (by decide) (by decide) ?_
          refine x_iload (np := 56) (x := 4) (by decide +kernel) rfl (by omega) ?_
          refine x_any (np := 57) (k9 := 3) (by decide +kernel) (by decide) (by decide) (by omega) (fun v156 l157 => ?_)
          refine x_any (np := 58) (k9 := 1) (by decide +kernel) (by decide) (by omega) l157 (fun v158 l159 => ?_)
          refine x_istore (np := 59) (x := 3) (lo' := [x_r 0, iv_c a1, iv_c a2, iv_c v158, iv_c v138]) (by decide +kernel) l159 (Nat.le_of_ble_eq_true rfl) rfl ?_
          refine x_iinc (np := 62) (i := 4) (j := 2147483649) (v := (1 + v138)) (lo' := [x_r 0, iv_c a1, iv_c a2, iv_c v158, iv_c (1 + v138)]) (by decide +kernel) (by decide) (by decide) rfl (by omega) (by omega) (by omega) rfl ?_
          refine x_goto (np := 65) (x := 23) (by decide +kernel) ?_
          exact i142 v158 (1 + v138) (by omega) (by omega) (by omega)
      exact p140 _ 2147483648 2147483648 (Nat.lt_succ_self _) (by omega) (by omega)
    have q9 : ¬ (a2 = 2147483648) := q9
    refine x_aload (np := 10) (x := 0) (by decide +kernel) rfl (x_nc_le (by decide)) ?_
    have q160 : h 0 1 = 45 := by have z := jB (e := 1) 0 hJ rg_0_1_0_1 (by decide) (by decide); omega
    refine x_getR (np := 13) (x := 641) (f := 1) (q := 45) (by decide +kernel) (by decide) (by decide +kernel) q160 ?_
    refine x_iload (np := 14) (x := 1) (by decide +kernel) rfl la1 ?_
    refine x_cP (t := 6) (mj := 10) (n := 2) (rc := 2) (ml := 4) (nr := 0) (np := 17) (as := [x_r 45, iv_c a1]) (rest := []) (lo1 := [x_r 45, iv_c a1, 147573952589676412928, 147573952589676412928]) (by decide +kernel) (by decide) (by decide +kernel) (x_rb_of (by decide +kernel)) rfl rfl (x_wr (by decide) (x_wi la1 x_wn)) x_wn (by decide) rfl (c10_45 hJ  (by omega)) (fun v161 l162 q163 => ?_)
    refine x_retI (np := 18) (x := 0) (by decide +kernel) l162 (Or.inl (by decide +kernel)) (Or.inl ⟨_, rfl, l162, ?_⟩)
    exact ⟨hJ, hF, (by omega)⟩
  have q7 : ¬ (a1 < (h (h 0 8) 7)) := q7
  refine x_thr (np := 18) (x := 2) (by decide +kernel) (by decide +kernel) (Nat.le_trans x_wn (by decide)) (Or.inr ⟨_, rfl, ?_⟩)
  refine Or.inr ⟨_, rfl, ?_⟩
  exact ⟨hJ, hF, by decide⟩
set_option maxHeartbeats 0 in
/-- LentNames.busiest()I -/
theorem c121_0 {sc : Nat × Nat} {d  : Nat} {h : xh} (hJ : J h) : X sc 121 (d + 3) (xI fun r h' => h' = h ∧ (2147483648 ≤ r ∧ r ≤ 2147483653)) 0 0 0 [x_r 0, 147573952589676412928, 147573952589676412928] [] h := by
  refine x_const (np := 1) (x := 9223372039002259456) (a := 2147483648) (by decide +kernel) (by decide) (by decide) ?_
  refine x_istore (np := 2) (x := 1) (lo' := [x_r 0, iv_c 2147483648, 147573952589676412928]) (by decide +kernel) (by decide) (Nat.le_of_ble_eq_true rfl) rfl ?_
  refine x_const (np := 3) (x := 9223372043297226753) (a := 2147483649) (by decide +kernel) (by decide) (by decide) ?_
  refine x_istore (np := 4) (x := 2) (lo' := [x_r 0, iv_c 2147483648, iv_c 2147483649]) (by decide +kernel) (by decide) (Nat.le_of_ble_eq_true rfl) rfl ?_
  have p100 : ∀ (n : Nat) (v96 : Nat) (v98 : Nat), 4294967296 - v98 < n → (2147483648 ≤ v96 ∧ v96 ≤ 2147483653) → (2147483649 ≤ v98 ∧ v98 ≤ 2147483654) → X sc 121 (d + 3) (xI fun r h' => h' = h ∧ (2147483648 ≤ r ∧ r ≤ 2147483653)) 0 0 4 [x_r 0, iv_c v96, iv_c v98] [] h := by
    intro n
    induction n with
    | zero => intro v96 v98 q101; exact absurd q101 (Nat.not_lt_zero _)
    | succ n i102 =>
      intro v96 v98 q101 b97 b99
      refine x_iload (np := 5) (x := 2) (by decide +kernel) rfl (by omega) ?_
      refine x_aload (np := 6) (x := 0) (by decide +kernel) rfl (x_nc_le (by decide)) ?_
      have t103 : tw (h 0 8) := hJ.2.1
      refine x_getR (np := 9) (x := 648) (f := 8) (q := (h 0 8)) (by decide +kernel) (by decide) (by decide +kernel) rfl ?_
      have b104 := jB (e := 7) 0 hJ (rg_T0_7_0_1 t103) (by omega) (by omega)
      refine x_getC (np := 12) (x := 519) (f := 7) (q := (h (h 0 8) 7)) (by decide +kernel) (by decide) (tg_0_519_7_0 t103) rfl (fun l105 => ?_)
      refine x_icmp (k := 3) (tg := 42) (np := 15) (by decide +kernel) (by decide) (by omega) l105 (fun q106 => ?_) (fun q107 => ?_)
      · have q106 : (h (h 0 8) 7) ≤ v98 := q106
        refine x_iload (np := 43) (x := 1) (by decide +kernel) rfl (by omega) ?_
        refine x_retI (np := 44) (x := 0) (by decide +kernel) (by omega) (Or.inl (by decide +kernel)) ⟨_, rfl, (by omega), ?_⟩
        exact ⟨rfl, (by omega)⟩
      have q107 : ¬ ((h (h 0 8) 7) ≤ v98) := q107
      refine x_aload (np := 16) (x := 0) (by decide +kernel) rfl (x_nc_le (by decide)) ?_
      have q108 : h 0 1 = 45 := by have z := jB (e := 1) 0 hJ rg_0_1_0_1 (by decide) (by decide); omega
      refine x_getR (np := 19) (x := 641) (f := 1) (q := 45) (by decide +kernel) (by decide) (by decide +kernel) q108 ?_
      refine x_iload (np := 20) (x := 2) (by decide +kernel) rfl (by omega) ?_
      refine x_cP (t := 6) (mj := 10) (n := 2) (rc := 2) (ml := 4) (nr := 0) (np := 23) (as := [x_r 45, iv_c v98]) (rest := []) (lo1 := [x_r 45, iv_c v98, 147573952589676412928, 147573952589676412928]) (by decide +kernel) (by decide) (by decide +kernel) (x_rb_of (by decide +kernel)) rfl rfl (x_wr (by decide) (x_wi (by omega) x_wn)) x_wn (by decide) rfl (c10_45 hJ  (by omega)) (fun v109 l110 q111 => ?_)
      refine x_aload (np := 24) (x := 0) (by decide +kernel) rfl (x_nc_le (by decide)) ?_
      have q112 : h 0 1 = 45 := by have z := jB (e := 1) 0 hJ rg_0_1_0_1 (by decide) (by decide); omega
      refine x_getR (np := 27) (x := 641) (f := 1) (q := 45) (by decide +kernel) (by decide) (by decide +kernel) q112 ?_
      refine x_iload (np := 28) (x := 1) (by decide +kernel) rfl (by omega) ?_
      refine x_cP (t := 6) (mj := 10) (n := 2) (rc := 2) (ml := 4) (nr := 1) (np := 31) (as := [x_r 45, iv_c v96]) (rest := [iv_c v109]) (lo1 := [x_r 45, iv_c v96, 147573952589676412928, 147573952589676412928]) (by decide +kernel) (by decide) (by decide +kernel) (x_rb_of (by decide +kernel)) rfl rfl (x_wr (by decide) (x_wi (by omega) x_wn)) (x_wi l110 x_wn) (by decide) rfl (c10_45 hJ  (by omega)) (fun v113 l114 q115 => ?_)
      refine x_icmp (k := 5) (tg := 36) (np := 34) (by decide +kernel) (by decide) l110 l114 (fun q116 => ?_) (fun q117 => ?_)
      · have q116 : v109 ≤ v113 := q116
        refine x_iinc (np := 39) (i := 2) (j := 2147483649) (v := (1 + v98)) (lo' := [x_r 0, iv_c v96, iv_c (1 + v98)]) (by decide +kernel) (by decide) (by decide) rfl (by omega) (by omega) (by omega) rfl ?_
        refine x_goto (np := 42) (x := 4) (by decide +kernel) ?_
        exact i102 v96 (1 + v98) (by omega) (by omega) (by omega)
      have q117 : ¬ (v109 ≤ v113) := q117
      refine x_iload (np := 35) (x := 2) (by decide +kernel) rfl (by omega) ?_
      refine x_istore (np := 36) (x := 1) (lo' := [x_r 0, iv_c v98, iv_c v98]) (by decide +kernel) (by omega) (Nat.le_of_ble_eq_true rfl) rfl ?_
      refine x_iinc (np := 39) (i := 2) (j := 2147483649) (v := (1 + v98)) (lo' := [x_r 0, iv_c v98, iv_c (1 + v98)]) (by decide +kernel) (by decide) (by decide) rfl (by omega) (by omega) (by omega) rfl ?_
      refine x_goto (np := 42) (x := 4) (by decide +kernel) ?_
      exact i102 v98 (1 + v98) (by omega) (by omega) (by omega)
  exact p100 _ 2147483648 2147483649 (Nat.lt_succ_self _) (by omega) (by omega)
set_option maxHeartbeats 0 in
/-- LentNames.owes(IZ)I -/
theorem c123_0 {sc : Nat × Nat} {d a1 a2 : Nat} {h : xh} (hJ : J h) (ba1 : 0 ≤ a1 ∧ a1 ≤ 4294967295) (ba2 : 2147483648 ≤ a2 ∧ a2 ≤ 2147483649) : X sc 123 (d + 1) (xT (fun r h' => J h' ∧ Fr 0 h h' ∧ (0 ≤ r ∧ r ≤ 4294967295)) (fun E h' => J h' ∧ Fr 0 h h' ∧ (E = 2))) 0 0 0 [x_r 0, iv_c a1, iv_c a2, 147573952589676412928, 147573952589676412928, 147573952589676412928] [] h := by
  have la1 : a1 < 4294967296 := by omega
  have la2 : a2 < 4294967296 := by omega
  have hF := Fr.refl 0 h
  refine x_aload (np := 1) (x := 0) (by decide +kernel) rfl (x_nc_le (by decide)) ?_
  refine x_iload (np := 2) (x := 1) (by decide +kernel) rfl la1 ?_
  refine x_nU (t := 6) (mj := 145) (n := 2) (rc := 11) (ml := 2) (cc := 1) (ss := 6) (nr := 0) (np := 5) (as := [x_r 0, iv_c a1]) (rest := []) (lo1 := [x_r 0, iv_c a1]) (by decide +kernel) (by decide) (by decide +kernel) (by decide +kernel) (x_rb_of (by decide +kernel)) rfl rfl (x_wr (by decide) (x_wi la1 x_wn)) x_wn (by decide) rfl ?_
  refine x_iload (np := 1) (x := 1) (by decide +kernel) rfl la1 ?_
  refine x_ifz (k := 2) (tg := 15) (np := 4) (by decide +kernel) (by decide) la1 (fun q1 => ?_) (fun q2 => ?_)
  · have q1 : a1 < 2147483648 := q1
    refine x_thr (np := 18) (x := 2) (by decide +kernel) (by decide +kernel) (Nat.le_trans x_wn (by decide)) (Or.inr ⟨_, rfl, ?_⟩)
    refine Or.inr ⟨_, rfl, ?_⟩
    exact ⟨hJ, hF, by decide⟩
  have q2 : ¬ (a1 < 2147483648) := q2
  refine x_iload (np := 5) (x := 1) (by decide +kernel) rfl la1 ?_
  refine x_aload (np := 6) (x := 0) (by decide +kernel) rfl (x_nc_le (by decide)) ?_
  have t3 : tw (h 0 8) := hJ.2.1
  refine x_getR (np := 9) (x := 648) (f := 8) (q := (h 0 8)) (by decide +kernel) (by decide) (by decide +kernel) rfl ?_
  have b4 := jB (e := 7) 0 hJ (rg_T0_7_0_1 t3) (by omega) (by omega)
  refine x_getC (np := 12) (x := 519) (f := 7) (q := (h (h 0 8) 7)) (by decide +kernel) (by decide) (tg_0_519_7_0 t3) rfl (fun l5 => ?_)
  refine x_icmp (k := 2) (tg := 26) (np := 15) (by decide +kernel) (by decide) la1 l5 (fun q6 => ?_) (fun q7 => ?_)
  · have q6 : a1 < (h (h 0 8) 7) := q6
    refine x_retV (np := 27) (x := 0) (by decide +kernel) (by decide +kernel) (Or.inl ⟨rfl, ?_⟩)
    refine x_const (np := 6) (x := 9223372039002259456) (a := 2147483648) (by decide +kernel) (by decide) (by decide) ?_
    refine x_istore (np := 7) (x := 3) (lo' := [x_r 0, iv_c a1, iv_c a2, iv_c 2147483648, 147573952589676412928, 147573952589676412928]) (by decide +kernel) (by decide) (Nat.le_of_ble_eq_true rfl) rfl ?_
    refine x_const (np := 8) (x := 9223372039002259456) (a := 2147483648) (by decide +kernel) (by decide) (by decide) ?_
    refine x_istore (np := 10) (x := 4) (lo' := [x_r 0, iv_c a1, iv_c a2, iv_c 2147483648, iv_c 2147483648, 147573952589676412928]) (by decide +kernel) (by decide) (Nat.le_of_ble_eq_true rfl) rfl ?_
    have p793 : ∀ (n : Nat) (v788 : Nat) (v790 : Nat) (w792 : Nat), 4294967296 - v790 < n → (0 ≤ v788 ∧ v788 ≤ 4294967295) → (2147483648 ≤ v790 ∧ v790 ≤ 2147483668) → X sc 123 (d + 1) (xT (fun r h' => J h' ∧ Fr 0 h h' ∧ (0 ≤ r ∧ r ≤ 4294967295)) (fun E h' => J h' ∧ Fr 0 h h' ∧ (E = 2))) 1 6 10 [x_r 0, iv_c a1, iv_c a2, iv_c v788, iv_c v790, w792] [] h := by
      intro n
      induction n with
      | zero => intro v788 v790 w792 q794; exact absurd q794 (Nat.not_lt_zero _)
      | succ n i795 =>
        intro v788 v790 w792 q794 b789 b791
        refine x_iload (np := 12) (x := 4) (by decide +kernel) rfl (by omega) ?_
        refine x_aload (np := 13) (x := 0) (by decide +kernel) rfl (x_nc_le (by decide)) ?_
        refine x_getR (np := 16) (x := 648) (f := 8) (q := (h 0 8)) (by decide +kernel) (by decide) (by decide +kernel) rfl ?_
        have q796 : h (h 0 8) 0 = ((h 0 8) + 1) := tf_0_0 hJ t3
        refine x_getR (np := 19) (x := 512) (f := 0) (q := ((h 0 8) + 1)) (by decide +kernel) (by decide) (tg_0_512_0_1 t3) q796 ?_
        have b797 := jB (e := 2) 0 hJ (rg_T1_2_0_1 t3) (by omega) (by omega)
        refine x_getC (np := 22) (x := 386) (f := 2) (q := (h ((h 0 8) + 1) 2)) (by decide +kernel) (by decide) (tg_1_386_2_0 t3) rfl (fun l798 => ?_)
        refine x_icmp (k := 3) (tg := 82) (np := 25) (by decide +kernel) (by decide) (by omega) l798 (fun q799 => ?_) (fun q800 => ?_)
        · have q799 : (h ((h 0 8) + 1) 2) ≤ v790 := q799
          refine x_iload (np := 83) (x := 3) (by decide +kernel) rfl (by omega) ?_
          refine x_retI (np := 84) (x := 0) (by decide +kernel) (by omega) (Or.inl (by decide +kernel)) (Or.inl ⟨_, rfl, (by omega), ?_⟩)
          exact ⟨hJ, hF, (by omega)⟩
        have q800 : ¬ ((h ((h 0 8) + 1) 2) ≤ v790) := q800
        refine x_iload (np := 26) (x := 2) (by decide +kernel) rfl la2 ?_
        refine x_ifz (k := 0) (tg := 42) (np := 29) (by decide +kernel) (by decide) la2 (fun q801 => ?_) (fun q802 => ?_)
        · have q801 : a2 = 2147483648 := q801
          refine x_aload (np := 43) (x := 0) (by decide +kernel) rfl (x_nc_le (by decide)) ?_
          refine x_getR (np := 46) (x := 648) (f := 8) (q := (h 0 8)) (by decide +kernel) (by decide) (by decide +kernel) rfl ?_
          have q803 : h (h 0 8) 0 = ((h 0 8) + 1) := tf_0_0 hJ t3
          refine x_getR (np := 49) (x := 512) (f := 0) (q := ((h 0 8) + 1)) (by decide +kernel) (by decide) (tg_0_512_0_1 t3) q803 ?_
          refine x_iload (np := 51) (x := 4) (by decide +kernel) rfl (by omega) ?_
          refine x_const (np := 52) (x := 9223372043297226753) (a := 2147483649) (by decide +kernel) (by decide) (by decide) ?_
          refine x_nI (t := 6) (mj := 68) (n := 3) (rc := 7) (ml := 4) (nr := 0) (np := 55) (as := [x_r ((h 0 8) + 1), iv_c v790, iv_c 2147483649]) (rest := []) (lo1 := [x_r ((h 0 8) + 1), iv_c v790, iv_c 2147483649, 147573952589676412928]) (by decide +kernel) (by decide) (by decide +kernel) (x_rb_of (tr_1_7 t3)) rfl rfl (x_wr (tn_1 t3) (x_wi (by omega) (x_wi (by decide) x_wn))) x_wn (by decide) rfl ?_
          refine x_iload (np := 1) (x := 1) (by decide +kernel) rfl (by omega) ?_
          refine x_ifz (k := 2) (tg := 28) (np := 4) (by decide +kernel) (by decide) (by omega) (fun q804 => ?_) (fun q805 => ?_)
          · have q804 : v790 < 2147483648 := q804
            exfalso; omega
          have q805 : ¬ (v790 < 2147483648) := q805
          refine x_iload (np := 5) (x := 1) (by decide +kernel) rfl (by omega) ?_
          refine x_aload (np := 6) (x := 0) (by decide +kernel) rfl (x_nc_le (tn_1 t3)) ?_
          refine x_getC (np := 9) (x := 386) (f := 2) (q := (h ((h 0 8) + 1) 2)) (by decide +kernel) (by decide) (tg_1_386_2_0 t3) rfl (fun l806 => ?_)
          refine x_icmp (k := 3) (tg := 28) (np := 12) (by decide +kernel) (by decide) (by omega) l798 (fun q807 => ?_) (fun q808 => ?_)
          · have q807 : (h ((h 0 8) + 1) 2) ≤ v790 := q807
            exfalso; omega
          have q808 : ¬ ((h ((h 0 8) + 1) 2) ≤ v790) := q808
          refine x_iload (np := 13) (x := 2) (by decide +kernel) rfl (by decide) ?_
          refine x_ifz (k := 2) (tg := 28) (np := 16) (by decide +kernel) (by decide) (by decide) (fun q809 => ?_) (fun q810 => ?_)
          · have q809 : 2147483649 < 2147483648 := q809
            exfalso; omega
          have q810 : ¬ (2147483649 < 2147483648) := q810
          refine x_iload (np := 17) (x := 2) (by decide +kernel) rfl (by decide) ?_
          refine x_aload (np := 18) (x := 0) (by decide +kernel) rfl (x_nc_le (tn_1 t3)) ?_
          have b811 := jB (e := 0) 0 hJ (rg_T1_0_0_1 t3) (by omega) (by omega)
          have q812 : (h ((h 0 8) + 1) 0) = 2147483655 := by omega
          refine x_getC (np := 21) (x := 384) (f := 0) (q := 2147483655) (by decide +kernel) (by decide) (tg_1_384_0_0 t3) q812 (fun l813 => ?_)
          refine x_icmp (k := 3) (tg := 28) (np := 24) (by decide +kernel) (by decide) (by decide) (by decide) (fun q814 => ?_) (fun q815 => ?_)
          · have q814 : 2147483655 ≤ 2147483649 := q814
            exfalso; omega
          have q815 : ¬ (2147483655 ≤ 2147483649) := q815
          refine x_const (np := 25) (x := 9223372043297226753) (a := 2147483649) (by decide +kernel) (by decide) (by decide) ?_
          refine x_goto (np := 28) (x := 29) (by decide +kernel) ?_
          refine x_istore (np := 30) (x := 3) (lo' := [x_r ((h 0 8) + 1), iv_c v790, iv_c 2147483649, iv_c 2147483649]) (by decide +kernel) (by decide) (Nat.le_of_ble_eq_true rfl) rfl ?_
          refine x_iload (np := 31) (x := 3) (by decide +kernel) rfl (by decide) ?_
          refine x_ifz (k := 0) (tg := 50) (np := 34) (by decide +kernel) (by decide) (by decide) (fun q816 => ?_) (fun q817 => ?_)
          · have q816 : 2147483649 = 2147483648 := q816
            exfalso; omega
          have q817 : ¬ (2147483649 = 2147483648) := q817
          refine x_aload (np := 35) (x := 0) (by decide +kernel) rfl (x_nc_le (tn_1 t3)) ?_
          have q818 : h ((h 0 8) + 1) 1 = ((h 0 8) + 2) := tf_1_1 hJ t3
          refine x_getR (np := 38) (x := 385) (f := 1) (q := ((h 0 8) + 2)) (by decide +kernel) (by decide) (tg_1_385_1_1 t3) q818 ?_
          refine x_iload (np := 39) (x := 1) (by decide +kernel) rfl (by omega) ?_
          refine x_aload (np := 40) (x := 0) (by decide +kernel) rfl (x_nc_le (tn_1 t3)) ?_
          refine x_getC (np := 43) (x := 384) (f := 0) (q := 2147483655) (by decide +kernel) (by decide) (tg_1_384_0_0 t3) q812 (fun l819 => ?_)
          obtain ⟨u820, q821⟩ : ∃ z, v790 = 2147483648 + z := ⟨v790 - 2147483648, by omega⟩
          refine x_imul (np := 44) (x := 0) (i := u820) (j := 7) (v := (2147483648 + 7 * u820)) (by decide +kernel) (by omega) (by omega) (by omega) (by omega) (by omega) (by decide) ?_
          refine x_iload (np := 45) (x := 2) (by decide +kernel) rfl (by decide) ?_
          refine x_iadd (np := 46) (x := 0) (v := (2147483649 + 7 * u820)) (by decide +kernel) (by omega) (by decide) (by omega) (by omega) ?_
          refine x_aldC (np := 47) (x := 0) (n := 140) (i := (1 + 7 * u820)) (q := ((h ((h 0 8) + 2) (1 + 7 * u820)))) (by decide +kernel) (ta_2_140 t3) (by omega) (by omega) (by decide) rfl (fun l823 => ?_)
          refine x_goto (np := 50) (x := 51) (by decide +kernel) ?_
          refine x_retI (np := 52) (x := 0) (by decide +kernel) l823 (Or.inl (by decide +kernel)) ⟨_, rfl, l823, ?_⟩
          refine x_istore (np := 57) (x := 5) (lo' := [x_r 0, iv_c a1, iv_c a2, iv_c v788, iv_c v790, iv_c ((h ((h 0 8) + 2) (1 + 7 * u820)))]) (by decide +kernel) l823 (Nat.le_of_ble_eq_true rfl) rfl ?_
          refine x_iload (np := 59) (x := 5) (by decide +kernel) rfl l823 ?_
          refine x_iload (np := 60) (x := 1) (by decide +kernel) rfl la1 ?_
          refine x_icmp (k := 1) (tg := 76) (np := 63) (by decide +kernel) (by decide) l823 la1 (fun q824 => ?_) (fun q825 => ?_)
          · have q824 : ((h ((h 0 8) + 2) (1 + 7 * u820))) ≠ a1 := q824
            refine x_iinc (np := 79) (i := 4) (j := 2147483649) (v := (1 + v790)) (lo' := [x_r 0, iv_c a1, iv_c a2, iv_c v788, iv_c (1 + v790), iv_c ((h ((h 0 8) + 2) (1 + 7 * u820)))]) (by decide +kernel) (by decide) (by decide) rfl (by omega) (by omega) (by omega) rfl ?_
            refine x_goto (np := 82) (x := 10) (by decide +kernel) ?_
            exact i795 v788 (1 + v790) (iv_c ((h ((h 0 8) + 2) (1 + 7 * u820)))) (by omega) (by omega) (by omega)
          have q825 : ¬ (((h ((h 0 8) + 2) (1 + 7 * u820))) ≠ a1) := q825
          refine x_iload (np := 64) (x := 3) (by decide +kernel) rfl (by omega) ?_
          refine x_aload (np := 65) (x := 0) (by decide +kernel) rfl (x_nc_le (by decide)) ?_
          have q826 : h 0 1 = 45 := by have z := jB (e := 1) 0 hJ rg_0_1_0_1 (by decide) (by decide); omega
          refine x_getR (np := 68) (x := 641) (f := 1) (q := 45) (by decide +kernel) (by decide) (by decide +kernel) q826 ?_
          have q827 : h 45 4 = 50 := by have z := jB (e := 4) 0 hJ rg_45_4_0_1 (by decide) (by decide); omega
          refine x_getR (np := 71) (x := 68) (f := 4) (q := 50) (by decide +kernel) (by decide) (by decide +kernel) q827 ?_
          refine x_iload (np := 73) (x := 4) (by decide +kernel) rfl (by omega) ?_
          refine x_aldC (np := 74) (x := 0) (n := 20) (i := u820) (q := (h 50 u820)) (by decide +kernel) (by decide +kernel) (by omega) (by omega) (by decide) rfl (fun l828 => ?_)
          refine x_addA (by rw [tb_b123]; decide +kernel) (by omega) l828 (fun v829 l830 => ?_)
          refine x_istore (np := 76) (x := 3) (lo' := [x_r 0, iv_c a1, iv_c a2, iv_c v829, iv_c v790, iv_c ((h ((h 0 8) + 2) (1 + 7 * u820)))]) (by decide +kernel) l830 (Nat.le_of_ble_eq_true rfl) rfl ?_
          refine x_iinc (np := 79) (i := 4) (j := 2147483649) (v := (1 + v790)) (lo' := [x_r 0, iv_c a1, iv_c a2, iv_c v829, iv_c (1 + v790), iv_c ((h ((h 0 8) + 2) (1 + 7 * u820)))]) (by decide +kernel) (by decide) (by decide) rfl (by omega) (by omega) (by omega) rfl ?_
          refine x_goto (np := 82) (x := 10) (by decide +kernel) ?_
          exact i795 v829 (1 + v790) (iv_c ((h ((h 0 8) + 2) (1 + 7 * u820)))) (by omega) (by omega) (by omega)
        have q802 : ¬ (a2 = 2147483648) := q802
        refine x_aload (np := 30) (x := 0) (by decide +kernel) rfl (x_nc_le (by decide)) ?_
        have q831 : h 0 1 = 45 := by have z := jB (e := 1) 0 hJ rg_0_1_0_1 (by decide) (by decide); omega
        refine x_getR (np := 33) (x := 641) (f := 1) (q := 45) (by decide +kernel) (by decide) (by decide +kernel) q831 ?_
        have q832 : h 45 2 = 48 := by have z := jB (e := 2) 0 hJ rg_45_2_0_1 (by decide) (by decide); omega
        refine x_getR (np := 36) (x := 66) (f := 2) (q := 48) (by decide +kernel) (by decide) (by decide +kernel) q832 ?_
        refine x_iload (np := 38) (x := 4) (by decide +kernel) rfl (by omega) ?_
        obtain ⟨u833, q834⟩ : ∃ z, v790 = 2147483648 + z := ⟨v790 - 2147483648, by omega⟩
        refine x_aldC (np := 39) (x := 0) (n := 20) (i := u833) (q := (h 48 u833)) (by decide +kernel) (by decide +kernel) (by omega) (by omega) (by decide) rfl (fun l835 => ?_)
        refine x_goto (np := 42) (x := 55) (by decide +kernel) ?_
        refine x_istore (np := 57) (x := 5) (lo' := [x_r 0, iv_c a1, iv_c a2, iv_c v788, iv_c v790, iv_c (h 48 u833)]) (by decide +kernel) l835 (Nat.le_of_ble_eq_true rfl) rfl ?_
        refine x_iload (np := 59) (x := 5) (by decide +kernel) rfl l835 ?_
        refine x_iload (np := 60) (x := 1) (by decide +kernel) rfl la1 ?_
        refine x_icmp (k := 1) (tg := 76) (np := 63) (by decide +kernel) (by decide) l835 la1 (fun q836 => ?_) (fun q837 => ?_)
        · have q836 : (h 48 u833) ≠ a1 := q836
          refine x_iinc (np := 79) (i := 4) (j := 2147483649) (v := (1 + v790)) (lo' := [x_r 0, iv_c a1, iv_c a2, iv_c v788, iv_c (1 + v790), iv_c (h 48 u833)]) (by decide +kernel) (by decide) (by decide) rfl (by omega) (by omega) (by omega) rfl ?_
          refine x_goto (np := 82) (x := 10) (by decide +kernel) ?_
          exact i795 v788 (1 + v790) (iv_c (h 48 u833)) (by omega) (by omega) (by omega)
        have q837 : ¬ ((h 48 u833) ≠ a1) := q837
        refine x_iload (np := 64) (x := 3) (by decide +kernel) rfl (by omega) ?_
        refine x_aload (np := 65) (x := 0) (by decide +kernel) rfl (x_nc_le (by decide)) ?_
        have q838 : h 0 1 = 45 := by have z := jB (e := 1) 0 hJ rg_0_1_0_1 (by decide) (by decide); omega
        refine x_getR (np := 68) (x := 641) (f := 1) (q := 45) (by decide +kernel) (by decide) (by decide +kernel) q838 ?_
        have q839 : h 45 4 = 50 := by have z := jB (e := 4) 0 hJ rg_45_4_0_1 (by decide) (by decide); omega
        refine x_getR (np := 71) (x := 68) (f := 4) (q := 50) (by decide +kernel) (by decide) (by decide +kernel) q839 ?_
        refine x_iload (np := 73) (x := 4) (by decide +kernel) rfl (by omega) ?_
        refine x_aldC (np := 74) (x := 0) (n := 20) (i := u833) (q := (h 50 u833)) (by decide +kernel) (by decide +kernel) (by omega) (by omega) (by decide) rfl (fun l840 => ?_)
        refine x_addA (by rw [tb_b123]; decide +kernel) (by omega) l840 (fun v841 l842 => ?_)
        refine x_istore (np := 76) (x := 3) (lo' := [x_r 0, iv_c a1, iv_c a2, iv_c v841, iv_c v790, iv_c (h 48 u833)]) (by decide +kernel) l842 (Nat.le_of_ble_eq_true rfl) rfl ?_
        refine x_iinc (np := 79) (i := 4) (j := 2147483649) (v := (1 + v790)) (lo' := [x_r 0, iv_c a1, iv_c a2, iv_c v841, iv_c (1 + v790), iv_c (h 48 u833)]) (by decide +kernel) (by decide) (by decide) rfl (by omega) (by omega) (by omega) rfl ?_
        refine x_goto (np := 82) (x := 10) (by decide +kernel) ?_
        exact i795 v841 (1 + v790) (iv_c (h 48 u833)) (by omega) (by omega) (by omega)
    exact p793 _ 2147483648 2147483648 147573952589676412928 (Nat.lt_succ_self _) (by omega) (by omega)
  have q7 : ¬ (a1 < (h (h 0 8) 7)) := q7
  refine x_thr (np := 18) (x := 2) (by decide +kernel) (by decide +kernel) (Nat.le_trans x_wn (by decide)) (Or.inr ⟨_, rfl, ?_⟩)
  refine Or.inr ⟨_, rfl, ?_⟩
  exact ⟨hJ, hF, by decide⟩
set_option maxHeartbeats 0 in
/-- LentNames$Table.put(III)V -/
theorem c69_T3_c3 {sc : Nat × Nat} {d ra0 a1 a3 : Nat} {h : xh} (hJ : J h) (ta0 : tw ra0) (ba1 : 2147483648 ≤ a1 ∧ a1 ≤ 2147483657) (ba3 : 2147483647 ≤ a3 ∧ a3 ≤ 2147483653) : X sc 69 d (xV fun h' => J h' ∧ Fr 129 h h') 0 0 0 [x_r (ra0 + 3), iv_c a1, iv_c 2147483651, iv_c a3, 147573952589676412928] [] h := by
  have la1 : a1 < 4294967296 := by omega
  have la3 : a3 < 4294967296 := by omega
  have hF := Fr.refl 129 h
  refine x_iload (np := 1) (x := 1) (by decide +kernel) rfl la1 ?_
  refine x_ifz (k := 2) (tg := 28) (np := 4) (by decide +kernel) (by decide) la1 (fun q1 => ?_) (fun q2 => ?_)
  · have q1 : a1 < 2147483648 := q1
    exfalso; omega
  have q2 : ¬ (a1 < 2147483648) := q2
  refine x_iload (np := 5) (x := 1) (by decide +kernel) rfl la1 ?_
  refine x_aload (np := 6) (x := 0) (by decide +kernel) rfl (x_nc_le (tn_3 ta0)) ?_
  have b3 := jB (e := 2) 0 hJ (rg_T3_2_0_1 ta0) (by omega) (by omega)
  refine x_getC (np := 9) (x := 386) (f := 2) (q := (h (ra0 + 3) 2)) (by decide +kernel) (by decide) (tg_3_386_2_0 ta0) rfl (fun l4 => ?_)
  refine x_icmp (k := 3) (tg := 28) (np := 12) (by decide +kernel) (by decide) la1 l4 (fun q5 => ?_) (fun q6 => ?_)
  · have q5 : (h (ra0 + 3) 2) ≤ a1 := q5
    refine x_const (np := 29) (x := 9223372039002259456) (a := 2147483648) (by decide +kernel) (by decide) (by decide) ?_
    refine x_istore (np := 31) (x := 4) (lo' := [x_r (ra0 + 3), iv_c a1, iv_c 2147483651, iv_c a3, iv_c 2147483648]) (by decide +kernel) (by decide) (Nat.le_of_ble_eq_true rfl) rfl ?_
    refine x_iload (np := 33) (x := 4) (by decide +kernel) rfl (by decide) ?_
    refine x_ifz (k := 0) (tg := 50) (np := 36) (by decide +kernel) (by decide) (by decide) (fun q7 => ?_) (fun q8 => ?_)
    · have q7 : 2147483648 = 2147483648 := q7
      refine x_retV (np := 51) (x := 0) (by decide +kernel) (by decide +kernel) ⟨rfl, ?_⟩
      exact ⟨hJ, hF⟩
    have q8 : ¬ (2147483648 = 2147483648) := q8
    exfalso; omega
  have q6 : ¬ ((h (ra0 + 3) 2) ≤ a1) := q6
  refine x_iload (np := 13) (x := 2) (by decide +kernel) rfl (by decide) ?_
  refine x_ifz (k := 2) (tg := 28) (np := 16) (by decide +kernel) (by decide) (by decide) (fun q9 => ?_) (fun q10 => ?_)
  · have q9 : 2147483651 < 2147483648 := q9
    exfalso; omega
  have q10 : ¬ (2147483651 < 2147483648) := q10
  refine x_iload (np := 17) (x := 2) (by decide +kernel) rfl (by decide) ?_
  refine x_aload (np := 18) (x := 0) (by decide +kernel) rfl (x_nc_le (tn_3 ta0)) ?_
  have b11 := jB (e := 0) 0 hJ (rg_T3_0_0_1 ta0) (by omega) (by omega)
  have q12 : (h (ra0 + 3) 0) = 2147483652 := by omega
  refine x_getC (np := 21) (x := 384) (f := 0) (q := 2147483652) (by decide +kernel) (by decide) (tg_3_384_0_0 ta0) q12 (fun l13 => ?_)
  refine x_icmp (k := 3) (tg := 28) (np := 24) (by decide +kernel) (by decide) (by decide) (by decide) (fun q14 => ?_) (fun q15 => ?_)
  · have q14 : 2147483652 ≤ 2147483651 := q14
    exfalso; omega
  have q15 : ¬ (2147483652 ≤ 2147483651) := q15
  refine x_const (np := 25) (x := 9223372043297226753) (a := 2147483649) (by decide +kernel) (by decide) (by decide) ?_
  refine x_goto (np := 28) (x := 29) (by decide +kernel) ?_
  refine x_istore (np := 31) (x := 4) (lo' := [x_r (ra0 + 3), iv_c a1, iv_c 2147483651, iv_c a3, iv_c 2147483649]) (by decide +kernel) (by decide) (Nat.le_of_ble_eq_true rfl) rfl ?_
  refine x_iload (np := 33) (x := 4) (by decide +kernel) rfl (by decide) ?_
  refine x_ifz (k := 0) (tg := 50) (np := 36) (by decide +kernel) (by decide) (by decide) (fun q16 => ?_) (fun q17 => ?_)
  · have q16 : 2147483649 = 2147483648 := q16
    exfalso; omega
  have q17 : ¬ (2147483649 = 2147483648) := q17
  refine x_aload (np := 37) (x := 0) (by decide +kernel) rfl (x_nc_le (tn_3 ta0)) ?_
  have q18 : h (ra0 + 3) 1 = (ra0 + 4) := tf_3_1 hJ ta0
  refine x_getR (np := 40) (x := 385) (f := 1) (q := (ra0 + 4)) (by decide +kernel) (by decide) (tg_3_385_1_1 ta0) q18 ?_
  refine x_iload (np := 41) (x := 1) (by decide +kernel) rfl la1 ?_
  refine x_aload (np := 42) (x := 0) (by decide +kernel) rfl (x_nc_le (tn_3 ta0)) ?_
  refine x_getC (np := 45) (x := 384) (f := 0) (q := 2147483652) (by decide +kernel) (by decide) (tg_3_384_0_0 ta0) q12 (fun l19 => ?_)
  obtain ⟨u20, q21⟩ : ∃ z, a1 = 2147483648 + z := ⟨a1 - 2147483648, by omega⟩
  refine x_imul (np := 46) (x := 0) (i := u20) (j := 4) (v := (2147483648 + 4 * u20)) (by decide +kernel) (by omega) (by omega) (by omega) (by omega) la1 (by decide) ?_
  refine x_iload (np := 47) (x := 2) (by decide +kernel) rfl (by decide) ?_
  refine x_iadd (np := 48) (x := 0) (v := (2147483651 + 4 * u20)) (by decide +kernel) (by omega) (by decide) (by omega) (by omega) ?_
  refine x_iload (np := 49) (x := 3) (by decide +kernel) rfl la3 ?_
  refine x_ast (np := 50) (x := 0) (kd := 1) (n := 40) (i := (3 + 4 * u20)) (by decide +kernel) (Or.inl rfl) (ta_4_40 ta0) (by omega) (by omega) (by decide) la3 (fun z => absurd z (by decide)) ?_
  have j24 := jU (e := (3 + 4 * u20)) (v := a3) u20 hJ (rg_T4_3_4_10 ta0) (by omega) (by omega) (by omega)
  have f26 := jF (e := (3 + 4 * u20)) (v := a3) u20 hF (rg_T4_3_4_10 ta0) (by omega) (by omega) (by decide)
  generalize e25 : x_up h (ra0 + 4) (3 + 4 * u20) a3 = h23 at j24 f26 ⊢
  refine x_retV (np := 51) (x := 0) (by decide +kernel) (by decide +kernel) ⟨rfl, ?_⟩
  exact ⟨j24, f26⟩
set_option maxHeartbeats 0 in
/-- LentNames.wish(II)I -/
theorem c125_0 {sc : Nat × Nat} {d a1 a2 : Nat} {h : xh} (hJ : J h) (ba1 : 0 ≤ a1 ∧ a1 ≤ 4294967295) (ba2 : 0 ≤ a2 ∧ a2 ≤ 4294967295) : X sc 125 (d + 1) (xT (fun r h' => J h' ∧ Fr 32897 h h' ∧ (2147483647 ≤ r ∧ r ≤ 2147483653)) (fun E h' => J h' ∧ Fr 32897 h h' ∧ (E = 2))) 0 0 0 [x_r 0, iv_c a1, iv_c a2, 147573952589676412928] [] h := by
  have la1 : a1 < 4294967296 := by omega
  have la2 : a2 < 4294967296 := by omega
  have hF := Fr.refl 32897 h
  refine x_aload (np := 1) (x := 0) (by decide +kernel) rfl (x_nc_le (by decide)) ?_
  have t1 : tw (h 0 8) := hJ.2.1
  refine x_getR (np := 4) (x := 648) (f := 8) (q := (h 0 8)) (by decide +kernel) (by decide) (by decide +kernel) rfl ?_
  have q2 : h (h 0 8) 1 = ((h 0 8) + 3) := tf_0_1 hJ t1
  refine x_getR (np := 7) (x := 513) (f := 1) (q := ((h 0 8) + 3)) (by decide +kernel) (by decide) (tg_0_513_1_1 t1) q2 ?_
  refine x_iload (np := 8) (x := 1) (by decide +kernel) rfl la1 ?_
  refine x_nU (t := 0) (mj := 147) (n := 2) (rc := 0) (ml := 2) (cc := 1) (ss := 6) (nr := 0) (np := 11) (as := [x_r ((h 0 8) + 3), iv_c a1]) (rest := []) (lo1 := [x_r ((h 0 8) + 3), iv_c a1]) (by decide +kernel) (by decide) (by decide +kernel) (by decide +kernel) (Or.inl rfl) rfl rfl (x_wr (tn_3 t1) (x_wi la1 x_wn)) x_wn (by decide) rfl ?_
  refine x_iload (np := 1) (x := 1) (by decide +kernel) rfl la1 ?_
  refine x_ifz (k := 2) (tg := 12) (np := 4) (by decide +kernel) (by decide) la1 (fun q3 => ?_) (fun q4 => ?_)
  · have q3 : a1 < 2147483648 := q3
    refine x_thr (np := 15) (x := 2) (by decide +kernel) (by decide +kernel) (Nat.le_trans x_wn (by decide)) (Or.inr ⟨_, rfl, ?_⟩)
    refine Or.inr ⟨_, rfl, ?_⟩
    exact ⟨hJ, hF, by decide⟩
  have q4 : ¬ (a1 < 2147483648) := q4
  refine x_iload (np := 5) (x := 1) (by decide +kernel) rfl la1 ?_
  refine x_aload (np := 6) (x := 0) (by decide +kernel) rfl (x_nc_le (tn_3 t1)) ?_
  have b5 := jB (e := 2) 0 hJ (rg_T3_2_0_1 t1) (by omega) (by omega)
  refine x_getC (np := 9) (x := 386) (f := 2) (q := (h ((h 0 8) + 3) 2)) (by decide +kernel) (by decide) (tg_3_386_2_0 t1) rfl (fun l6 => ?_)
  refine x_icmp (k := 2) (tg := 23) (np := 12) (by decide +kernel) (by decide) la1 l6 (fun q7 => ?_) (fun q8 => ?_)
  · have q7 : a1 < (h ((h 0 8) + 3) 2) := q7
    refine x_retV (np := 24) (x := 0) (by decide +kernel) (by decide +kernel) (Or.inl ⟨rfl, ?_⟩)
    refine x_iload (np := 12) (x := 2) (by decide +kernel) rfl la2 ?_
    refine x_const (np := 13) (x := 9223372034707292159) (a := 2147483647) (by decide +kernel) (by decide) (by decide) ?_
    refine x_icmp (k := 0) (tg := 21) (np := 16) (by decide +kernel) (by decide) la2 (by decide) (fun q9 => ?_) (fun q10 => ?_)
    · have q9 : a2 = 2147483647 := q9
      refine x_aload (np := 22) (x := 0) (by decide +kernel) rfl (x_nc_le (by decide)) ?_
      refine x_getR (np := 25) (x := 648) (f := 8) (q := (h 0 8)) (by decide +kernel) (by decide) (by decide +kernel) rfl ?_
      have q11 : h (h 0 8) 1 = ((h 0 8) + 3) := tf_0_1 hJ t1
      refine x_getR (np := 28) (x := 513) (f := 1) (q := ((h 0 8) + 3)) (by decide +kernel) (by decide) (tg_0_513_1_1 t1) q11 ?_
      refine x_iload (np := 29) (x := 1) (by decide +kernel) rfl la1 ?_
      refine x_const (np := 30) (x := 9223372051887161347) (a := 2147483651) (by decide +kernel) (by decide) (by decide) ?_
      refine x_nI (t := 6) (mj := 68) (n := 3) (rc := 7) (ml := 4) (nr := 0) (np := 33) (as := [x_r ((h 0 8) + 3), iv_c a1, iv_c 2147483651]) (rest := []) (lo1 := [x_r ((h 0 8) + 3), iv_c a1, iv_c 2147483651, 147573952589676412928]) (by decide +kernel) (by decide) (by decide +kernel) (x_rb_of (tr_3_7 t1)) rfl rfl (x_wr (tn_3 t1) (x_wi la1 (x_wi (by decide) x_wn))) x_wn (by decide) rfl ?_
      refine x_iload (np := 1) (x := 1) (by decide +kernel) rfl la1 ?_
      refine x_ifz (k := 2) (tg := 28) (np := 4) (by decide +kernel) (by decide) la1 (fun q12 => ?_) (fun q13 => ?_)
      · have q12 : a1 < 2147483648 := q12
        exfalso; omega
      have q13 : ¬ (a1 < 2147483648) := q13
      refine x_iload (np := 5) (x := 1) (by decide +kernel) rfl la1 ?_
      refine x_aload (np := 6) (x := 0) (by decide +kernel) rfl (x_nc_le (tn_3 t1)) ?_
      refine x_getC (np := 9) (x := 386) (f := 2) (q := (h ((h 0 8) + 3) 2)) (by decide +kernel) (by decide) (tg_3_386_2_0 t1) rfl (fun l14 => ?_)
      refine x_icmp (k := 3) (tg := 28) (np := 12) (by decide +kernel) (by decide) la1 l6 (fun q15 => ?_) (fun q16 => ?_)
      · have q15 : (h ((h 0 8) + 3) 2) ≤ a1 := q15
        exfalso; omega
      have q16 : ¬ ((h ((h 0 8) + 3) 2) ≤ a1) := q16
      refine x_iload (np := 13) (x := 2) (by decide +kernel) rfl (by decide) ?_
      refine x_ifz (k := 2) (tg := 28) (np := 16) (by decide +kernel) (by decide) (by decide) (fun q17 => ?_) (fun q18 => ?_)
      · have q17 : 2147483651 < 2147483648 := q17
        exfalso; omega
      have q18 : ¬ (2147483651 < 2147483648) := q18
      refine x_iload (np := 17) (x := 2) (by decide +kernel) rfl (by decide) ?_
      refine x_aload (np := 18) (x := 0) (by decide +kernel) rfl (x_nc_le (tn_3 t1)) ?_
      have b19 := jB (e := 0) 0 hJ (rg_T3_0_0_1 t1) (by omega) (by omega)
      have q20 : (h ((h 0 8) + 3) 0) = 2147483652 := by omega
      refine x_getC (np := 21) (x := 384) (f := 0) (q := 2147483652) (by decide +kernel) (by decide) (tg_3_384_0_0 t1) q20 (fun l21 => ?_)
      refine x_icmp (k := 3) (tg := 28) (np := 24) (by decide +kernel) (by decide) (by decide) (by decide) (fun q22 => ?_) (fun q23 => ?_)
      · have q22 : 2147483652 ≤ 2147483651 := q22
        exfalso; omega
      have q23 : ¬ (2147483652 ≤ 2147483651) := q23
      refine x_const (np := 25) (x := 9223372043297226753) (a := 2147483649) (by decide +kernel) (by decide) (by decide) ?_
      refine x_goto (np := 28) (x := 29) (by decide +kernel) ?_
      refine x_istore (np := 30) (x := 3) (lo' := [x_r ((h 0 8) + 3), iv_c a1, iv_c 2147483651, iv_c 2147483649]) (by decide +kernel) (by decide) (Nat.le_of_ble_eq_true rfl) rfl ?_
      refine x_iload (np := 31) (x := 3) (by decide +kernel) rfl (by decide) ?_
      refine x_ifz (k := 0) (tg := 50) (np := 34) (by decide +kernel) (by decide) (by decide) (fun q24 => ?_) (fun q25 => ?_)
      · have q24 : 2147483649 = 2147483648 := q24
        exfalso; omega
      have q25 : ¬ (2147483649 = 2147483648) := q25
      refine x_aload (np := 35) (x := 0) (by decide +kernel) rfl (x_nc_le (tn_3 t1)) ?_
      have q26 : h ((h 0 8) + 3) 1 = ((h 0 8) + 4) := tf_3_1 hJ t1
      refine x_getR (np := 38) (x := 385) (f := 1) (q := ((h 0 8) + 4)) (by decide +kernel) (by decide) (tg_3_385_1_1 t1) q26 ?_
      refine x_iload (np := 39) (x := 1) (by decide +kernel) rfl la1 ?_
      refine x_aload (np := 40) (x := 0) (by decide +kernel) rfl (x_nc_le (tn_3 t1)) ?_
      refine x_getC (np := 43) (x := 384) (f := 0) (q := 2147483652) (by decide +kernel) (by decide) (tg_3_384_0_0 t1) q20 (fun l27 => ?_)
      obtain ⟨u28, q29⟩ : ∃ z, a1 = 2147483648 + z := ⟨a1 - 2147483648, by omega⟩
      refine x_imul (np := 44) (x := 0) (i := u28) (j := 4) (v := (2147483648 + 4 * u28)) (by decide +kernel) (by omega) (by omega) (by omega) (by omega) la1 (by decide) ?_
      refine x_iload (np := 45) (x := 2) (by decide +kernel) rfl (by decide) ?_
      refine x_iadd (np := 46) (x := 0) (v := (2147483651 + 4 * u28)) (by decide +kernel) (by omega) (by decide) (by omega) (by omega) ?_
      have b31 := jB (e := (3 + 4 * u28)) u28 hJ (rg_T4_3_4_10 t1) (by omega) (by omega)
      refine x_aldC (np := 47) (x := 0) (n := 40) (i := (3 + 4 * u28)) (q := ((h ((h 0 8) + 4) (3 + 4 * u28)))) (by decide +kernel) (ta_4_40 t1) (by omega) (by omega) (by decide) rfl (fun l32 => ?_)
      refine x_goto (np := 50) (x := 51) (by decide +kernel) ?_
      refine x_retI (np := 52) (x := 0) (by decide +kernel) l32 (Or.inl (by decide +kernel)) ⟨_, rfl, l32, ?_⟩
      refine x_istore (np := 34) (x := 3) (lo' := [x_r 0, iv_c a1, iv_c a2, iv_c ((h ((h 0 8) + 4) (3 + 4 * u28)))]) (by decide +kernel) l32 (Nat.le_of_ble_eq_true rfl) rfl ?_
      refine x_aload (np := 35) (x := 0) (by decide +kernel) rfl (x_nc_le (by decide)) ?_
      refine x_getR (np := 38) (x := 648) (f := 8) (q := (h 0 8)) (by decide +kernel) (by decide) (by decide +kernel) rfl ?_
      have q33 : h (h 0 8) 1 = ((h 0 8) + 3) := tf_0_1 hJ t1
      refine x_getR (np := 41) (x := 513) (f := 1) (q := ((h 0 8) + 3)) (by decide +kernel) (by decide) (tg_0_513_1_1 t1) q33 ?_
      refine x_iload (np := 42) (x := 1) (by decide +kernel) rfl la1 ?_
      refine x_const (np := 43) (x := 9223372051887161347) (a := 2147483651) (by decide +kernel) (by decide) (by decide) ?_
      refine x_iload (np := 44) (x := 2) (by decide +kernel) rfl la2 ?_
      refine x_cV (t := 6) (mj := 69) (n := 4) (rc := 7) (ml := 5) (nr := 0) (np := 47) (as := [x_r ((h 0 8) + 3), iv_c a1, iv_c 2147483651, iv_c a2]) (rest := []) (lo1 := [x_r ((h 0 8) + 3), iv_c a1, iv_c 2147483651, iv_c a2, 147573952589676412928]) (by decide +kernel) (by decide) (by decide +kernel) (x_rb_of (tr_3_7 t1)) rfl rfl (x_wr (tn_3 t1) (x_wi la1 (x_wi (by decide) (x_wi la2 x_wn)))) x_wn (by decide) rfl (c69_T3_c3 hJ t1 (by omega)  (by omega)) (fun h37 q36 => ?_)
      obtain ⟨j38, f39⟩ := q36
      have f42 := Fr.trans hF f39 (by decide)
      refine x_aload (np := 48) (x := 0) (by decide +kernel) rfl (x_nc_le (by decide)) ?_
      have q43 : h37 0 5 = 63 := by have z := jB (e := 5) 0 j38 rg_0_5_0_1 (by decide) (by decide); omega
      refine x_getR (np := 51) (x := 645) (f := 5) (q := 63) (by decide +kernel) (by decide) (by decide +kernel) q43 ?_
      refine x_nV (t := 8) (mj := 270) (n := 1) (rc := 5) (ml := 1) (nr := 0) (np := 54) (as := [x_r 63]) (rest := []) (lo1 := [x_r 63]) (by decide +kernel) (by decide) (by decide +kernel) (x_rb_of (by decide +kernel)) rfl rfl (x_wr (by decide) x_wn) x_wn (by decide) rfl ?_
      refine x_aload (np := 1) (x := 0) (by decide +kernel) rfl (x_nc_le (by decide)) ?_
      refine x_const (np := 2) (x := 9223372039002259456) (a := 2147483648) (by decide +kernel) (by decide) (by decide) ?_
      refine x_putI (np := 5) (x := 4878) (f := 14) (by decide +kernel) (by decide +kernel) (by decide) (Or.inr ⟨by decide, by omega, by omega⟩) ?_
      have j45 := jU (e := 14) (v := 2147483648) 0 j38 rg_63_14_0_1 (by omega) (by omega) (by omega)
      have f47 := jF (e := 14) (v := 2147483648) 0 f42 rg_63_14_0_1 (by omega) (by omega) (by decide)
      generalize e46 : x_up h37 63 14 2147483648 = h44 at j45 f47 ⊢
      refine x_retV (np := 6) (x := 0) (by decide +kernel) (by decide +kernel) ⟨rfl, ?_⟩
      refine x_iload (np := 55) (x := 3) (by decide +kernel) rfl l32 ?_
      refine x_retI (np := 56) (x := 0) (by decide +kernel) l32 (Or.inl (by decide +kernel)) (Or.inl ⟨_, rfl, l32, ?_⟩)
      exact ⟨j45, f47, (by omega)⟩
    have q10 : ¬ (a2 = 2147483647) := q10
    refine x_aload (np := 17) (x := 0) (by decide +kernel) rfl (x_nc_le (by decide)) ?_
    refine x_iload (np := 18) (x := 2) (by decide +kernel) rfl la2 ?_
    refine x_nU (t := 6) (mj := 145) (n := 2) (rc := 11) (ml := 2) (cc := 1) (ss := 6) (nr := 0) (np := 21) (as := [x_r 0, iv_c a2]) (rest := []) (lo1 := [x_r 0, iv_c a2]) (by decide +kernel) (by decide) (by decide +kernel) (by decide +kernel) (x_rb_of (by decide +kernel)) rfl rfl (x_wr (by decide) (x_wi la2 x_wn)) x_wn (by decide) rfl ?_
    refine x_iload (np := 1) (x := 1) (by decide +kernel) rfl la2 ?_
    refine x_ifz (k := 2) (tg := 15) (np := 4) (by decide +kernel) (by decide) la2 (fun q48 => ?_) (fun q49 => ?_)
    · have q48 : a2 < 2147483648 := q48
      refine x_thr (np := 18) (x := 2) (by decide +kernel) (by decide +kernel) (Nat.le_trans x_wn (by decide)) (Or.inr ⟨_, rfl, ?_⟩)
      refine Or.inr ⟨_, rfl, ?_⟩
      exact ⟨hJ, hF, by decide⟩
    have q49 : ¬ (a2 < 2147483648) := q49
    refine x_iload (np := 5) (x := 1) (by decide +kernel) rfl la2 ?_
    refine x_aload (np := 6) (x := 0) (by decide +kernel) rfl (x_nc_le (by decide)) ?_
    refine x_getR (np := 9) (x := 648) (f := 8) (q := (h 0 8)) (by decide +kernel) (by decide) (by decide +kernel) rfl ?_
    have b50 := jB (e := 7) 0 hJ (rg_T0_7_0_1 t1) (by omega) (by omega)
    refine x_getC (np := 12) (x := 519) (f := 7) (q := (h (h 0 8) 7)) (by decide +kernel) (by decide) (tg_0_519_7_0 t1) rfl (fun l51 => ?_)
    refine x_icmp (k := 2) (tg := 26) (np := 15) (by decide +kernel) (by decide) la2 l51 (fun q52 => ?_) (fun q53 => ?_)
    · have q52 : a2 < (h (h 0 8) 7) := q52
      refine x_retV (np := 27) (x := 0) (by decide +kernel) (by decide +kernel) (Or.inl ⟨rfl, ?_⟩)
      refine x_aload (np := 22) (x := 0) (by decide +kernel) rfl (x_nc_le (by decide)) ?_
      refine x_getR (np := 25) (x := 648) (f := 8) (q := (h 0 8)) (by decide +kernel) (by decide) (by decide +kernel) rfl ?_
      have q54 : h (h 0 8) 1 = ((h 0 8) + 3) := tf_0_1 hJ t1
      refine x_getR (np := 28) (x := 513) (f := 1) (q := ((h 0 8) + 3)) (by decide +kernel) (by decide) (tg_0_513_1_1 t1) q54 ?_
      refine x_iload (np := 29) (x := 1) (by decide +kernel) rfl la1 ?_
      refine x_const (np := 30) (x := 9223372051887161347) (a := 2147483651) (by decide +kernel) (by decide) (by decide) ?_
      refine x_nI (t := 6) (mj := 68) (n := 3) (rc := 7) (ml := 4) (nr := 0) (np := 33) (as := [x_r ((h 0 8) + 3), iv_c a1, iv_c 2147483651]) (rest := []) (lo1 := [x_r ((h 0 8) + 3), iv_c a1, iv_c 2147483651, 147573952589676412928]) (by decide +kernel) (by decide) (by decide +kernel) (x_rb_of (tr_3_7 t1)) rfl rfl (x_wr (tn_3 t1) (x_wi la1 (x_wi (by decide) x_wn))) x_wn (by decide) rfl ?_
      refine x_iload (np := 1) (x := 1) (by decide +kernel) rfl la1 ?_
      refine x_ifz (k := 2) (tg := 28) (np := 4) (by decide +kernel) (by decide) la1 (fun q55 => ?_) (fun q56 => ?_)
      · have q55 : a1 < 2147483648 := q55
        exfalso; omega
      have q56 : ¬ (a1 < 2147483648) := q56
      refine x_iload (np := 5) (x := 1) (by decide +kernel) rfl la1 ?_
      refine x_aload (np := 6) (x := 0) (by decide +kernel) rfl (x_nc_le (tn_3 t1)) ?_
      refine x_getC (np := 9) (x := 386) (f := 2) (q := (h ((h 0 8) + 3) 2)) (by decide +kernel) (by decide) (tg_3_386_2_0 t1) rfl (fun l57 => ?_)
      refine x_icmp (k := 3) (tg := 28) (np := 12) (by decide +kernel) (by decide) la1 l6 (fun q58 => ?_) (fun q59 => ?_)
      · have q58 : (h ((h 0 8) + 3) 2) ≤ a1 := q58
        exfalso; omega
      have q59 : ¬ ((h ((h 0 8) + 3) 2) ≤ a1) := q59
      refine x_iload (np := 13) (x := 2) (by decide +kernel) rfl (by decide) ?_
      refine x_ifz (k := 2) (tg := 28) (np := 16) (by decide +kernel) (by decide) (by decide) (fun q60 => ?_) (fun q61 => ?_)
      · have q60 : 2147483651 < 2147483648 := q60
        exfalso; omega
      have q61 : ¬ (2147483651 < 2147483648) := q61
      refine x_iload (np := 17) (x := 2) (by decide +kernel) rfl (by decide) ?_
      refine x_aload (np := 18) (x := 0) (by decide +kernel) rfl (x_nc_le (tn_3 t1)) ?_
      have b62 := jB (e := 0) 0 hJ (rg_T3_0_0_1 t1) (by omega) (by omega)
      have q63 : (h ((h 0 8) + 3) 0) = 2147483652 := by omega
      refine x_getC (np := 21) (x := 384) (f := 0) (q := 2147483652) (by decide +kernel) (by decide) (tg_3_384_0_0 t1) q63 (fun l64 => ?_)
      refine x_icmp (k := 3) (tg := 28) (np := 24) (by decide +kernel) (by decide) (by decide) (by decide) (fun q65 => ?_) (fun q66 => ?_)
      · have q65 : 2147483652 ≤ 2147483651 := q65
        exfalso; omega
      have q66 : ¬ (2147483652 ≤ 2147483651) := q66
      refine x_const (np := 25) (x := 9223372043297226753) (a := 2147483649) (by decide +kernel) (by decide) (by decide) ?_
      refine x_goto (np := 28) (x := 29) (by decide +kernel) ?_
      refine x_istore (np := 30) (x := 3) (lo' := [x_r ((h 0 8) + 3), iv_c a1, iv_c 2147483651, iv_c 2147483649]) (by decide +kernel) (by decide) (Nat.le_of_ble_eq_true rfl) rfl ?_
      refine x_iload (np := 31) (x := 3) (by decide +kernel) rfl (by decide) ?_
      refine x_ifz (k := 0) (tg := 50) (np := 34) (by decide +kernel) (by decide) (by decide) (fun q67 => ?_) (fun q68 => ?_)
      · have q67 : 2147483649 = 2147483648 := q67
        exfalso; omega
      have q68 : ¬ (2147483649 = 2147483648) := q68
      refine x_aload (np := 35) (x := 0) (by decide +kernel) rfl (x_nc_le (tn_3 t1)) ?_
      have q69 : h ((h 0 8) + 3) 1 = ((h 0 8) + 4) := tf_3_1 hJ t1
      refine x_getR (np := 38) (x := 385) (f := 1) (q := ((h 0 8) + 4)) (by decide +kernel) (by decide) (tg_3_385_1_1 t1) q69 ?_
      refine x_iload (np := 39) (x := 1) (by decide +kernel) rfl la1 ?_
      refine x_aload (np := 40) (x := 0) (by decide +kernel) rfl (x_nc_le (tn_3 t1)) ?_
      refine x_getC (np := 43) (x := 384) (f := 0) (q := 2147483652) (by decide +kernel) (by decide) (tg_3_384_0_0 t1) q63 (fun l70 => ?_)
      obtain ⟨u71, q72⟩ : ∃ z, a1 = 2147483648 + z := ⟨a1 - 2147483648, by omega⟩
      refine x_imul (np := 44) (x := 0) (i := u71) (j := 4) (v := (2147483648 + 4 * u71)) (by decide +kernel) (by omega) (by omega) (by omega) (by omega) la1 (by decide) ?_
      refine x_iload (np := 45) (x := 2) (by decide +kernel) rfl (by decide) ?_
      refine x_iadd (np := 46) (x := 0) (v := (2147483651 + 4 * u71)) (by decide +kernel) (by omega) (by decide) (by omega) (by omega) ?_
      have b74 := jB (e := (3 + 4 * u71)) u71 hJ (rg_T4_3_4_10 t1) (by omega) (by omega)
      refine x_aldC (np := 47) (x := 0) (n := 40) (i := (3 + 4 * u71)) (q := ((h ((h 0 8) + 4) (3 + 4 * u71)))) (by decide +kernel) (ta_4_40 t1) (by omega) (by omega) (by decide) rfl (fun l75 => ?_)
      refine x_goto (np := 50) (x := 51) (by decide +kernel) ?_
      refine x_retI (np := 52) (x := 0) (by decide +kernel) l75 (Or.inl (by decide +kernel)) ⟨_, rfl, l75, ?_⟩
      refine x_istore (np := 34) (x := 3) (lo' := [x_r 0, iv_c a1, iv_c a2, iv_c ((h ((h 0 8) + 4) (3 + 4 * u71)))]) (by decide +kernel) l75 (Nat.le_of_ble_eq_true rfl) rfl ?_
      refine x_aload (np := 35) (x := 0) (by decide +kernel) rfl (x_nc_le (by decide)) ?_
      refine x_getR (np := 38) (x := 648) (f := 8) (q := (h 0 8)) (by decide +kernel) (by decide) (by decide +kernel) rfl ?_
      have q76 : h (h 0 8) 1 = ((h 0 8) + 3) := tf_0_1 hJ t1
      refine x_getR (np := 41) (x := 513) (f := 1) (q := ((h 0 8) + 3)) (by decide +kernel) (by decide) (tg_0_513_1_1 t1) q76 ?_
      refine x_iload (np := 42) (x := 1) (by decide +kernel) rfl la1 ?_
      refine x_const (np := 43) (x := 9223372051887161347) (a := 2147483651) (by decide +kernel) (by decide) (by decide) ?_
      refine x_iload (np := 44) (x := 2) (by decide +kernel) rfl la2 ?_
      refine x_cV (t := 6) (mj := 69) (n := 4) (rc := 7) (ml := 5) (nr := 0) (np := 47) (as := [x_r ((h 0 8) + 3), iv_c a1, iv_c 2147483651, iv_c a2]) (rest := []) (lo1 := [x_r ((h 0 8) + 3), iv_c a1, iv_c 2147483651, iv_c a2, 147573952589676412928]) (by decide +kernel) (by decide) (by decide +kernel) (x_rb_of (tr_3_7 t1)) rfl rfl (x_wr (tn_3 t1) (x_wi la1 (x_wi (by decide) (x_wi la2 x_wn)))) x_wn (by decide) rfl (c69_T3_c3 hJ t1 (by omega)  (by omega)) (fun h80 q79 => ?_)
      obtain ⟨j81, f82⟩ := q79
      have f85 := Fr.trans hF f82 (by decide)
      refine x_aload (np := 48) (x := 0) (by decide +kernel) rfl (x_nc_le (by decide)) ?_
      have q86 : h80 0 5 = 63 := by have z := jB (e := 5) 0 j81 rg_0_5_0_1 (by decide) (by decide); omega
      refine x_getR (np := 51) (x := 645) (f := 5) (q := 63) (by decide +kernel) (by decide) (by decide +kernel) q86 ?_
      refine x_nV (t := 8) (mj := 270) (n := 1) (rc := 5) (ml := 1) (nr := 0) (np := 54) (as := [x_r 63]) (rest := []) (lo1 := [x_r 63]) (by decide +kernel) (by decide) (by decide +kernel) (x_rb_of (by decide +kernel)) rfl rfl (x_wr (by decide) x_wn) x_wn (by decide) rfl ?_
      refine x_aload (np := 1) (x := 0) (by decide +kernel) rfl (x_nc_le (by decide)) ?_
      refine x_const (np := 2) (x := 9223372039002259456) (a := 2147483648) (by decide +kernel) (by decide) (by decide) ?_
      refine x_putI (np := 5) (x := 4878) (f := 14) (by decide +kernel) (by decide +kernel) (by decide) (Or.inr ⟨by decide, by omega, by omega⟩) ?_
      have j88 := jU (e := 14) (v := 2147483648) 0 j81 rg_63_14_0_1 (by omega) (by omega) (by omega)
      have f90 := jF (e := 14) (v := 2147483648) 0 f85 rg_63_14_0_1 (by omega) (by omega) (by decide)
      generalize e89 : x_up h80 63 14 2147483648 = h87 at j88 f90 ⊢
      refine x_retV (np := 6) (x := 0) (by decide +kernel) (by decide +kernel) ⟨rfl, ?_⟩
      refine x_iload (np := 55) (x := 3) (by decide +kernel) rfl l75 ?_
      refine x_retI (np := 56) (x := 0) (by decide +kernel) l75 (Or.inl (by decide +kernel)) (Or.inl ⟨_, rfl, l75, ?_⟩)
      exact ⟨j88, f90, (by omega)⟩
    have q53 : ¬ (a2 < (h (h 0 8) 7)) := q53
    refine x_thr (np := 18) (x := 2) (by decide +kernel) (by decide +kernel) (Nat.le_trans x_wn (by decide)) (Or.inr ⟨_, rfl, ?_⟩)
    refine Or.inr ⟨_, rfl, ?_⟩
    exact ⟨hJ, hF, by decide⟩
  have q8 : ¬ (a1 < (h ((h 0 8) + 3) 2)) := q8
  refine x_thr (np := 15) (x := 2) (by decide +kernel) (by decide +kernel) (Nat.le_trans x_wn (by decide)) (Or.inr ⟨_, rfl, ?_⟩)
  refine Or.inr ⟨_, rfl, ?_⟩
  exact ⟨hJ, hF, by decide⟩
set_option maxHeartbeats 0 in
/-- LentNames.home()I -/
theorem c126_0 {sc : Nat × Nat} {d  : Nat} {h : xh} (hJ : J h) : X sc 126 (d + 2) (xI fun r h' => h' = h ∧ (0 ≤ r ∧ r ≤ 4294967295)) 0 0 0 [x_r 0, 147573952589676412928, 147573952589676412928, 147573952589676412928, 147573952589676412928, 147573952589676412928] [] h := by
  refine x_const (np := 1) (x := 9223372039002259456) (a := 2147483648) (by decide +kernel) (by decide) (by decide) ?_
  refine x_istore (np := 2) (x := 1) (lo' := [x_r 0, iv_c 2147483648, 147573952589676412928, 147573952589676412928, 147573952589676412928, 147573952589676412928]) (by decide +kernel) (by decide) (Nat.le_of_ble_eq_true rfl) rfl ?_
  refine x_const (np := 3) (x := 9223372039002259456) (a := 2147483648) (by decide +kernel) (by decide) (by decide) ?_
  refine x_istore (np := 4) (x := 2) (lo' := [x_r 0, iv_c 2147483648, iv_c 2147483648, 147573952589676412928, 147573952589676412928, 147573952589676412928]) (by decide +kernel) (by decide) (Nat.le_of_ble_eq_true rfl) rfl ?_
  have p746 : ∀ (n : Nat) (v739 : Nat) (v741 : Nat) (w743 : Nat) (w744 : Nat) (w745 : Nat), 4294967296 - v741 < n → (0 ≤ v739 ∧ v739 ≤ 4294967295) → (2147483648 ≤ v741 ∧ v741 ≤ 2147483658) → X sc 126 (d + 2) (xI fun r h' => h' = h ∧ (0 ≤ r ∧ r ≤ 4294967295)) 0 0 4 [x_r 0, iv_c v739, iv_c v741, w743, w744, w745] [] h := by
    intro n
    induction n with
    | zero => intro v739 v741 w743 w744 w745 q747; exact absurd q747 (Nat.not_lt_zero _)
    | succ n i748 =>
      intro v739 v741 w743 w744 w745 q747 b740 b742
      refine x_iload (np := 5) (x := 2) (by decide +kernel) rfl (by omega) ?_
      refine x_aload (np := 6) (x := 0) (by decide +kernel) rfl (x_nc_le (by decide)) ?_
      have t749 : tw (h 0 8) := hJ.2.1
      refine x_getR (np := 9) (x := 648) (f := 8) (q := (h 0 8)) (by decide +kernel) (by decide) (by decide +kernel) rfl ?_
      have q750 : h (h 0 8) 1 = ((h 0 8) + 3) := tf_0_1 hJ t749
      refine x_getR (np := 12) (x := 513) (f := 1) (q := ((h 0 8) + 3)) (by decide +kernel) (by decide) (tg_0_513_1_1 t749) q750 ?_
      have b751 := jB (e := 2) 0 hJ (rg_T3_2_0_1 t749) (by omega) (by omega)
      refine x_getC (np := 15) (x := 386) (f := 2) (q := (h ((h 0 8) + 3) 2)) (by decide +kernel) (by decide) (tg_3_386_2_0 t749) rfl (fun l752 => ?_)
      refine x_icmp (k := 3) (tg := 91) (np := 18) (by decide +kernel) (by decide) (by omega) l752 (fun q753 => ?_) (fun q754 => ?_)
      · have q753 : (h ((h 0 8) + 3) 2) ≤ v741 := q753
        refine x_iload (np := 92) (x := 1) (by decide +kernel) rfl (by omega) ?_
        refine x_retI (np := 93) (x := 0) (by decide +kernel) (by omega) (Or.inl (by decide +kernel)) ⟨_, rfl, (by omega), ?_⟩
        exact ⟨rfl, (by omega)⟩
      have q754 : ¬ ((h ((h 0 8) + 3) 2) ≤ v741) := q754
      refine x_aload (np := 19) (x := 0) (by decide +kernel) rfl (x_nc_le (by decide)) ?_
      refine x_getR (np := 22) (x := 648) (f := 8) (q := (h 0 8)) (by decide +kernel) (by decide) (by decide +kernel) rfl ?_
      have q755 : h (h 0 8) 1 = ((h 0 8) + 3) := tf_0_1 hJ t749
      refine x_getR (np := 25) (x := 513) (f := 1) (q := ((h 0 8) + 3)) (by decide +kernel) (by decide) (tg_0_513_1_1 t749) q755 ?_
      refine x_iload (np := 26) (x := 2) (by decide +kernel) rfl (by omega) ?_
      refine x_const (np := 27) (x := 9223372051887161347) (a := 2147483651) (by decide +kernel) (by decide) (by decide) ?_
      refine x_nI (t := 6) (mj := 68) (n := 3) (rc := 7) (ml := 4) (nr := 0) (np := 30) (as := [x_r ((h 0 8) + 3), iv_c v741, iv_c 2147483651]) (rest := []) (lo1 := [x_r ((h 0 8) + 3), iv_c v741, iv_c 2147483651, 147573952589676412928]) (by decide +kernel) (by decide) (by decide +kernel) (x_rb_of (tr_3_7 t749)) rfl rfl (x_wr (tn_3 t749) (x_wi (by omega) (x_wi (by decide) x_wn))) x_wn (by decide) rfl ?_
      refine x_iload (np := 1) (x := 1) (by decide +kernel) rfl (by omega) ?_
      refine x_ifz (k := 2) (tg := 28) (np := 4) (by decide +kernel) (by decide) (by omega) (fun q756 => ?_) (fun q757 => ?_)
      · have q756 : v741 < 2147483648 := q756
        exfalso; omega
      have q757 : ¬ (v741 < 2147483648) := q757
      refine x_iload (np := 5) (x := 1) (by decide +kernel) rfl (by omega) ?_
      refine x_aload (np := 6) (x := 0) (by decide +kernel) rfl (x_nc_le (tn_3 t749)) ?_
      refine x_getC (np := 9) (x := 386) (f := 2) (q := (h ((h 0 8) + 3) 2)) (by decide +kernel) (by decide) (tg_3_386_2_0 t749) rfl (fun l758 => ?_)
      refine x_icmp (k := 3) (tg := 28) (np := 12) (by decide +kernel) (by decide) (by omega) l752 (fun q759 => ?_) (fun q760 => ?_)
      · have q759 : (h ((h 0 8) + 3) 2) ≤ v741 := q759
        exfalso; omega
      have q760 : ¬ ((h ((h 0 8) + 3) 2) ≤ v741) := q760
      refine x_iload (np := 13) (x := 2) (by decide +kernel) rfl (by decide) ?_
      refine x_ifz (k := 2) (tg := 28) (np := 16) (by decide +kernel) (by decide) (by decide) (fun q761 => ?_) (fun q762 => ?_)
      · have q761 : 2147483651 < 2147483648 := q761
        exfalso; omega
      have q762 : ¬ (2147483651 < 2147483648) := q762
      refine x_iload (np := 17) (x := 2) (by decide +kernel) rfl (by decide) ?_
      refine x_aload (np := 18) (x := 0) (by decide +kernel) rfl (x_nc_le (tn_3 t749)) ?_
      have b763 := jB (e := 0) 0 hJ (rg_T3_0_0_1 t749) (by omega) (by omega)
      have q764 : (h ((h 0 8) + 3) 0) = 2147483652 := by omega
      refine x_getC (np := 21) (x := 384) (f := 0) (q := 2147483652) (by decide +kernel) (by decide) (tg_3_384_0_0 t749) q764 (fun l765 => ?_)
      refine x_icmp (k := 3) (tg := 28) (np := 24) (by decide +kernel) (by decide) (by decide) (by decide) (fun q766 => ?_) (fun q767 => ?_)
      · have q766 : 2147483652 ≤ 2147483651 := q766
        exfalso; omega
      have q767 : ¬ (2147483652 ≤ 2147483651) := q767
      refine x_const (np := 25) (x := 9223372043297226753) (a := 2147483649) (by decide +kernel) (by decide) (by decide) ?_
      refine x_goto (np := 28) (x := 29) (by decide +kernel) ?_
      refine x_istore (np := 30) (x := 3) (lo' := [x_r ((h 0 8) + 3), iv_c v741, iv_c 2147483651, iv_c 2147483649]) (by decide +kernel) (by decide) (Nat.le_of_ble_eq_true rfl) rfl ?_
      refine x_iload (np := 31) (x := 3) (by decide +kernel) rfl (by decide) ?_
      refine x_ifz (k := 0) (tg := 50) (np := 34) (by decide +kernel) (by decide) (by decide) (fun q768 => ?_) (fun q769 => ?_)
      · have q768 : 2147483649 = 2147483648 := q768
        exfalso; omega
      have q769 : ¬ (2147483649 = 2147483648) := q769
      refine x_aload (np := 35) (x := 0) (by decide +kernel) rfl (x_nc_le (tn_3 t749)) ?_
      have q770 : h ((h 0 8) + 3) 1 = ((h 0 8) + 4) := tf_3_1 hJ t749
      refine x_getR (np := 38) (x := 385) (f := 1) (q := ((h 0 8) + 4)) (by decide +kernel) (by decide) (tg_3_385_1_1 t749) q770 ?_
      refine x_iload (np := 39) (x := 1) (by decide +kernel) rfl (by omega) ?_
      refine x_aload (np := 40) (x := 0) (by decide +kernel) rfl (x_nc_le (tn_3 t749)) ?_
      refine x_getC (np := 43) (x := 384) (f := 0) (q := 2147483652) (by decide +kernel) (by decide) (tg_3_384_0_0 t749) q764 (fun l771 => ?_)
      obtain ⟨u772, q773⟩ : ∃ z, v741 = 2147483648 + z := ⟨v741 - 2147483648, by omega⟩
      refine x_imul (np := 44) (x := 0) (i := u772) (j := 4) (v := (2147483648 + 4 * u772)) (by decide +kernel) (by omega) (by omega) (by omega) (by omega) (by omega) (by decide) ?_
      refine x_iload (np := 45) (x := 2) (by decide +kernel) rfl (by decide) ?_
      refine x_iadd (np := 46) (x := 0) (v := (2147483651 + 4 * u772)) (by decide +kernel) (by omega) (by decide) (by omega) (by omega) ?_
      have b775 := jB (e := (3 + 4 * u772)) u772 hJ (rg_T4_3_4_10 t749) (by omega) (by omega)
      refine x_aldC (np := 47) (x := 0) (n := 40) (i := (3 + 4 * u772)) (q := ((h ((h 0 8) + 4) (3 + 4 * u772)))) (by decide +kernel) (ta_4_40 t749) (by omega) (by omega) (by decide) rfl (fun l776 => ?_)
      refine x_goto (np := 50) (x := 51) (by decide +kernel) ?_
      refine x_retI (np := 52) (x := 0) (by decide +kernel) l776 (Or.inl (by decide +kernel)) ⟨_, rfl, l776, ?_⟩
      refine x_istore (np := 31) (x := 3) (lo' := [x_r 0, iv_c v739, iv_c v741, iv_c ((h ((h 0 8) + 4) (3 + 4 * u772))), w744, w745]) (by decide +kernel) l776 (Nat.le_of_ble_eq_true rfl) rfl ?_
      refine x_aload (np := 32) (x := 0) (by decide +kernel) rfl (x_nc_le (by decide)) ?_
      refine x_getR (np := 35) (x := 648) (f := 8) (q := (h 0 8)) (by decide +kernel) (by decide) (by decide +kernel) rfl ?_
      have q777 : h (h 0 8) 1 = ((h 0 8) + 3) := tf_0_1 hJ t749
      refine x_getR (np := 38) (x := 513) (f := 1) (q := ((h 0 8) + 3)) (by decide +kernel) (by decide) (tg_0_513_1_1 t749) q777 ?_
      refine x_iload (np := 39) (x := 2) (by decide +kernel) rfl (by omega) ?_
      refine x_const (np := 40) (x := 9223372039002259456) (a := 2147483648) (by decide +kernel) (by decide) (by decide) ?_
      refine x_nI (t := 6) (mj := 68) (n := 3) (rc := 7) (ml := 4) (nr := 0) (np := 43) (as := [x_r ((h 0 8) + 3), iv_c v741, iv_c 2147483648]) (rest := []) (lo1 := [x_r ((h 0 8) + 3), iv_c v741, iv_c 2147483648, 147573952589676412928]) (by decide +kernel) (by decide) (by decide +kernel) (x_rb_of (tr_3_7 t749)) rfl rfl (x_wr (tn_3 t749) (x_wi (by omega) (x_wi (by decide) x_wn))) x_wn (by decide) rfl ?_
      refine x_iload (np := 1) (x := 1) (by decide +kernel) rfl (by omega) ?_
      refine x_ifz (k := 2) (tg := 28) (np := 4) (by decide +kernel) (by decide) (by omega) (fun q778 => ?_) (fun q779 => ?_)
      · have q778 : v741 < 2147483648 := q778
        exfalso; omega
      have q779 : ¬ (v741 < 2147483648) := q779
      refine x_iload (np := 5) (x := 1) (by decide +kernel) rfl (by omega) ?_
      refine x_aload (np := 6) (x := 0) (by decide +kernel) rfl (x_nc_le (tn_3 t749)) ?_
      refine x_getC (np := 9) (x := 386) (f := 2) (q := (h ((h 0 8) + 3) 2)) (by decide +kernel) (by decide) (tg_3_386_2_0 t749) rfl (fun l780 => ?_)
      refine x_icmp (k := 3) (tg := 28) (np := 12) (by decide +kernel) (by decide) (by omega) l752 (fun q781 => ?_) (fun q782 => ?_)
      · have q781 : (h ((h 0 8) + 3) 2) ≤ v741 := q781
        exfalso; omega
      have q782 : ¬ ((h ((h 0 8) + 3) 2) ≤ v741) := q782
      refine x_iload (np := 13) (x := 2) (by decide +kernel) rfl (by decide) ?_
      refine x_ifz (k := 2) (tg := 28) (np := 16) (by decide +kernel) (by decide) (by decide) (fun q783 => ?_) (fun q784 => ?_)
      · have q783 : 2147483648 < 2147483648 := q783
        exfalso; omega
      have q784 : ¬ (2147483648 < 2147483648) := q784
      refine x_iload (np := 17) (x := 2) (by decide +kernel) rfl (by decide) ?_
      refine x_aload (np := 18) (x := 0) (by decide +kernel) rfl (x_nc_le (tn_3 t749)) ?_
      refine x_getC (np := 21) (x := 384) (f := 0) (q := 2147483652) (by decide +kernel) (by decide) (tg_3_384_0_0 t749) q764 (fun l785 => ?_)
      refine x_icmp (k := 3) (tg := 28) (np := 24) (by decide +kernel) (by decide) (by decide) (by decide) (fun q786 => ?_) (fun q787 => ?_)
      · have q786 : 2147483652 ≤ 2147483648 := q786
        exfalso; omega
      have q787 : ¬ (2147483652 ≤ 2147483648) := q787
      refine x_const (np := 25) (x := 9223372043297226753) (a := 2147483649) (by decide +kernel) (by decide) (by decide) ?_
      refine x_goto (np := 28) (x := 29) (by decide +kernel) ?_
      refine x_istore (np := 30) (x := 3) (lo' := [x_r ((h 0 8) + 3), iv_c v741, iv_c 2147483648, iv_c 2147483649]) (by decide +kernel) (by decide) (Nat.le_of_ble_eq_true rfl) rfl ?_
      refine x_iload (np := 31) (x := 3) (by decide +kernel) rfl (by decide) ?_
      refine x_ifz (k := 0) (tg := 50) (np := 34) (by decide +kernel) (by decide) (by decide) (fun q788 => ?_) (fun q789 => ?_)
      · have q788 : 2147483649 = 2147483648 := q788
        exfalso; omega
      have q789 : ¬ (2147483649 = 2147483648) := q789
      refine x_aload (np := 35) (x := 0) (by decide +kernel) rfl (x_nc_le (tn_3 t749)) ?_
      have q790 : h ((h 0 8) + 3) 1 = ((h 0 8) + 4) := tf_3_1 hJ t749
      refine x_getR (np := 38) (x := 385) (f := 1) (q := ((h 0 8) + 4)) (by decide +kernel) (by decide) (tg_3_385_1_1 t749) q790 ?_
      refine x_iload (np := 39) (x := 1) (by decide +kernel) rfl (by omega) ?_
      refine x_aload (np := 40) (x := 0) (by decide +kernel) rfl (x_nc_le (tn_3 t749)) ?_
      refine x_getC (np := 43) (x := 384) (f := 0) (q := 2147483652) (by decide +kernel) (by decide) (tg_3_384_0_0 t749) q764 (fun l791 => ?_)
      refine x_imul (np := 44) (x := 0) (i := u772) (j := 4) (v := (2147483648 + 4 * u772)) (by decide +kernel) (by omega) (by omega) (by omega) (by omega) (by omega) (by decide) ?_
      refine x_iload (np := 45) (x := 2) (by decide +kernel) rfl (by decide) ?_
      refine x_iadd (np := 46) (x := 0) (v := (2147483648 + 4 * u772)) (by decide +kernel) (by omega) (by decide) (by omega) (by omega) ?_
      have b793 := jB (e := (4 * u772)) u772 hJ (rg_T4_0_4_10 t749) (by omega) (by omega)
      refine x_aldC (np := 47) (x := 0) (n := 40) (i := (4 * u772)) (q := ((h ((h 0 8) + 4) (4 * u772)))) (by decide +kernel) (ta_4_40 t749) (by omega) (by omega) (by decide) rfl (fun l794 => ?_)
      refine x_goto (np := 50) (x := 51) (by decide +kernel) ?_
      refine x_retI (np := 52) (x := 0) (by decide +kernel) l794 (Or.inl (by decide +kernel)) ⟨_, rfl, l794, ?_⟩
      refine x_istore (np := 45) (x := 4) (lo' := [x_r 0, iv_c v739, iv_c v741, iv_c ((h ((h 0 8) + 4) (3 + 4 * u772))), iv_c ((h ((h 0 8) + 4) (4 * u772))), w745]) (by decide +kernel) l794 (Nat.le_of_ble_eq_true rfl) rfl ?_
      refine x_aload (np := 46) (x := 0) (by decide +kernel) rfl (x_nc_le (by decide)) ?_
      refine x_getR (np := 49) (x := 648) (f := 8) (q := (h 0 8)) (by decide +kernel) (by decide) (by decide +kernel) rfl ?_
      have q795 : h (h 0 8) 1 = ((h 0 8) + 3) := tf_0_1 hJ t749
      refine x_getR (np := 52) (x := 513) (f := 1) (q := ((h 0 8) + 3)) (by decide +kernel) (by decide) (tg_0_513_1_1 t749) q795 ?_
      refine x_iload (np := 53) (x := 2) (by decide +kernel) rfl (by omega) ?_
      refine x_const (np := 54) (x := 9223372047592194050) (a := 2147483650) (by decide +kernel) (by decide) (by decide) ?_
      refine x_nI (t := 6) (mj := 68) (n := 3) (rc := 7) (ml := 4) (nr := 0) (np := 57) (as := [x_r ((h 0 8) + 3), iv_c v741, iv_c 2147483650]) (rest := []) (lo1 := [x_r ((h 0 8) + 3), iv_c v741, iv_c 2147483650, 147573952589676412928]) (by decide +kernel) (by decide) (by decide +kernel) (x_rb_of (tr_3_7 t749)) rfl rfl (x_wr (tn_3 t749) (x_wi (by omega) (x_wi (by decide) x_wn))) x_wn (by decide) rfl ?_
      refine x_iload (np := 1) (x := 1) (by decide +kernel) rfl (by omega) ?_
      refine x_ifz (k := 2) (tg := 28) (np := 4) (by decide +kernel) (by decide) (by omega) (fun q796 => ?_) (fun q797 => ?_)
      · have q796 : v741 < 2147483648 := q796
        exfalso; omega
      have q797 : ¬ (v741 < 2147483648) := q797
      refine x_iload (np := 5) (x := 1) (by decide +kernel) rfl (by omega) ?_
      refine x_aload (np := 6) (x := 0) (by decide +kernel) rfl (x_nc_le (tn_3 t749)) ?_
      refine x_getC (np := 9) (x := 386) (f := 2) (q := (h ((h 0 8) + 3) 2)) (by decide +kernel) (by decide) (tg_3_386_2_0 t749) rfl (fun l798 => ?_)
      refine x_icmp (k := 3) (tg := 28) (np := 12) (by decide +kernel) (by decide) (by omega) l752 (fun q799 => ?_) (fun q800 => ?_)
      · have q799 : (h ((h 0 8) + 3) 2) ≤ v741 := q799
        exfalso; omega
      have q800 : ¬ ((h ((h 0 8) + 3) 2) ≤ v741) := q800
      refine x_iload (np := 13) (x := 2) (by decide +kernel) rfl (by decide) ?_
      refine x_ifz (k := 2) (tg := 28) (np := 16) (by decide +kernel) (by decide) (by decide) (fun q801 => ?_) (fun q802 => ?_)
      · have q801 : 2147483650 < 2147483648 := q801
        exfalso; omega
      have q802 : ¬ (2147483650 < 2147483648) := q802
      refine x_iload (np := 17) (x := 2) (by decide +kernel) rfl (by decide) ?_
      refine x_aload (np := 18) (x := 0) (by decide +kernel) rfl (x_nc_le (tn_3 t749)) ?_
      refine x_getC (np := 21) (x := 384) (f := 0) (q := 2147483652) (by decide +kernel) (by decide) (tg_3_384_0_0 t749) q764 (fun l803 => ?_)
      refine x_icmp (k := 3) (tg := 28) (np := 24) (by decide +kernel) (by decide) (by decide) (by decide) (fun q804 => ?_) (fun q805 => ?_)
      · have q804 : 2147483652 ≤ 2147483650 := q804
        exfalso; omega
      have q805 : ¬ (2147483652 ≤ 2147483650) := q805
      refine x_const (np := 25) (x := 9223372043297226753) (a := 2147483649) (by decide +kernel) (by decide) (by decide) ?_
      refine x_goto (np := 28) (x := 29) (by decide +kernel) ?_
      refine x_istore (np := 30) (x := 3) (lo' := [x_r ((h 0 8) + 3), iv_c v741, iv_c 2147483650, iv_c 2147483649]) (by decide +kernel) (by decide) (Nat.le_of_ble_eq_true rfl) rfl ?_
      refine x_iload (np := 31) (x := 3) (by decide +kernel) rfl (by decide) ?_
      refine x_ifz (k := 0) (tg := 50) (np := 34) (by decide +kernel) (by decide) (by decide) (fun q806 => ?_) (fun q807 => ?_)
      · have q806 : 2147483649 = 2147483648 := q806
        exfalso; omega
      have q807 : ¬ (2147483649 = 2147483648) := q807
      refine x_aload (np := 35) (x := 0) (by decide +kernel) rfl (x_nc_le (tn_3 t749)) ?_
      have q808 : h ((h 0 8) + 3) 1 = ((h 0 8) + 4) := tf_3_1 hJ t749
      refine x_getR (np := 38) (x := 385) (f := 1) (q := ((h 0 8) + 4)) (by decide +kernel) (by decide) (tg_3_385_1_1 t749) q808 ?_
      refine x_iload (np := 39) (x := 1) (by decide +kernel) rfl (by omega) ?_
      refine x_aload (np := 40) (x := 0) (by decide +kernel) rfl (x_nc_le (tn_3 t749)) ?_
      refine x_getC (np := 43) (x := 384) (f := 0) (q := 2147483652) (by decide +kernel) (by decide) (tg_3_384_0_0 t749) q764 (fun l809 => ?_)
      refine x_imul (np := 44) (x := 0) (i := u772) (j := 4) (v := (2147483648 + 4 * u772)) (by decide +kernel) (by omega) (by omega) (by omega) (by omega) (by omega) (by decide) ?_
      refine x_iload (np := 45) (x := 2) (by decide +kernel) rfl (by decide) ?_
      refine x_iadd (np := 46) (x := 0) (v := (2147483650 + 4 * u772)) (by decide +kernel) (by omega) (by decide) (by omega) (by omega) ?_
      refine x_aldC (np := 47) (x := 0) (n := 40) (i := (2 + 4 * u772)) (q := ((h ((h 0 8) + 4) (2 + 4 * u772)))) (by decide +kernel) (ta_4_40 t749) (by omega) (by omega) (by decide) rfl (fun l811 => ?_)
      refine x_goto (np := 50) (x := 51) (by decide +kernel) ?_
      refine x_retI (np := 52) (x := 0) (by decide +kernel) l811 (Or.inl (by decide +kernel)) ⟨_, rfl, l811, ?_⟩
      refine x_istore (np := 59) (x := 5) (lo' := [x_r 0, iv_c v739, iv_c v741, iv_c ((h ((h 0 8) + 4) (3 + 4 * u772))), iv_c ((h ((h 0 8) + 4) (4 * u772))), iv_c ((h ((h 0 8) + 4) (2 + 4 * u772)))]) (by decide +kernel) l811 (Nat.le_of_ble_eq_true rfl) rfl ?_
      refine x_iload (np := 60) (x := 3) (by decide +kernel) rfl l776 ?_
      refine x_const (np := 61) (x := 9223372034707292159) (a := 2147483647) (by decide +kernel) (by decide) (by decide) ?_
      refine x_icmp (k := 0) (tg := 85) (np := 64) (by decide +kernel) (by decide) l776 (by decide) (fun q812 => ?_) (fun q813 => ?_)
      · have q812 : ((h ((h 0 8) + 4) (3 + 4 * u772))) = 2147483647 := q812
        refine x_iinc (np := 88) (i := 2) (j := 2147483649) (v := (1 + v741)) (lo' := [x_r 0, iv_c v739, iv_c (1 + v741), iv_c ((h ((h 0 8) + 4) (3 + 4 * u772))), iv_c ((h ((h 0 8) + 4) (4 * u772))), iv_c ((h ((h 0 8) + 4) (2 + 4 * u772)))]) (by decide +kernel) (by decide) (by decide) rfl (by omega) (by omega) (by omega) rfl ?_
        refine x_goto (np := 91) (x := 4) (by decide +kernel) ?_
        exact i748 v739 (1 + v741) (iv_c ((h ((h 0 8) + 4) (3 + 4 * u772)))) (iv_c ((h ((h 0 8) + 4) (4 * u772)))) (iv_c ((h ((h 0 8) + 4) (2 + 4 * u772)))) (by omega) (by omega) (by omega)
      have q813 : ¬ (((h ((h 0 8) + 4) (3 + 4 * u772))) = 2147483647) := q813
      refine x_aload (np := 65) (x := 0) (by decide +kernel) rfl (x_nc_le (by decide)) ?_
      have q814 : h 0 1 = 45 := by have z := jB (e := 1) 0 hJ rg_0_1_0_1 (by decide) (by decide); omega
      refine x_getR (np := 68) (x := 641) (f := 1) (q := 45) (by decide +kernel) (by decide) (by decide +kernel) q814 ?_
      refine x_iload (np := 70) (x := 4) (by decide +kernel) rfl l794 ?_
      refine x_iload (np := 72) (x := 5) (by decide +kernel) rfl l811 ?_
      refine x_cP (t := 6) (mj := 5) (n := 3) (rc := 2) (ml := 3) (nr := 0) (np := 75) (as := [x_r 45, iv_c ((h ((h 0 8) + 4) (4 * u772))), iv_c ((h ((h 0 8) + 4) (2 + 4 * u772)))]) (rest := []) (lo1 := [x_r 45, iv_c ((h ((h 0 8) + 4) (4 * u772))), iv_c ((h ((h 0 8) + 4) (2 + 4 * u772)))]) (by decide +kernel) (by decide) (by decide +kernel) (x_rb_of (by decide +kernel)) rfl rfl (x_wr (by decide) (x_wi l794 (x_wi l811 x_wn))) x_wn (by decide) rfl (c5_45 hJ  (by omega) (by omega)) (fun v815 l816 q817 => ?_)
      refine x_iload (np := 76) (x := 3) (by decide +kernel) rfl l776 ?_
      refine x_icmp (k := 1) (tg := 85) (np := 79) (by decide +kernel) (by decide) l816 l776 (fun q818 => ?_) (fun q819 => ?_)
      · have q818 : v815 ≠ ((h ((h 0 8) + 4) (3 + 4 * u772))) := q818
        refine x_iinc (np := 88) (i := 2) (j := 2147483649) (v := (1 + v741)) (lo' := [x_r 0, iv_c v739, iv_c (1 + v741), iv_c ((h ((h 0 8) + 4) (3 + 4 * u772))), iv_c ((h ((h 0 8) + 4) (4 * u772))), iv_c ((h ((h 0 8) + 4) (2 + 4 * u772)))]) (by decide +kernel) (by decide) (by decide) rfl (by omega) (by omega) (by omega) rfl ?_
        refine x_goto (np := 91) (x := 4) (by decide +kernel) ?_
        exact i748 v739 (1 + v741) (iv_c ((h ((h 0 8) + 4) (3 + 4 * u772)))) (iv_c ((h ((h 0 8) + 4) (4 * u772)))) (iv_c ((h ((h 0 8) + 4) (2 + 4 * u772)))) (by omega) (by omega) (by omega)
      have q819 : ¬ (v815 ≠ ((h ((h 0 8) + 4) (3 + 4 * u772)))) := q819
      refine x_iload (np := 80) (x := 1) (by decide +kernel) rfl (by omega) ?_
      refine x_const (np := 81) (x := 9223372043297226753) (a := 2147483649) (by decide +kernel) (by decide) (by decide) ?_
      refine x_iload (np := 82) (x := 2) (by decide +kernel) rfl (by omega) ?_
      refine x_any (np := 83) (k9 := 3) (by decide +kernel) (by decide) (by decide) (by omega) (fun v820 l821 => ?_)
      refine x_any (np := 84) (k9 := 1) (by decide +kernel) (by decide) (by omega) l821 (fun v822 l823 => ?_)
      refine x_istore (np := 85) (x := 1) (lo' := [x_r 0, iv_c v822, iv_c v741, iv_c ((h ((h 0 8) + 4) (3 + 4 * u772))), iv_c ((h ((h 0 8) + 4) (4 * u772))), iv_c ((h ((h 0 8) + 4) (2 + 4 * u772)))]) (by decide +kernel) l823 (Nat.le_of_ble_eq_true rfl) rfl ?_
      refine x_iinc (np := 88) (i := 2) (j := 2147483649) (v := (1 + v741)) (lo' := [x_r 0, iv_c v822, iv_c (1 + v741), iv_c ((h ((h 0 8) + 4) (3 + 4 * u772))), iv_c ((h ((h 0 8) + 4) (4 * u772))), iv_c ((h ((h 0 8) + 4) (2 + 4 * u772)))]) (by decide +kernel) (by decide) (by decide) rfl (by omega) (by omega) (by omega) rfl ?_
      refine x_goto (np := 91) (x := 4) (by decide +kernel) ?_
      exact i748 v822 (1 + v741) (iv_c ((h ((h 0 8) + 4) (3 + 4 * u772)))) (iv_c ((h ((h 0 8) + 4) (4 * u772)))) (iv_c ((h ((h 0 8) + 4) (2 + 4 * u772)))) (by omega) (by omega) (by omega)
  exact p746 _ 2147483648 2147483648 147573952589676412928 147573952589676412928 147573952589676412928 (Nat.lt_succ_self _) (by omega) (by omega)
set_option maxHeartbeats 0 in
/-- LentNames$PlanSearch.setEnds()V -/
theorem c55_63 {sc : Nat × Nat} {d  : Nat} {h : xh} (hJ : J h) : X sc 55 d (xV fun h' => J h' ∧ Fr 32769 h h') 0 0 0 [x_r 63, 147573952589676412928] [] h := by
  have hF := Fr.refl 32769 h
  refine x_const (np := 1) (x := 9223372039002259456) (a := 2147483648) (by decide +kernel) (by decide) (by decide) ?_
  refine x_istore (np := 2) (x := 1) (lo' := [x_r 63, iv_c 2147483648]) (by decide +kernel) (by decide) (Nat.le_of_ble_eq_true rfl) rfl ?_
  have p93 : ∀ (n : Nat) (v88 : Nat) (h90 : xh), 4294967296 - v88 < n → (2147483648 ≤ v88 ∧ v88 ≤ 2147483654) → J h90 → Fr 32768 h h90 → X sc 55 d (xV fun h' => J h' ∧ Fr 32769 h h') 0 0 2 [x_r 63, iv_c v88] [] h90 := by
    intro n
    induction n with
    | zero => intro v88 h90 q94; exact absurd q94 (Nat.not_lt_zero _)
    | succ n i95 =>
      intro v88 h90 q94 b89 j92 f91
      have f96 := Fr.trans hF f91 (by decide)
      refine x_iload (np := 3) (x := 1) (by decide +kernel) rfl (by omega) ?_
      refine x_const (np := 5) (x := 9223372064772063238) (a := 2147483654) (by decide +kernel) (by decide) (by decide) ?_
      refine x_icmp (k := 3) (tg := 23) (np := 8) (by decide +kernel) (by decide) (by omega) (by decide) (fun q97 => ?_) (fun q98 => ?_)
      · have q97 : 2147483654 ≤ v88 := q97
        refine x_retV (np := 24) (x := 0) (by decide +kernel) (by decide +kernel) ⟨rfl, ?_⟩
        exact ⟨j92, f96⟩
      have q98 : ¬ (2147483654 ≤ v88) := q98
      refine x_aload (np := 9) (x := 0) (by decide +kernel) rfl (x_nc_le (by decide)) ?_
      have q99 : h90 63 1 = 65 := by have z := jB (e := 1) 0 j92 rg_63_1_0_1 (by decide) (by decide); omega
      refine x_getR (np := 12) (x := 769) (f := 1) (q := 65) (by decide +kernel) (by decide) (by decide +kernel) q99 ?_
      refine x_iload (np := 13) (x := 1) (by decide +kernel) rfl (by omega) ?_
      refine x_const (np := 16) (x := 9223389626893340671) (a := 2147487743) (by decide +kernel) (by decide) (by decide) ?_
      obtain ⟨u100, q101⟩ : ∃ z, v88 = 2147483648 + z := ⟨v88 - 2147483648, by omega⟩
      refine x_ast (np := 17) (x := 0) (kd := 1) (n := 6) (i := u100) (by decide +kernel) (Or.inl rfl) (by decide +kernel) (by omega) (by omega) (by decide) (by decide) (fun z => absurd z (by decide)) ?_
      have j103 := jU (e := u100) (v := 2147487743) u100 j92 rg_65_0_1_6 (by omega) (by omega) (by omega)
      have f105 := jF (e := u100) (v := 2147487743) u100 f96 rg_65_0_1_6 (by omega) (by omega) (by decide)
      have f106 := jF (e := u100) (v := 2147487743) u100 f91 rg_65_0_1_6 (by omega) (by omega) (by decide)
      generalize e104 : x_up h90 65 u100 2147487743 = h102 at j103 f105 f106 ⊢
      refine x_iinc (np := 20) (i := 1) (j := 2147483649) (v := (1 + v88)) (lo' := [x_r 63, iv_c (1 + v88)]) (by decide +kernel) (by decide) (by decide) rfl (by omega) (by omega) (by omega) rfl ?_
      refine x_goto (np := 23) (x := 2) (by decide +kernel) ?_
      exact i95 (1 + v88) h102 (by omega) (by omega) j103 f106
  exact p93 _ 2147483648 h (Nat.lt_succ_self _) (by omega) hJ (Fr.refl _ _)
set_option maxHeartbeats 0 in
/-- LentNames$PlanSearch.lacksWish()Z -/
theorem c57_63 {sc : Nat × Nat} {d  : Nat} {h : xh} (hJ : J h) : X sc 57 (d + 1) (xI fun r h' => J h' ∧ Fr 32768 h h' ∧ (2147483648 ≤ r ∧ r ≤ 2147483649)) 0 0 0 [x_r 63, 147573952589676412928, 147573952589676412928, 147573952589676412928, 147573952589676412928] [] h := by
  have hF := Fr.refl 32768 h
  refine x_const (np := 1) (x := 9223372039002259456) (a := 2147483648) (by decide +kernel) (by decide) (by decide) ?_
  refine x_istore (np := 2) (x := 1) (lo' := [x_r 63, iv_c 2147483648, 147573952589676412928, 147573952589676412928, 147573952589676412928]) (by decide +kernel) (by decide) (Nat.le_of_ble_eq_true rfl) rfl ?_
  have p960 : ∀ (n : Nat) (v955 : Nat) (w957 : Nat) (w958 : Nat) (w959 : Nat), 4294967296 - v955 < n → (2147483648 ≤ v955 ∧ v955 ≤ 2147483658) → X sc 57 (d + 1) (xI fun r h' => J h' ∧ Fr 32768 h h' ∧ (2147483648 ≤ r ∧ r ≤ 2147483649)) 0 0 2 [x_r 63, iv_c v955, w957, w958, w959] [] h := by
    intro n
    induction n with
    | zero => intro v955 w957 w958 w959 q961; exact absurd q961 (Nat.not_lt_zero _)
    | succ n i962 =>
      intro v955 w957 w958 w959 q961 b956
      refine x_iload (np := 3) (x := 1) (by decide +kernel) rfl (by omega) ?_
      refine x_aload (np := 4) (x := 0) (by decide +kernel) rfl (x_nc_le (by decide)) ?_
      have t963 : tw (h 63 6) := hJ.2.2.2.2.2.1
      refine x_getR (np := 7) (x := 774) (f := 6) (q := (h 63 6)) (by decide +kernel) (by decide) (by decide +kernel) rfl ?_
      have q964 : h (h 63 6) 1 = ((h 63 6) + 3) := tf_0_1 hJ t963
      refine x_getR (np := 10) (x := 513) (f := 1) (q := ((h 63 6) + 3)) (by decide +kernel) (by decide) (tg_0_513_1_1 t963) q964 ?_
      have b965 := jB (e := 2) 0 hJ (rg_T3_2_0_1 t963) (by omega) (by omega)
      refine x_getC (np := 13) (x := 386) (f := 2) (q := (h ((h 63 6) + 3) 2)) (by decide +kernel) (by decide) (tg_3_386_2_0 t963) rfl (fun l966 => ?_)
      refine x_icmp (k := 3) (tg := 101) (np := 16) (by decide +kernel) (by decide) (by omega) l966 (fun q967 => ?_) (fun q968 => ?_)
      · have q967 : (h ((h 63 6) + 3) 2) ≤ v955 := q967
        refine x_const (np := 102) (x := 9223372039002259456) (a := 2147483648) (by decide +kernel) (by decide) (by decide) ?_
        refine x_retI (np := 103) (x := 0) (by decide +kernel) (by decide) (Or.inr ⟨by decide +kernel, by omega, by omega⟩) ⟨_, rfl, (by decide), ?_⟩
        exact ⟨hJ, hF, (by omega)⟩
      have q968 : ¬ ((h ((h 63 6) + 3) 2) ≤ v955) := q968
      refine x_aload (np := 17) (x := 0) (by decide +kernel) rfl (x_nc_le (by decide)) ?_
      refine x_getR (np := 20) (x := 774) (f := 6) (q := (h 63 6)) (by decide +kernel) (by decide) (by decide +kernel) rfl ?_
      have q969 : h (h 63 6) 1 = ((h 63 6) + 3) := tf_0_1 hJ t963
      refine x_getR (np := 23) (x := 513) (f := 1) (q := ((h 63 6) + 3)) (by decide +kernel) (by decide) (tg_0_513_1_1 t963) q969 ?_
      refine x_iload (np := 24) (x := 1) (by decide +kernel) rfl (by omega) ?_
      refine x_const (np := 25) (x := 9223372039002259456) (a := 2147483648) (by decide +kernel) (by decide) (by decide) ?_
      refine x_nI (t := 6) (mj := 68) (n := 3) (rc := 7) (ml := 4) (nr := 0) (np := 28) (as := [x_r ((h 63 6) + 3), iv_c v955, iv_c 2147483648]) (rest := []) (lo1 := [x_r ((h 63 6) + 3), iv_c v955, iv_c 2147483648, 147573952589676412928]) (by decide +kernel) (by decide) (by decide +kernel) (x_rb_of (tr_3_7 t963)) rfl rfl (x_wr (tn_3 t963) (x_wi (by omega) (x_wi (by decide) x_wn))) x_wn (by decide) rfl ?_
      refine x_iload (np := 1) (x := 1) (by decide +kernel) rfl (by omega) ?_
      refine x_ifz (k := 2) (tg := 28) (np := 4) (by decide +kernel) (by decide) (by omega) (fun q970 => ?_) (fun q971 => ?_)
      · have q970 : v955 < 2147483648 := q970
        exfalso; omega
      have q971 : ¬ (v955 < 2147483648) := q971
      refine x_iload (np := 5) (x := 1) (by decide +kernel) rfl (by omega) ?_
      refine x_aload (np := 6) (x := 0) (by decide +kernel) rfl (x_nc_le (tn_3 t963)) ?_
      refine x_getC (np := 9) (x := 386) (f := 2) (q := (h ((h 63 6) + 3) 2)) (by decide +kernel) (by decide) (tg_3_386_2_0 t963) rfl (fun l972 => ?_)
      refine x_icmp (k := 3) (tg := 28) (np := 12) (by decide +kernel) (by decide) (by omega) l966 (fun q973 => ?_) (fun q974 => ?_)
      · have q973 : (h ((h 63 6) + 3) 2) ≤ v955 := q973
        exfalso; omega
      have q974 : ¬ ((h ((h 63 6) + 3) 2) ≤ v955) := q974
      refine x_iload (np := 13) (x := 2) (by decide +kernel) rfl (by decide) ?_
      refine x_ifz (k := 2) (tg := 28) (np := 16) (by decide +kernel) (by decide) (by decide) (fun q975 => ?_) (fun q976 => ?_)
      · have q975 : 2147483648 < 2147483648 := q975
        exfalso; omega
      have q976 : ¬ (2147483648 < 2147483648) := q976
      refine x_iload (np := 17) (x := 2) (by decide +kernel) rfl (by decide) ?_
      refine x_aload (np := 18) (x := 0) (by decide +kernel) rfl (x_nc_le (tn_3 t963)) ?_
      have b977 := jB (e := 0) 0 hJ (rg_T3_0_0_1 t963) (by omega) (by omega)
      have q978 : (h ((h 63 6) + 3) 0) = 2147483652 := by omega
      refine x_getC (np := 21) (x := 384) (f := 0) (q := 2147483652) (by decide +kernel) (by decide) (tg_3_384_0_0 t963) q978 (fun l979 => ?_)
      refine x_icmp (k := 3) (tg := 28) (np := 24) (by decide +kernel) (by decide) (by decide) (by decide) (fun q980 => ?_) (fun q981 => ?_)
      · have q980 : 2147483652 ≤ 2147483648 := q980
        exfalso; omega
      have q981 : ¬ (2147483652 ≤ 2147483648) := q981
      refine x_const (np := 25) (x := 9223372043297226753) (a := 2147483649) (by decide +kernel) (by decide) (by decide) ?_
      refine x_goto (np := 28) (x := 29) (by decide +kernel) ?_
      refine x_istore (np := 30) (x := 3) (lo' := [x_r ((h 63 6) + 3), iv_c v955, iv_c 2147483648, iv_c 2147483649]) (by decide +kernel) (by decide) (Nat.le_of_ble_eq_true rfl) rfl ?_
      refine x_iload (np := 31) (x := 3) (by decide +kernel) rfl (by decide) ?_
      refine x_ifz (k := 0) (tg := 50) (np := 34) (by decide +kernel) (by decide) (by decide) (fun q982 => ?_) (fun q983 => ?_)
      · have q982 : 2147483649 = 2147483648 := q982
        exfalso; omega
      have q983 : ¬ (2147483649 = 2147483648) := q983
      refine x_aload (np := 35) (x := 0) (by decide +kernel) rfl (x_nc_le (tn_3 t963)) ?_
      have q984 : h ((h 63 6) + 3) 1 = ((h 63 6) + 4) := tf_3_1 hJ t963
      refine x_getR (np := 38) (x := 385) (f := 1) (q := ((h 63 6) + 4)) (by decide +kernel) (by decide) (tg_3_385_1_1 t963) q984 ?_
      refine x_iload (np := 39) (x := 1) (by decide +kernel) rfl (by omega) ?_
      refine x_aload (np := 40) (x := 0) (by decide +kernel) rfl (x_nc_le (tn_3 t963)) ?_
      refine x_getC (np := 43) (x := 384) (f := 0) (q := 2147483652) (by decide +kernel) (by decide) (tg_3_384_0_0 t963) q978 (fun l985 => ?_)
      obtain ⟨u986, q987⟩ : ∃ z, v955 = 2147483648 + z := ⟨v955 - 2147483648, by omega⟩
      refine x_imul (np := 44) (x := 0) (i := u986) (j := 4) (v := (2147483648 + 4 * u986)) (by decide +kernel) (by omega) (by omega) (by omega) (by omega) (by omega) (by decide) ?_
      refine x_iload (np := 45) (x := 2) (by decide +kernel) rfl (by decide) ?_
      refine x_iadd (np := 46) (x := 0) (v := (2147483648 + 4 * u986)) (by decide +kernel) (by omega) (by decide) (by omega) (by omega) ?_
      have b989 := jB (e := (4 * u986)) u986 hJ (rg_T4_0_4_10 t963) (by omega) (by omega)
      refine x_aldC (np := 47) (x := 0) (n := 40) (i := (4 * u986)) (q := ((h ((h 63 6) + 4) (4 * u986)))) (by decide +kernel) (ta_4_40 t963) (by omega) (by omega) (by decide) rfl (fun l990 => ?_)
      refine x_goto (np := 50) (x := 51) (by decide +kernel) ?_
      refine x_retI (np := 52) (x := 0) (by decide +kernel) l990 (Or.inl (by decide +kernel)) ⟨_, rfl, l990, ?_⟩
      refine x_istore (np := 29) (x := 2) (lo' := [x_r 63, iv_c v955, iv_c ((h ((h 63 6) + 4) (4 * u986))), w958, w959]) (by decide +kernel) l990 (Nat.le_of_ble_eq_true rfl) rfl ?_
      refine x_aload (np := 30) (x := 0) (by decide +kernel) rfl (x_nc_le (by decide)) ?_
      refine x_getR (np := 33) (x := 774) (f := 6) (q := (h 63 6)) (by decide +kernel) (by decide) (by decide +kernel) rfl ?_
      have q991 : h (h 63 6) 1 = ((h 63 6) + 3) := tf_0_1 hJ t963
      refine x_getR (np := 36) (x := 513) (f := 1) (q := ((h 63 6) + 3)) (by decide +kernel) (by decide) (tg_0_513_1_1 t963) q991 ?_
      refine x_iload (np := 37) (x := 1) (by decide +kernel) rfl (by omega) ?_
      refine x_const (np := 38) (x := 9223372051887161347) (a := 2147483651) (by decide +kernel) (by decide) (by decide) ?_
      refine x_nI (t := 6) (mj := 68) (n := 3) (rc := 7) (ml := 4) (nr := 0) (np := 41) (as := [x_r ((h 63 6) + 3), iv_c v955, iv_c 2147483651]) (rest := []) (lo1 := [x_r ((h 63 6) + 3), iv_c v955, iv_c 2147483651, 147573952589676412928]) (by decide +kernel) (by decide) (by decide +kernel) (x_rb_of (tr_3_7 t963)) rfl rfl (x_wr (tn_3 t963) (x_wi (by omega) (x_wi (by decide) x_wn))) x_wn (by decide) rfl ?_
      refine x_iload (np := 1) (x := 1) (by decide +kernel) rfl (by omega) ?_
      refine x_ifz (k := 2) (tg := 28) (np := 4) (by decide +kernel) (by decide) (by omega) (fun q992 => ?_) (fun q993 => ?_)
      · have q992 : v955 < 2147483648 := q992
        exfalso; omega
      have q993 : ¬ (v955 < 2147483648) := q993
      refine x_iload (np := 5) (x := 1) (by decide +kernel) rfl (by omega) ?_
      refine x_aload (np := 6) (x := 0) (by decide +kernel) rfl (x_nc_le (tn_3 t963)) ?_
      refine x_getC (np := 9) (x := 386) (f := 2) (q := (h ((h 63 6) + 3) 2)) (by decide +kernel) (by decide) (tg_3_386_2_0 t963) rfl (fun l994 => ?_)
      refine x_icmp (k := 3) (tg := 28) (np := 12) (by decide +kernel) (by decide) (by omega) l966 (fun q995 => ?_) (fun q996 => ?_)
      · have q995 : (h ((h 63 6) + 3) 2) ≤ v955 := q995
        exfalso; omega
      have q996 : ¬ ((h ((h 63 6) + 3) 2) ≤ v955) := q996
      refine x_iload (np := 13) (x := 2) (by decide +kernel) rfl (by decide) ?_
      refine x_ifz (k := 2) (tg := 28) (np := 16) (by decide +kernel) (by decide) (by decide) (fun q997 => ?_) (fun q998 => ?_)
      · have q997 : 2147483651 < 2147483648 := q997
        exfalso; omega
      have q998 : ¬ (2147483651 < 2147483648) := q998
      refine x_iload (np := 17) (x := 2) (by decide +kernel) rfl (by decide) ?_
      refine x_aload (np := 18) (x := 0) (by decide +kernel) rfl (x_nc_le (tn_3 t963)) ?_
      refine x_getC (np := 21) (x := 384) (f := 0) (q := 2147483652) (by decide +kernel) (by decide) (tg_3_384_0_0 t963) q978 (fun l999 => ?_)
      refine x_icmp (k := 3) (tg := 28) (np := 24) (by decide +kernel) (by decide) (by decide) (by decide) (fun q1000 => ?_) (fun q1001 => ?_)
      · have q1000 : 2147483652 ≤ 2147483651 := q1000
        exfalso; omega
      have q1001 : ¬ (2147483652 ≤ 2147483651) := q1001
      refine x_const (np := 25) (x := 9223372043297226753) (a := 2147483649) (by decide +kernel) (by decide) (by decide) ?_
      refine x_goto (np := 28) (x := 29) (by decide +kernel) ?_
      refine x_istore (np := 30) (x := 3) (lo' := [x_r ((h 63 6) + 3), iv_c v955, iv_c 2147483651, iv_c 2147483649]) (by decide +kernel) (by decide) (Nat.le_of_ble_eq_true rfl) rfl ?_
      refine x_iload (np := 31) (x := 3) (by decide +kernel) rfl (by decide) ?_
      refine x_ifz (k := 0) (tg := 50) (np := 34) (by decide +kernel) (by decide) (by decide) (fun q1002 => ?_) (fun q1003 => ?_)
      · have q1002 : 2147483649 = 2147483648 := q1002
        exfalso; omega
      have q1003 : ¬ (2147483649 = 2147483648) := q1003
      refine x_aload (np := 35) (x := 0) (by decide +kernel) rfl (x_nc_le (tn_3 t963)) ?_
      have q1004 : h ((h 63 6) + 3) 1 = ((h 63 6) + 4) := tf_3_1 hJ t963
      refine x_getR (np := 38) (x := 385) (f := 1) (q := ((h 63 6) + 4)) (by decide +kernel) (by decide) (tg_3_385_1_1 t963) q1004 ?_
      refine x_iload (np := 39) (x := 1) (by decide +kernel) rfl (by omega) ?_
      refine x_aload (np := 40) (x := 0) (by decide +kernel) rfl (x_nc_le (tn_3 t963)) ?_
      refine x_getC (np := 43) (x := 384) (f := 0) (q := 2147483652) (by decide +kernel) (by decide) (tg_3_384_0_0 t963) q978 (fun l1005 => ?_)
      refine x_imul (np := 44) (x := 0) (i := u986) (j := 4) (v := (2147483648 + 4 * u986)) (by decide +kernel) (by omega) (by omega) (by omega) (by omega) (by omega) (by decide) ?_
      refine x_iload (np := 45) (x := 2) (by decide +kernel) rfl (by decide) ?_
      refine x_iadd (np := 46) (x := 0) (v := (2147483651 + 4 * u986)) (by decide +kernel) (by omega) (by decide) (by omega) (by omega) ?_
      have b1007 := jB (e := (3 + 4 * u986)) u986 hJ (rg_T4_3_4_10 t963) (by omega) (by omega)
      refine x_aldC (np := 47) (x := 0) (n := 40) (i := (3 + 4 * u986)) (q := ((h ((h 63 6) + 4) (3 + 4 * u986)))) (by decide +kernel) (ta_4_40 t963) (by omega) (by omega) (by decide) rfl (fun l1008 => ?_)
      refine x_goto (np := 50) (x := 51) (by decide +kernel) ?_
      refine x_retI (np := 52) (x := 0) (by decide +kernel) l1008 (Or.inl (by decide +kernel)) ⟨_, rfl, l1008, ?_⟩
      refine x_istore (np := 42) (x := 3) (lo' := [x_r 63, iv_c v955, iv_c ((h ((h 63 6) + 4) (4 * u986))), iv_c ((h ((h 63 6) + 4) (3 + 4 * u986))), w959]) (by decide +kernel) l1008 (Nat.le_of_ble_eq_true rfl) rfl ?_
      refine x_aload (np := 43) (x := 0) (by decide +kernel) rfl (x_nc_le (by decide)) ?_
      refine x_getR (np := 46) (x := 774) (f := 6) (q := (h 63 6)) (by decide +kernel) (by decide) (by decide +kernel) rfl ?_
      have q1009 : h (h 63 6) 1 = ((h 63 6) + 3) := tf_0_1 hJ t963
      refine x_getR (np := 49) (x := 513) (f := 1) (q := ((h 63 6) + 3)) (by decide +kernel) (by decide) (tg_0_513_1_1 t963) q1009 ?_
      refine x_iload (np := 50) (x := 1) (by decide +kernel) rfl (by omega) ?_
      refine x_const (np := 51) (x := 9223372047592194050) (a := 2147483650) (by decide +kernel) (by decide) (by decide) ?_
      refine x_nI (t := 6) (mj := 68) (n := 3) (rc := 7) (ml := 4) (nr := 0) (np := 54) (as := [x_r ((h 63 6) + 3), iv_c v955, iv_c 2147483650]) (rest := []) (lo1 := [x_r ((h 63 6) + 3), iv_c v955, iv_c 2147483650, 147573952589676412928]) (by decide +kernel) (by decide) (by decide +kernel) (x_rb_of (tr_3_7 t963)) rfl rfl (x_wr (tn_3 t963) (x_wi (by omega) (x_wi (by decide) x_wn))) x_wn (by decide) rfl ?_
      refine x_iload (np := 1) (x := 1) (by decide +kernel) rfl (by omega) ?_
      refine x_ifz (k := 2) (tg := 28) (np := 4) (by decide +kernel) (by decide) (by omega) (fun q1010 => ?_) (fun q1011 => ?_)
      · have q1010 : v955 < 2147483648 := q1010
        exfalso; omega
      have q1011 : ¬ (v955 < 2147483648) := q1011
      refine x_iload (np := 5) (x := 1) (by decide +kernel) rfl (by omega) ?_
      refine x_aload (np := 6) (x := 0) (by decide +kernel) rfl (x_nc_le (tn_3 t963)) ?_
      refine x_getC (np := 9) (x := 386) (f := 2) (q := (h ((h 63 6) + 3) 2)) (by decide +kernel) (by decide) (tg_3_386_2_0 t963) rfl (fun l1012 => ?_)
      refine x_icmp (k := 3) (tg := 28) (np := 12) (by decide +kernel) (by decide) (by omega) l966 (fun q1013 => ?_) (fun q1014 => ?_)
      · have q1013 : (h ((h 63 6) + 3) 2) ≤ v955 := q1013
        exfalso; omega
      have q1014 : ¬ ((h ((h 63 6) + 3) 2) ≤ v955) := q1014
      refine x_iload (np := 13) (x := 2) (by decide +kernel) rfl (by decide) ?_
      refine x_ifz (k := 2) (tg := 28) (np := 16) (by decide +kernel) (by decide) (by decide) (fun q1015 => ?_) (fun q1016 => ?_)
      · have q1015 : 2147483650 < 2147483648 := q1015
        exfalso; omega
      have q1016 : ¬ (2147483650 < 2147483648) := q1016
      refine x_iload (np := 17) (x := 2) (by decide +kernel) rfl (by decide) ?_
      refine x_aload (np := 18) (x := 0) (by decide +kernel) rfl (x_nc_le (tn_3 t963)) ?_
      refine x_getC (np := 21) (x := 384) (f := 0) (q := 2147483652) (by decide +kernel) (by decide) (tg_3_384_0_0 t963) q978 (fun l1017 => ?_)
      refine x_icmp (k := 3) (tg := 28) (np := 24) (by decide +kernel) (by decide) (by decide) (by decide) (fun q1018 => ?_) (fun q1019 => ?_)
      · have q1018 : 2147483652 ≤ 2147483650 := q1018
        exfalso; omega
      have q1019 : ¬ (2147483652 ≤ 2147483650) := q1019
      refine x_const (np := 25) (x := 9223372043297226753) (a := 2147483649) (by decide +kernel) (by decide) (by decide) ?_
      refine x_goto (np := 28) (x := 29) (by decide +kernel) ?_
      refine x_istore (np := 30) (x := 3) (lo' := [x_r ((h 63 6) + 3), iv_c v955, iv_c 2147483650, iv_c 2147483649]) (by decide +kernel) (by decide) (Nat.le_of_ble_eq_true rfl) rfl ?_
      refine x_iload (np := 31) (x := 3) (by decide +kernel) rfl (by decide) ?_
      refine x_ifz (k := 0) (tg := 50) (np := 34) (by decide +kernel) (by decide) (by decide) (fun q1020 => ?_) (fun q1021 => ?_)
      · have q1020 : 2147483649 = 2147483648 := q1020
        exfalso; omega
      have q1021 : ¬ (2147483649 = 2147483648) := q1021
      refine x_aload (np := 35) (x := 0) (by decide +kernel) rfl (x_nc_le (tn_3 t963)) ?_
      have q1022 : h ((h 63 6) + 3) 1 = ((h 63 6) + 4) := tf_3_1 hJ t963
      refine x_getR (np := 38) (x := 385) (f := 1) (q := ((h 63 6) + 4)) (by decide +kernel) (by decide) (tg_3_385_1_1 t963) q1022 ?_
      refine x_iload (np := 39) (x := 1) (by decide +kernel) rfl (by omega) ?_
      refine x_aload (np := 40) (x := 0) (by decide +kernel) rfl (x_nc_le (tn_3 t963)) ?_
      refine x_getC (np := 43) (x := 384) (f := 0) (q := 2147483652) (by decide +kernel) (by decide) (tg_3_384_0_0 t963) q978 (fun l1023 => ?_)
      refine x_imul (np := 44) (x := 0) (i := u986) (j := 4) (v := (2147483648 + 4 * u986)) (by decide +kernel) (by omega) (by omega) (by omega) (by omega) (by omega) (by decide) ?_
      refine x_iload (np := 45) (x := 2) (by decide +kernel) rfl (by decide) ?_
      refine x_iadd (np := 46) (x := 0) (v := (2147483650 + 4 * u986)) (by decide +kernel) (by omega) (by decide) (by omega) (by omega) ?_
      refine x_aldC (np := 47) (x := 0) (n := 40) (i := (2 + 4 * u986)) (q := ((h ((h 63 6) + 4) (2 + 4 * u986)))) (by decide +kernel) (ta_4_40 t963) (by omega) (by omega) (by decide) rfl (fun l1025 => ?_)
      refine x_goto (np := 50) (x := 51) (by decide +kernel) ?_
      refine x_retI (np := 52) (x := 0) (by decide +kernel) l1025 (Or.inl (by decide +kernel)) ⟨_, rfl, l1025, ?_⟩
      refine x_istore (np := 56) (x := 4) (lo' := [x_r 63, iv_c v955, iv_c ((h ((h 63 6) + 4) (4 * u986))), iv_c ((h ((h 63 6) + 4) (3 + 4 * u986))), iv_c ((h ((h 63 6) + 4) (2 + 4 * u986)))]) (by decide +kernel) l1025 (Nat.le_of_ble_eq_true rfl) rfl ?_
      refine x_iload (np := 57) (x := 3) (by decide +kernel) rfl l1008 ?_
      refine x_const (np := 58) (x := 9223372034707292159) (a := 2147483647) (by decide +kernel) (by decide) (by decide) ?_
      refine x_icmp (k := 0) (tg := 95) (np := 61) (by decide +kernel) (by decide) l1008 (by decide) (fun q1026 => ?_) (fun q1027 => ?_)
      · have q1026 : ((h ((h 63 6) + 4) (3 + 4 * u986))) = 2147483647 := q1026
        refine x_iinc (np := 98) (i := 1) (j := 2147483649) (v := (1 + v955)) (lo' := [x_r 63, iv_c (1 + v955), iv_c ((h ((h 63 6) + 4) (4 * u986))), iv_c ((h ((h 63 6) + 4) (3 + 4 * u986))), iv_c ((h ((h 63 6) + 4) (2 + 4 * u986)))]) (by decide +kernel) (by decide) (by decide) rfl (by omega) (by omega) (by omega) rfl ?_
        refine x_goto (np := 101) (x := 2) (by decide +kernel) ?_
        exact i962 (1 + v955) (iv_c ((h ((h 63 6) + 4) (4 * u986)))) (iv_c ((h ((h 63 6) + 4) (3 + 4 * u986)))) (iv_c ((h ((h 63 6) + 4) (2 + 4 * u986)))) (by omega) (by omega)
      have q1027 : ¬ (((h ((h 63 6) + 4) (3 + 4 * u986))) = 2147483647) := q1027
      refine x_aload (np := 62) (x := 0) (by decide +kernel) rfl (x_nc_le (by decide)) ?_
      have q1028 : h 63 0 = 64 := by have z := jB (e := 0) 0 hJ rg_63_0_0_1 (by decide) (by decide); omega
      refine x_getR (np := 65) (x := 768) (f := 0) (q := 64) (by decide +kernel) (by decide) (by decide +kernel) q1028 ?_
      refine x_iload (np := 66) (x := 2) (by decide +kernel) rfl l990 ?_
      refine x_iload (np := 67) (x := 3) (by decide +kernel) rfl l1008 ?_
      refine x_nI (t := 7) (mj := 149) (n := 2) (rc := 0) (ml := 2) (nr := 1) (np := 70) (as := [iv_c ((h ((h 63 6) + 4) (4 * u986))), iv_c ((h ((h 63 6) + 4) (3 + 4 * u986)))]) (rest := [x_r 64]) (lo1 := [iv_c ((h ((h 63 6) + 4) (4 * u986))), iv_c ((h ((h 63 6) + 4) (3 + 4 * u986)))]) (by decide +kernel) (by decide) (by decide +kernel) (Or.inl rfl) rfl rfl (x_wi l990 (x_wi l1008 x_wn)) (x_wr (by decide) x_wn) (by decide) rfl ?_
      refine x_iload (np := 1) (x := 0) (by decide +kernel) rfl l990 ?_
      refine x_const (np := 3) (x := 9223372064772063238) (a := 2147483654) (by decide +kernel) (by decide) (by decide) ?_
      obtain ⟨u1029, q1030⟩ : ∃ z, ((h ((h 63 6) + 4) (4 * u986))) = 2147483648 + z := ⟨((h ((h 63 6) + 4) (4 * u986))) - 2147483648, by omega⟩
      refine x_imul (np := 4) (x := 0) (i := u1029) (j := 6) (v := (2147483648 + 6 * u1029)) (by decide +kernel) (by omega) (by omega) (by omega) (by omega) l990 (by decide) ?_
      refine x_iload (np := 5) (x := 1) (by decide +kernel) rfl l1008 ?_
      refine x_iadd (np := 6) (x := 0) (v := (6 * u1029 + (h ((h 63 6) + 4) (3 + 4 * u986)))) (by decide +kernel) (by omega) l1008 (by omega) (by omega) ?_
      refine x_retI (np := 7) (x := 0) (by decide +kernel) (by omega) (Or.inl (by decide +kernel)) ⟨_, rfl, (by omega), ?_⟩
      obtain ⟨u1032, q1033⟩ : ∃ z, ((h ((h 63 6) + 4) (3 + 4 * u986))) = 2147483648 + z := ⟨((h ((h 63 6) + 4) (3 + 4 * u986))) - 2147483648, by omega⟩
      refine x_aldC (np := 71) (x := 0) (n := 36) (i := (6 * u1029 + u1032)) (q := ((h 64 (6 * u1029 + u1032)))) (by decide +kernel) (by decide +kernel) (by omega) (by omega) (by decide) rfl (fun l1034 => ?_)
      refine x_iload (np := 73) (x := 4) (by decide +kernel) rfl l1025 ?_
      refine x_cP (t := 7) (mj := 148) (n := 2) (rc := 0) (ml := 2) (nr := 0) (np := 76) (as := [iv_c ((h 64 (6 * u1029 + u1032))), iv_c ((h ((h 63 6) + 4) (2 + 4 * u986)))]) (rest := []) (lo1 := [iv_c ((h 64 (6 * u1029 + u1032))), iv_c ((h ((h 63 6) + 4) (2 + 4 * u986)))]) (by decide +kernel) (by decide) (by decide +kernel) (Or.inl rfl) rfl rfl (x_wi l1034 (x_wi l1025 x_wn)) x_wn (by decide) rfl (c148 hJ (by omega) (by omega)) (fun v1035 l1036 q1037 => ?_)
      refine x_ifz (k := 1) (tg := 95) (np := 79) (by decide +kernel) (by decide) l1036 (fun q1038 => ?_) (fun q1039 => ?_)
      · have q1038 : v1035 ≠ 2147483648 := q1038
        refine x_iinc (np := 98) (i := 1) (j := 2147483649) (v := (1 + v955)) (lo' := [x_r 63, iv_c (1 + v955), iv_c ((h ((h 63 6) + 4) (4 * u986))), iv_c ((h ((h 63 6) + 4) (3 + 4 * u986))), iv_c ((h ((h 63 6) + 4) (2 + 4 * u986)))]) (by decide +kernel) (by decide) (by decide) rfl (by omega) (by omega) (by omega) rfl ?_
        refine x_goto (np := 101) (x := 2) (by decide +kernel) ?_
        exact i962 (1 + v955) (iv_c ((h ((h 63 6) + 4) (4 * u986)))) (iv_c ((h ((h 63 6) + 4) (3 + 4 * u986)))) (iv_c ((h ((h 63 6) + 4) (2 + 4 * u986)))) (by omega) (by omega)
      have q1039 : ¬ (v1035 ≠ 2147483648) := q1039
      refine x_aload (np := 80) (x := 0) (by decide +kernel) rfl (x_nc_le (by decide)) ?_
      refine x_const (np := 81) (x := 9223372043297226753) (a := 2147483649) (by decide +kernel) (by decide) (by decide) ?_
      refine x_iload (np := 82) (x := 2) (by decide +kernel) rfl l990 ?_
      refine x_any (np := 83) (k9 := 3) (by decide +kernel) (by decide) (by decide) l990 (fun v1040 l1041 => ?_)
      refine x_const (np := 84) (x := 9223372043297226753) (a := 2147483649) (by decide +kernel) (by decide) (by decide) ?_
      refine x_iload (np := 85) (x := 3) (by decide +kernel) rfl l1008 ?_
      refine x_any (np := 86) (k9 := 3) (by decide +kernel) (by decide) (by decide) l1008 (fun v1042 l1043 => ?_)
      refine x_iload (np := 88) (x := 4) (by decide +kernel) rfl l1025 ?_
      refine x_iload (np := 90) (x := 4) (by decide +kernel) rfl l1025 ?_
      refine x_nV (t := 8) (mj := 273) (n := 5) (rc := 5) (ml := 5) (nr := 0) (np := 93) (as := [x_r 63, iv_c v1040, iv_c v1042, iv_c ((h ((h 63 6) + 4) (2 + 4 * u986))), iv_c ((h ((h 63 6) + 4) (2 + 4 * u986)))]) (rest := []) (lo1 := [x_r 63, iv_c v1040, iv_c v1042, iv_c ((h ((h 63 6) + 4) (2 + 4 * u986))), iv_c ((h ((h 63 6) + 4) (2 + 4 * u986)))]) (by decide +kernel) (by decide) (by decide +kernel) (x_rb_of (by decide +kernel)) rfl rfl (x_wr (by decide) (x_wi l1041 (x_wi l1043 (x_wi l1025 (x_wi l1025 x_wn))))) x_wn (by decide) rfl ?_
      refine x_aload (np := 1) (x := 0) (by decide +kernel) rfl (x_nc_le (by decide)) ?_
      refine x_iload (np := 2) (x := 1) (by decide +kernel) rfl l1041 ?_
      refine x_putI (np := 5) (x := 778) (f := 10) (by decide +kernel) (by decide +kernel) l1041 (Or.inl (by decide)) ?_
      have j1045 := jU (e := 10) (v := v1040) 0 hJ rg_63_10_0_1 (by omega) (by omega) (by omega)
      have f1047 := jF (e := 10) (v := v1040) 0 hF rg_63_10_0_1 (by omega) (by omega) (by decide)
      generalize e1046 : x_up h 63 10 v1040 = h1044 at j1045 f1047 ⊢
      refine x_aload (np := 6) (x := 0) (by decide +kernel) rfl (x_nc_le (by decide)) ?_
      refine x_iload (np := 7) (x := 2) (by decide +kernel) rfl l1043 ?_
      refine x_putI (np := 10) (x := 779) (f := 11) (by decide +kernel) (by decide +kernel) l1043 (Or.inl (by decide)) ?_
      have j1049 := jU (e := 11) (v := v1042) 0 j1045 rg_63_11_0_1 (by omega) (by omega) (by omega)
      have f1051 := jF (e := 11) (v := v1042) 0 f1047 rg_63_11_0_1 (by omega) (by omega) (by decide)
      generalize e1050 : x_up h1044 63 11 v1042 = h1048 at j1049 f1051 ⊢
      refine x_aload (np := 11) (x := 0) (by decide +kernel) rfl (x_nc_le (by decide)) ?_
      refine x_iload (np := 12) (x := 3) (by decide +kernel) rfl l1025 ?_
      refine x_putI (np := 15) (x := 780) (f := 12) (by decide +kernel) (by decide +kernel) l1025 (Or.inl (by decide)) ?_
      have j1053 := jU (e := 12) (v := ((h ((h 63 6) + 4) (2 + 4 * u986)))) 0 j1049 rg_63_12_0_1 (by omega) (by omega) (by omega)
      have f1055 := jF (e := 12) (v := ((h ((h 63 6) + 4) (2 + 4 * u986)))) 0 f1051 rg_63_12_0_1 (by omega) (by omega) (by decide)
      generalize e1054 : x_up h1048 63 12 ((h ((h 63 6) + 4) (2 + 4 * u986))) = h1052 at j1053 f1055 ⊢
      refine x_aload (np := 16) (x := 0) (by decide +kernel) rfl (x_nc_le (by decide)) ?_
      refine x_iload (np := 18) (x := 4) (by decide +kernel) rfl l1025 ?_
      refine x_putI (np := 21) (x := 781) (f := 13) (by decide +kernel) (by decide +kernel) l1025 (Or.inl (by decide)) ?_
      have j1057 := jU (e := 13) (v := ((h ((h 63 6) + 4) (2 + 4 * u986)))) 0 j1053 rg_63_13_0_1 (by omega) (by omega) (by omega)
      have f1059 := jF (e := 13) (v := ((h ((h 63 6) + 4) (2 + 4 * u986)))) 0 f1055 rg_63_13_0_1 (by omega) (by omega) (by decide)
      generalize e1058 : x_up h1052 63 13 ((h ((h 63 6) + 4) (2 + 4 * u986))) = h1056 at j1057 f1059 ⊢
      refine x_retV (np := 22) (x := 0) (by decide +kernel) (by decide +kernel) ⟨rfl, ?_⟩
      refine x_const (np := 94) (x := 9223372043297226753) (a := 2147483649) (by decide +kernel) (by decide) (by decide) ?_
      refine x_retI (np := 95) (x := 0) (by decide +kernel) (by decide) (Or.inr ⟨by decide +kernel, by omega, by omega⟩) ⟨_, rfl, (by decide), ?_⟩
      exact ⟨j1057, f1059, (by omega)⟩
  exact p960 _ 2147483648 147573952589676412928 147573952589676412928 147573952589676412928 (Nat.lt_succ_self _) (by omega)
