/-! ===== tables of regions, methods ===== -/
theorem rg_T4_1_4_10 {r : Nat} (t : tw r) : rgn (r + 4) 1 4 10 0 4294967295 7 := by
  rcases t with rfl | rfl <;> (unfold rgn j_nt; decide +kernel)
theorem rw_T8 {r : Nat} (t : tw r) : rgw (r + 8) 40 2147483648 2147483653 7 := by
  rcases t with rfl | rfl <;> (unfold rgw j_nt; decide +kernel)
theorem rw_T4 {r : Nat} (t : tw r) : rgw (r + 4) 40 2147483648 2147483653 7 := by
  rcases t with rfl | rfl <;> (unfold rgw j_nt; decide +kernel)
theorem rw_T2 {r : Nat} (t : tw r) : rgw (r + 2) 140 2147483648 2147483653 7 := by
  rcases t with rfl | rfl <;> (unfold rgw j_nt; decide +kernel)
theorem tne_0_1 {r : Nat} (t : tw r) : r ≠ 1 := by
  rcases t with rfl | rfl <;> decide
theorem tne_0_69 {r : Nat} (t : tw r) : r ≠ 69 := by
  rcases t with rfl | rfl <;> decide
theorem tne_0_63 {r : Nat} (t : tw r) : r ≠ 63 := by
  rcases t with rfl | rfl <;> decide
theorem tof_11_12 {r : Nat} : (r + 11) ≠ (r + 12) := by omega
theorem tne_11_62 {r : Nat} (t : tw r) : (r + 11) ≠ 62 := by
  rcases t with rfl | rfl <;> decide
theorem tne_12_62 {r : Nat} (t : tw r) : (r + 12) ≠ 62 := by
  rcases t with rfl | rfl <;> decide
theorem tne_11_2 {r : Nat} (t : tw r) : (r + 11) ≠ 2 := by
  rcases t with rfl | rfl <;> decide
theorem tne_11_69 {r : Nat} (t : tw r) : (r + 11) ≠ 69 := by
  rcases t with rfl | rfl <;> decide
theorem tne_11_63 {r : Nat} (t : tw r) : (r + 11) ≠ 63 := by
  rcases t with rfl | rfl <;> decide
theorem tne_11_0 {r : Nat} (t : tw r) : (r + 11) ≠ 0 := by
  rcases t with rfl | rfl <;> decide
set_option maxHeartbeats 0 in
/-- LentNames$Tape.moveTo(I)V -/
theorem c80_1n {sc : Nat × Nat} {d a1 : Nat} {h : xh} (hJ : J h) (ba1 : 2147483648 ≤ a1 ∧ a1 ≤ 2147484048) : X sc 80 d (xV fun h' => J h' ∧ Fr 33 h h') 0 0 0 [x_r 1, iv_c a1] [] h := by
  have la1 : a1 < 4294967296 := by omega
  have hF := Fr.refl 33 h
  refine x_aload (np := 1) (x := 0) (by decide +kernel) rfl (x_nc_le (by decide)) ?_
  refine x_iload (np := 2) (x := 1) (by decide +kernel) rfl la1 ?_
  refine x_putI (np := 5) (x := 450) (f := 2) (by decide +kernel) (by decide +kernel) la1 (Or.inl (by decide)) ?_
  have j2 := jU (e := 2) (v := a1) 0 hJ rg_1_2_0_1 (by omega) (by omega) (by omega)
  have f4 := jF (e := 2) (v := a1) 0 hF rg_1_2_0_1 (by omega) (by omega) (by decide)
  generalize e3 : x_up h 1 2 a1 = h1 at j2 f4 ⊢
  have p57 : ∀ (n : Nat) (h54 : xh), 4294967296 - h54 1 2 < n → J h54 → Fr 32 h1 h54 → X sc 80 d (xV fun h' => J h' ∧ Fr 33 h h') 0 0 5 [x_r 1, iv_c a1] [] h54 := by
    intro n
    induction n with
    | zero => intro h54 q58; exact absurd q58 (Nat.not_lt_zero _)
    | succ n i59 =>
      intro h54 q58 j56 f55
      have f60 := Fr.trans f4 f55 (by decide)
      refine x_aload (np := 6) (x := 0) (by decide +kernel) rfl (x_nc_le (by decide)) ?_
      have b61 := jB (e := 2) 0 j56 rg_1_2_0_1 (by omega) (by omega)
      refine x_getC (np := 9) (x := 450) (f := 2) (q := (h54 1 2)) (by decide +kernel) (by decide) (by decide +kernel) rfl (fun l62 => ?_)
      refine x_aload (np := 10) (x := 0) (by decide +kernel) rfl (x_nc_le (by decide)) ?_
      have q63 : h54 1 1 = h1 1 1 := jK 0 f55 rg_1_1_0_1 (by omega) (by omega) (by decide)
      have q64 : h1 1 1 = h 1 1 := by rw [← e3]; exact x_up_i (by omega)
      have b65 := jB (e := 1) 0 hJ rg_1_1_0_1 (by omega) (by omega)
      refine x_getC (np := 13) (x := 449) (f := 1) (q := (h 1 1)) (by decide +kernel) (by decide) (by decide +kernel) (q63.trans q64) (fun l66 => ?_)
      refine x_icmp (k := 3) (tg := 43) (np := 16) (by decide +kernel) (by decide) l62 l66 (fun q67 => ?_) (fun q68 => ?_)
      · have q67 : (h 1 1) ≤ (h54 1 2) := q67
        refine x_retV (np := 44) (x := 0) (by decide +kernel) (by decide +kernel) ⟨rfl, ?_⟩
        exact ⟨j56, f60⟩
      have q68 : ¬ ((h 1 1) ≤ (h54 1 2)) := q68
      refine x_aload (np := 17) (x := 0) (by decide +kernel) rfl (x_nc_le (by decide)) ?_
      have q69 : h54 1 0 = 2 := by have z := jB (e := 0) 0 j56 rg_1_0_0_1 (by decide) (by decide); omega
      refine x_getR (np := 20) (x := 448) (f := 0) (q := 2) (by decide +kernel) (by decide) (by decide +kernel) q69 ?_
      refine x_aload (np := 21) (x := 0) (by decide +kernel) rfl (x_nc_le (by decide)) ?_
      refine x_getC (np := 24) (x := 450) (f := 2) (q := (h54 1 2)) (by decide +kernel) (by decide) (by decide +kernel) rfl (fun l70 => ?_)
      obtain ⟨u71, q72⟩ : ∃ z, (h54 1 2) = 2147483648 + z := ⟨(h54 1 2) - 2147483648, by omega⟩
      have q73 : h54 2 u71 = h1 2 u71 := jK u71 f55 rg_2_0_1_400 (by omega) (by omega) (by decide)
      have q74 : h1 2 u71 = h 2 u71 := by rw [← e3]; exact x_up_k (by decide)
      refine x_aldC (np := 25) (x := 0) (n := 400) (i := u71) (q := (h 2 u71)) (by decide +kernel) (by decide +kernel) (by omega) (by omega) (by decide) (q73.trans q74) (fun l75 => ?_)
      refine x_const (np := 27) (x := 9223372176441212960) (a := 2147483680) (by decide +kernel) (by decide) (by decide) ?_
      refine x_icmp (k := 1) (tg := 43) (np := 30) (by decide +kernel) (by decide) l75 (by decide) (fun q76 => ?_) (fun q77 => ?_)
      · have q76 : (h 2 u71) ≠ 2147483680 := q76
        refine x_retV (np := 44) (x := 0) (by decide +kernel) (by decide +kernel) ⟨rfl, ?_⟩
        exact ⟨j56, f60⟩
      have q77 : ¬ ((h 2 u71) ≠ 2147483680) := q77
      refine x_aload (np := 31) (x := 0) (by decide +kernel) rfl (x_nc_le (by decide)) ?_
      refine x_dup (np := 32) (x := 0) (by decide +kernel) (by have z := x_nc_le (k := 1) (by decide); unfold x_r; omega) ?_
      refine x_getC (np := 35) (x := 450) (f := 2) (q := (h54 1 2)) (by decide +kernel) (by decide) (by decide +kernel) rfl (fun l78 => ?_)
      refine x_const (np := 36) (x := 9223372043297226753) (a := 2147483649) (by decide +kernel) (by decide) (by decide) ?_
      refine x_iadd (np := 37) (x := 0) (v := (1 + (h54 1 2))) (by decide +kernel) l62 (by decide) (by omega) (by omega) ?_
      refine x_putI (np := 40) (x := 450) (f := 2) (by decide +kernel) (by decide +kernel) (by omega) (Or.inl (by decide)) ?_
      have j80 := jU (e := 2) (v := (1 + (h54 1 2))) 0 j56 rg_1_2_0_1 (by omega) (by omega) (by omega)
      have f82 := jF (e := 2) (v := (1 + (h54 1 2))) 0 f60 rg_1_2_0_1 (by omega) (by omega) (by decide)
      have f83 := jF (e := 2) (v := (1 + (h54 1 2))) 0 f55 rg_1_2_0_1 (by omega) (by omega) (by decide)
      generalize e81 : x_up h54 1 2 (1 + (h54 1 2)) = h79 at j80 f82 f83 ⊢
      refine x_goto (np := 43) (x := 5) (by decide +kernel) ?_
      have q84 : h79 1 2 = (1 + (h54 1 2)) := by rw [← e81]; exact x_up_at
      exact i59  h79 (by omega) j80 f83
  exact p57 _  h1 (Nat.lt_succ_self _) j2 (Fr.refl _ _)
set_option maxHeartbeats 0 in
/-- LentNames$Tape.isWord(Ljava/lang/String;)Z -/
theorem c77_1_S0 {sc : Nat × Nat} {d ia1 : Nat} {h : xh} (hJ : J h) (hia1 : ia1 < 32) : X sc 77 (d + 4) (xI fun r h' => h' = h ∧ (2147483648 ≤ r ∧ r ≤ 2147483649) ∧ (r = 2147483649 → h 1 2 + iv_tl ia1 ≤ 2147484048)) 0 0 0 [x_r 1, x_b (ia1 + 1), 147573952589676412928, 147573952589676412928] [] h := by
  refine x_aload (np := 1) (x := 0) (by decide +kernel) rfl (x_nc_le (by decide)) ?_
  have b1 := jB (e := 2) 0 hJ rg_1_2_0_1 (by omega) (by omega)
  refine x_getC (np := 4) (x := 450) (f := 2) (q := (h 1 2)) (by decide +kernel) (by decide) (by decide +kernel) rfl (fun l2 => ?_)
  refine x_aloadB (i := ia1) (k4 := 1) rfl hia1 (by rw [tb_b77]; decide +kernel) ?_
  have b3 := (iv_tl_lt ia1 hia1).1
  have b4 := iv_tl_ge ia1 hia1
  refine x_len (by decide +kernel) (by rw [tb_y77]; exact sl_Tl) hia1 (by rw [tb_b77]; decide +kernel) (Nat.le_trans (x_wi l2 x_wn) (by decide)) ?_
  refine x_iadd (np := 9) (x := 0) (v := ((h 1 2) + (iv_tl ia1))) (by decide +kernel) l2 (by omega) (by omega) (by omega) ?_
  refine x_istore (np := 10) (x := 2) (lo' := [x_r 1, x_b (ia1 + 1), iv_c ((h 1 2) + (iv_tl ia1)), 147573952589676412928]) (by decide +kernel) (by omega) (Nat.le_of_ble_eq_true rfl) rfl ?_
  refine x_iload (np := 11) (x := 2) (by decide +kernel) rfl (by omega) ?_
  refine x_aload (np := 12) (x := 0) (by decide +kernel) rfl (x_nc_le (by decide)) ?_
  have b5 := jB (e := 1) 0 hJ rg_1_1_0_1 (by omega) (by omega)
  refine x_getC (np := 15) (x := 449) (f := 1) (q := (h 1 1)) (by decide +kernel) (by decide) (by decide +kernel) rfl (fun l6 => ?_)
  refine x_icmp (k := 5) (tg := 20) (np := 18) (by decide +kernel) (by decide) (by omega) l6 (fun q7 => ?_) (fun q8 => ?_)
  · have q7 : ((h 1 2) + (iv_tl ia1)) ≤ (h 1 1) := q7
    refine x_aload (np := 21) (x := 0) (by decide +kernel) rfl (x_nc_le (by decide)) ?_
    refine x_getC (np := 24) (x := 450) (f := 2) (q := (h 1 2)) (by decide +kernel) (by decide) (by decide +kernel) rfl (fun l9 => ?_)
    refine x_istore (np := 25) (x := 3) (lo' := [x_r 1, x_b (ia1 + 1), iv_c ((h 1 2) + (iv_tl ia1)), iv_c (h 1 2)]) (by decide +kernel) l2 (Nat.le_of_ble_eq_true rfl) rfl ?_
    have p76 : ∀ (n : Nat) (v74 : Nat), 4294967296 - v74 < n → (2147483648 ≤ v74 ∧ v74 ≤ 2147484479) → (h 1 2) ≤ v74 → X sc 77 (d + 4) (xI fun r h' => h' = h ∧ (2147483648 ≤ r ∧ r ≤ 2147483649) ∧ (r = 2147483649 → h 1 2 + iv_tl ia1 ≤ 2147484048)) 0 0 25 [x_r 1, x_b (ia1 + 1), iv_c ((h 1 2) + (iv_tl ia1)), iv_c v74] [] h := by
      intro n
      induction n with
      | zero => intro v74 q78; exact absurd q78 (Nat.not_lt_zero _)
      | succ n i79 =>
        intro v74 q78 b75 b77
        refine x_iload (np := 26) (x := 3) (by decide +kernel) rfl (by omega) ?_
        refine x_iload (np := 27) (x := 2) (by decide +kernel) rfl (by omega) ?_
        refine x_icmp (k := 3) (tg := 57) (np := 30) (by decide +kernel) (by decide) (by omega) (by omega) (fun q80 => ?_) (fun q81 => ?_)
        · have q80 : ((h 1 2) + (iv_tl ia1)) ≤ v74 := q80
          refine x_iload (np := 58) (x := 2) (by decide +kernel) rfl (by omega) ?_
          refine x_aload (np := 59) (x := 0) (by decide +kernel) rfl (x_nc_le (by decide)) ?_
          refine x_getC (np := 62) (x := 449) (f := 1) (q := (h 1 1)) (by decide +kernel) (by decide) (by decide +kernel) rfl (fun l82 => ?_)
          refine x_icmp (k := 0) (tg := 87) (np := 65) (by decide +kernel) (by decide) (by omega) l6 (fun q83 => ?_) (fun q84 => ?_)
          · have q83 : ((h 1 2) + (iv_tl ia1)) = (h 1 1) := q83
            refine x_const (np := 88) (x := 9223372043297226753) (a := 2147483649) (by decide +kernel) (by decide) (by decide) ?_
            refine x_goto (np := 91) (x := 92) (by decide +kernel) ?_
            refine x_retI (np := 93) (x := 0) (by decide +kernel) (by decide) (Or.inr ⟨by decide +kernel, by omega, by omega⟩) ⟨_, rfl, (by decide), ?_⟩
            exact ⟨rfl, (by omega), (fun z => by omega)⟩
          have q84 : ¬ (((h 1 2) + (iv_tl ia1)) = (h 1 1)) := q84
          refine x_aload (np := 66) (x := 0) (by decide +kernel) rfl (x_nc_le (by decide)) ?_
          have q85 : h 1 0 = 2 := by have z := jB (e := 0) 0 hJ rg_1_0_0_1 (by decide) (by decide); omega
          refine x_getR (np := 69) (x := 448) (f := 0) (q := 2) (by decide +kernel) (by decide) (by decide +kernel) q85 ?_
          refine x_iload (np := 70) (x := 2) (by decide +kernel) rfl (by omega) ?_
          obtain ⟨u86, q87⟩ : ∃ z, (h 1 2) = 2147483648 + z := ⟨(h 1 2) - 2147483648, by omega⟩
          refine x_aldC (np := 71) (x := 0) (n := 400) (i := ((iv_tl ia1) + u86)) (q := (h 2 ((iv_tl ia1) + u86))) (by decide +kernel) (by decide +kernel) (by omega) (by omega) (by decide) rfl (fun l88 => ?_)
          refine x_const (np := 73) (x := 9223372455614087265) (a := 2147483745) (by decide +kernel) (by decide) (by decide) ?_
          refine x_icmp (k := 2) (tg := 87) (np := 76) (by decide +kernel) (by decide) l88 (by decide) (fun q89 => ?_) (fun q90 => ?_)
          · have q89 : (h 2 ((iv_tl ia1) + u86)) < 2147483745 := q89
            refine x_const (np := 88) (x := 9223372043297226753) (a := 2147483649) (by decide +kernel) (by decide) (by decide) ?_
            refine x_goto (np := 91) (x := 92) (by decide +kernel) ?_
            refine x_retI (np := 93) (x := 0) (by decide +kernel) (by decide) (Or.inr ⟨by decide +kernel, by omega, by omega⟩) ⟨_, rfl, (by decide), ?_⟩
            exact ⟨rfl, (by omega), (fun z => by omega)⟩
          have q90 : ¬ ((h 2 ((iv_tl ia1) + u86)) < 2147483745) := q90
          refine x_aload (np := 77) (x := 0) (by decide +kernel) rfl (x_nc_le (by decide)) ?_
          have q91 : h 1 0 = 2 := by have z := jB (e := 0) 0 hJ rg_1_0_0_1 (by decide) (by decide); omega
          refine x_getR (np := 80) (x := 448) (f := 0) (q := 2) (by decide +kernel) (by decide) (by decide +kernel) q91 ?_
          refine x_iload (np := 81) (x := 2) (by decide +kernel) rfl (by omega) ?_
          refine x_aldC (np := 82) (x := 0) (n := 400) (i := ((iv_tl ia1) + u86)) (q := (h 2 ((iv_tl ia1) + u86))) (by decide +kernel) (by decide +kernel) (by omega) (by omega) (by decide) rfl (fun l92 => ?_)
          refine x_const (np := 84) (x := 9223372562988269690) (a := 2147483770) (by decide +kernel) (by decide) (by decide) ?_
          refine x_icmp (k := 5) (tg := 91) (np := 87) (by decide +kernel) (by decide) l88 (by decide) (fun q93 => ?_) (fun q94 => ?_)
          · have q93 : (h 2 ((iv_tl ia1) + u86)) ≤ 2147483770 := q93
            refine x_const (np := 92) (x := 9223372039002259456) (a := 2147483648) (by decide +kernel) (by decide) (by decide) ?_
            refine x_retI (np := 93) (x := 0) (by decide +kernel) (by decide) (Or.inr ⟨by decide +kernel, by omega, by omega⟩) ⟨_, rfl, (by decide), ?_⟩
            exact ⟨rfl, (by omega), (fun z => by omega)⟩
          have q94 : ¬ ((h 2 ((iv_tl ia1) + u86)) ≤ 2147483770) := q94
          refine x_const (np := 88) (x := 9223372043297226753) (a := 2147483649) (by decide +kernel) (by decide) (by decide) ?_
          refine x_goto (np := 91) (x := 92) (by decide +kernel) ?_
          refine x_retI (np := 93) (x := 0) (by decide +kernel) (by decide) (Or.inr ⟨by decide +kernel, by omega, by omega⟩) ⟨_, rfl, (by decide), ?_⟩
          exact ⟨rfl, (by omega), (fun z => by omega)⟩
        have q81 : ¬ (((h 1 2) + (iv_tl ia1)) ≤ v74) := q81
        refine x_aload (np := 31) (x := 0) (by decide +kernel) rfl (x_nc_le (by decide)) ?_
        have q95 : h 1 0 = 2 := by have z := jB (e := 0) 0 hJ rg_1_0_0_1 (by decide) (by decide); omega
        refine x_getR (np := 34) (x := 448) (f := 0) (q := 2) (by decide +kernel) (by decide) (by decide +kernel) q95 ?_
        refine x_iload (np := 35) (x := 3) (by decide +kernel) rfl (by omega) ?_
        obtain ⟨u96, q97⟩ : ∃ z, v74 = 2147483648 + z := ⟨v74 - 2147483648, by omega⟩
        refine x_aldC (np := 36) (x := 0) (n := 400) (i := u96) (q := (h 2 u96)) (by decide +kernel) (by decide +kernel) (by omega) (by omega) (by decide) rfl (fun l98 => ?_)
        refine x_aloadB (i := ia1) (k4 := 1) rfl hia1 (by rw [tb_b77]; decide +kernel) ?_
        refine x_iload (np := 38) (x := 3) (by decide +kernel) rfl (by omega) ?_
        refine x_aload (np := 39) (x := 0) (by decide +kernel) rfl (x_nc_le (by decide)) ?_
        refine x_getC (np := 42) (x := 450) (f := 2) (q := (h 1 2)) (by decide +kernel) (by decide) (by decide +kernel) rfl (fun l99 => ?_)
        obtain ⟨v100, q101⟩ : ∃ z, z + (h 1 2) = v74 + 2147483648 := ⟨v74 + 2147483648 - (h 1 2), by omega⟩
        refine x_isub (np := 43) (x := 0) (v := v100) (by decide +kernel) (by omega) l2 (by omega) (by omega) ?_
        obtain ⟨u103, q104⟩ : ∃ z, v100 = 2147483648 + z := ⟨v100 - 2147483648, by omega⟩
        have b102 := (iv_tl_lt ia1 hia1).2 u103 (by omega)
        refine x_chr (j := u103) (by decide +kernel) (by rw [tb_y77]; exact sl_Tc) hia1 (by omega) (by omega) (by rw [tb_b77]; decide +kernel) (Nat.le_trans (x_wi l98 x_wn) (by decide)) ?_
        refine x_icmp (k := 0) (tg := 51) (np := 49) (by decide +kernel) (by decide) l98 (by omega) (fun q105 => ?_) (fun q106 => ?_)
        · have q105 : (h 2 u96) = (2147483648 + (iv_tc ia1 u103)) := q105
          refine x_iinc (np := 54) (i := 3) (j := 2147483649) (v := (1 + v74)) (lo' := [x_r 1, x_b (ia1 + 1), iv_c ((h 1 2) + (iv_tl ia1)), iv_c (1 + v74)]) (by decide +kernel) (by decide) (by decide) rfl (by omega) (by omega) (by omega) rfl ?_
          refine x_goto (np := 57) (x := 25) (by decide +kernel) ?_
          exact i79 (1 + v74) (by omega) (by omega) (by omega)
        have q106 : ¬ ((h 2 u96) = (2147483648 + (iv_tc ia1 u103))) := q106
        refine x_const (np := 50) (x := 9223372039002259456) (a := 2147483648) (by decide +kernel) (by decide) (by decide) ?_
        refine x_retI (np := 51) (x := 0) (by decide +kernel) (by decide) (Or.inr ⟨by decide +kernel, by omega, by omega⟩) ⟨_, rfl, (by decide), ?_⟩
        exact ⟨rfl, (by omega), (fun z => by omega)⟩
    exact p76 _ (h 1 2) (Nat.lt_succ_self _) (by omega) (by omega)
  have q8 : ¬ (((h 1 2) + (iv_tl ia1)) ≤ (h 1 1)) := q8
  refine x_const (np := 19) (x := 9223372039002259456) (a := 2147483648) (by decide +kernel) (by decide) (by decide) ?_
  refine x_retI (np := 20) (x := 0) (by decide +kernel) (by decide) (Or.inr ⟨by decide +kernel, by omega, by omega⟩) ⟨_, rfl, (by decide), ?_⟩
  exact ⟨rfl, (by omega), (fun z => by omega)⟩
set_option maxHeartbeats 0 in
/-- LentNames$Tape.takesNumber(II)I -/
theorem c79_1_c0 {sc : Nat × Nat} {d a2 : Nat} {h : xh} (hJ : J h) (ba2 : 2147483647 ≤ a2 ∧ a2 ≤ 2147484769) : X sc 79 (d + 1) (xI fun r h' => J h' ∧ Fr 33 h h' ∧ (2147483647 ≤ r ∧ r ≤ 2147484769) ∧ (r ≤ a2)) 0 0 0 [x_r 1, iv_c 2147483648, iv_c a2, 147573952589676412928, 147573952589676412928] [] h := by
  have la2 : a2 < 4294967296 := by omega
  have hF := Fr.refl 33 h
  refine x_const (np := 1) (x := 9223372039002259456) (a := 2147483648) (by decide +kernel) (by decide) (by decide) ?_
  refine x_istore (np := 2) (x := 3) (lo' := [x_r 1, iv_c 2147483648, iv_c a2, iv_c 2147483648, 147573952589676412928]) (by decide +kernel) (by decide) (Nat.le_of_ble_eq_true rfl) rfl ?_
  refine x_const (np := 3) (x := 9223372039002259456) (a := 2147483648) (by decide +kernel) (by decide) (by decide) ?_
  refine x_istore (np := 5) (x := 4) (lo' := [x_r 1, iv_c 2147483648, iv_c a2, iv_c 2147483648, iv_c 2147483648]) (by decide +kernel) (by decide) (Nat.le_of_ble_eq_true rfl) rfl ?_
  have b209 := jB (e := 2) 0 hJ rg_1_2_0_1 (by omega) (by omega)
  have p208 : ∀ (n : Nat) (v204 : Nat) (v206 : Nat), 4294967296 - v206 < n → (0 ≤ v204 ∧ v204 ≤ 4294967295) → (2147483648 ≤ v206 ∧ v206 ≤ 2147483652) → (h 1 2) + v206 ≤ 4294967696 → X sc 79 (d + 1) (xI fun r h' => J h' ∧ Fr 33 h h' ∧ (2147483647 ≤ r ∧ r ≤ 2147484769) ∧ (r ≤ a2)) 0 0 5 [x_r 1, iv_c 2147483648, iv_c a2, iv_c v204, iv_c v206] [] h := by
    intro n
    induction n with
    | zero => intro v204 v206 q211; exact absurd q211 (Nat.not_lt_zero _)
    | succ n i212 =>
      intro v204 v206 q211 b205 b207 b210
      refine x_iload (np := 7) (x := 4) (by decide +kernel) rfl (by omega) ?_
      refine x_const (np := 8) (x := 9223372051887161347) (a := 2147483651) (by decide +kernel) (by decide) (by decide) ?_
      refine x_icmp (k := 4) (tg := 54) (np := 11) (by decide +kernel) (by decide) (by omega) (by decide) (fun q213 => ?_) (fun q214 => ?_)
      · have q213 : 2147483651 < v206 := q213
        refine x_iload (np := 56) (x := 4) (by decide +kernel) rfl (by omega) ?_
        refine x_ifz (k := 0) (tg := 75) (np := 59) (by decide +kernel) (by decide) (by omega) (fun q215 => ?_) (fun q216 => ?_)
        · have q215 : v206 = 2147483648 := q215
          exfalso; omega
        have q216 : ¬ (v206 = 2147483648) := q216
        refine x_iload (np := 61) (x := 4) (by decide +kernel) rfl (by omega) ?_
        refine x_const (np := 62) (x := 9223372051887161347) (a := 2147483651) (by decide +kernel) (by decide) (by decide) ?_
        refine x_icmp (k := 4) (tg := 75) (np := 65) (by decide +kernel) (by decide) (by omega) (by decide) (fun q217 => ?_) (fun q218 => ?_)
        · have q217 : 2147483651 < v206 := q217
          refine x_const (np := 76) (x := 9223372034707292159) (a := 2147483647) (by decide +kernel) (by decide) (by decide) ?_
          refine x_retI (np := 77) (x := 0) (by decide +kernel) (by decide) (Or.inl (by decide +kernel)) ⟨_, rfl, (by decide), ?_⟩
          exact ⟨hJ, hF, (by omega), (by omega)⟩
        have q218 : ¬ (2147483651 < v206) := q218
        exfalso; omega
      have q214 : ¬ (2147483651 < v206) := q214
      refine x_aload (np := 12) (x := 0) (by decide +kernel) rfl (x_nc_le (by decide)) ?_
      refine x_aload (np := 13) (x := 0) (by decide +kernel) rfl (x_nc_le (by decide)) ?_
      refine x_getC (np := 16) (x := 450) (f := 2) (q := (h 1 2)) (by decide +kernel) (by decide) (by decide +kernel) rfl (fun l219 => ?_)
      refine x_iload (np := 18) (x := 4) (by decide +kernel) rfl (by omega) ?_
      obtain ⟨v220, q221⟩ : ∃ z, z + 2147483648 = (h 1 2) + v206 := ⟨(h 1 2) + v206 - 2147483648, by omega⟩
      refine x_iadd (np := 19) (x := 0) (v := v220) (by decide +kernel) l219 (by omega) (by omega) (by omega) ?_
      refine x_nI (t := 6) (mj := 81) (n := 2) (rc := 8) (ml := 2) (nr := 0) (np := 22) (as := [x_r 1, iv_c v220]) (rest := []) (lo1 := [x_r 1, iv_c v220]) (by decide +kernel) (by decide) (by decide +kernel) (x_rb_of (by decide +kernel)) rfl rfl (x_wr (by decide) (x_wi (by omega) x_wn)) x_wn (by decide) rfl ?_
      refine x_iload (np := 1) (x := 1) (by decide +kernel) rfl (by omega) ?_
      refine x_aload (np := 2) (x := 0) (by decide +kernel) rfl (x_nc_le (by decide)) ?_
      have b222 := jB (e := 1) 0 hJ rg_1_1_0_1 (by omega) (by omega)
      refine x_getC (np := 5) (x := 449) (f := 1) (q := (h 1 1)) (by decide +kernel) (by decide) (by decide +kernel) rfl (fun l223 => ?_)
      refine x_icmp (k := 3) (tg := 17) (np := 8) (by decide +kernel) (by decide) (by omega) l223 (fun q224 => ?_) (fun q225 => ?_)
      · have q224 : (h 1 1) ≤ v220 := q224
        refine x_const (np := 18) (x := 9223372034707292159) (a := 2147483647) (by decide +kernel) (by decide) (by decide) ?_
        refine x_retI (np := 19) (x := 0) (by decide +kernel) (by decide) (Or.inl (by decide +kernel)) ⟨_, rfl, (by decide), ?_⟩
        refine x_nI (t := 0) (mj := 82) (n := 1) (rc := 0) (ml := 1) (nr := 0) (np := 25) (as := [iv_c 2147483647]) (rest := []) (lo1 := [iv_c 2147483647]) (by decide +kernel) (by decide) (by decide +kernel) (Or.inl rfl) rfl rfl (x_wi (by decide) x_wn) x_wn (by decide) rfl ?_
        refine x_iload (np := 1) (x := 0) (by decide +kernel) rfl (by decide) ?_
        refine x_const (np := 3) (x := 9223372245160689712) (a := 2147483696) (by decide +kernel) (by decide) (by decide) ?_
        refine x_icmp (k := 2) (tg := 16) (np := 6) (by decide +kernel) (by decide) (by decide) (by decide) (fun q226 => ?_) (fun q227 => ?_)
        · have q226 : 2147483647 < 2147483696 := q226
          refine x_const (np := 17) (x := 9223372039002259456) (a := 2147483648) (by decide +kernel) (by decide) (by decide) ?_
          refine x_retI (np := 18) (x := 0) (by decide +kernel) (by decide) (Or.inr ⟨by decide +kernel, by omega, by omega⟩) ⟨_, rfl, (by decide), ?_⟩
          refine x_ifz (k := 0) (tg := 54) (np := 28) (by decide +kernel) (by decide) (by decide) (fun q228 => ?_) (fun q229 => ?_)
          · have q228 : 2147483648 = 2147483648 := q228
            refine x_iload (np := 56) (x := 4) (by decide +kernel) rfl (by omega) ?_
            refine x_ifz (k := 0) (tg := 75) (np := 59) (by decide +kernel) (by decide) (by omega) (fun q230 => ?_) (fun q231 => ?_)
            · have q230 : v206 = 2147483648 := q230
              refine x_const (np := 76) (x := 9223372034707292159) (a := 2147483647) (by decide +kernel) (by decide) (by decide) ?_
              refine x_retI (np := 77) (x := 0) (by decide +kernel) (by decide) (Or.inl (by decide +kernel)) ⟨_, rfl, (by decide), ?_⟩
              exact ⟨hJ, hF, (by omega), (by omega)⟩
            have q231 : ¬ (v206 = 2147483648) := q231
            refine x_iload (np := 61) (x := 4) (by decide +kernel) rfl (by omega) ?_
            refine x_const (np := 62) (x := 9223372051887161347) (a := 2147483651) (by decide +kernel) (by decide) (by decide) ?_
            refine x_icmp (k := 4) (tg := 75) (np := 65) (by decide +kernel) (by decide) (by omega) (by decide) (fun q232 => ?_) (fun q233 => ?_)
            · have q232 : 2147483651 < v206 := q232
              exfalso; omega
            have q233 : ¬ (2147483651 < v206) := q233
            refine x_iload (np := 66) (x := 3) (by decide +kernel) rfl (by omega) ?_
            refine x_iload (np := 67) (x := 1) (by decide +kernel) rfl (by decide) ?_
            refine x_icmp (k := 2) (tg := 75) (np := 70) (by decide +kernel) (by decide) (by omega) (by decide) (fun q234 => ?_) (fun q235 => ?_)
            · have q234 : v204 < 2147483648 := q234
              refine x_const (np := 76) (x := 9223372034707292159) (a := 2147483647) (by decide +kernel) (by decide) (by decide) ?_
              refine x_retI (np := 77) (x := 0) (by decide +kernel) (by decide) (Or.inl (by decide +kernel)) ⟨_, rfl, (by decide), ?_⟩
              exact ⟨hJ, hF, (by omega), (by omega)⟩
            have q235 : ¬ (v204 < 2147483648) := q235
            refine x_iload (np := 71) (x := 3) (by decide +kernel) rfl (by omega) ?_
            refine x_iload (np := 72) (x := 2) (by decide +kernel) rfl la2 ?_
            refine x_icmp (k := 5) (tg := 77) (np := 75) (by decide +kernel) (by decide) (by omega) la2 (fun q236 => ?_) (fun q237 => ?_)
            · have q236 : v204 ≤ a2 := q236
              refine x_aload (np := 78) (x := 0) (by decide +kernel) rfl (x_nc_le (by decide)) ?_
              refine x_aload (np := 79) (x := 0) (by decide +kernel) rfl (x_nc_le (by decide)) ?_
              refine x_getC (np := 82) (x := 450) (f := 2) (q := (h 1 2)) (by decide +kernel) (by decide) (by decide +kernel) rfl (fun l238 => ?_)
              refine x_iload (np := 84) (x := 4) (by decide +kernel) rfl (by omega) ?_
              obtain ⟨v239, q240⟩ : ∃ z, z + 2147483648 = (h 1 2) + v206 := ⟨(h 1 2) + v206 - 2147483648, by omega⟩
              refine x_iadd (np := 85) (x := 0) (v := v239) (by decide +kernel) l219 (by omega) (by omega) (by omega) ?_
              refine x_cV (t := 6) (mj := 80) (n := 2) (rc := 8) (ml := 2) (nr := 0) (np := 88) (as := [x_r 1, iv_c v239]) (rest := []) (lo1 := [x_r 1, iv_c v239]) (by decide +kernel) (by decide) (by decide +kernel) (x_rb_of (by decide +kernel)) rfl rfl (x_wr (by decide) (x_wi (by omega) x_wn)) x_wn (by decide) rfl (c80_1n hJ  (by omega)) (fun h244 q243 => ?_)
              obtain ⟨j245, f246⟩ := q243
              have f249 := Fr.trans hF f246 (by decide)
              refine x_iload (np := 89) (x := 3) (by decide +kernel) rfl (by omega) ?_
              refine x_retI (np := 90) (x := 0) (by decide +kernel) (by omega) (Or.inl (by decide +kernel)) ⟨_, rfl, (by omega), ?_⟩
              exact ⟨j245, f249, (by omega), (by omega)⟩
            have q237 : ¬ (v204 ≤ a2) := q237
            refine x_const (np := 76) (x := 9223372034707292159) (a := 2147483647) (by decide +kernel) (by decide) (by decide) ?_
            refine x_retI (np := 77) (x := 0) (by decide +kernel) (by decide) (Or.inl (by decide +kernel)) ⟨_, rfl, (by decide), ?_⟩
            exact ⟨hJ, hF, (by omega), (by omega)⟩
          have q229 : ¬ (2147483648 = 2147483648) := q229
          exfalso; omega
        have q227 : ¬ (2147483647 < 2147483696) := q227
        exfalso; omega
      have q225 : ¬ ((h 1 1) ≤ v220) := q225
      refine x_aload (np := 9) (x := 0) (by decide +kernel) rfl (x_nc_le (by decide)) ?_
      have q250 : h 1 0 = 2 := by have z := jB (e := 0) 0 hJ rg_1_0_0_1 (by decide) (by decide); omega
      refine x_getR (np := 12) (x := 448) (f := 0) (q := 2) (by decide +kernel) (by decide) (by decide +kernel) q250 ?_
      refine x_iload (np := 13) (x := 1) (by decide +kernel) rfl (by omega) ?_
      obtain ⟨u251, q252⟩ : ∃ z, v220 = 2147483648 + z := ⟨v220 - 2147483648, by omega⟩
      refine x_aldC (np := 14) (x := 0) (n := 400) (i := u251) (q := (h 2 u251)) (by decide +kernel) (by decide +kernel) (by omega) (by omega) (by decide) rfl (fun l253 => ?_)
      refine x_goto (np := 17) (x := 18) (by decide +kernel) ?_
      refine x_retI (np := 19) (x := 0) (by decide +kernel) l253 (Or.inl (by decide +kernel)) ⟨_, rfl, l253, ?_⟩
      refine x_nI (t := 0) (mj := 82) (n := 1) (rc := 0) (ml := 1) (nr := 0) (np := 25) (as := [iv_c (h 2 u251)]) (rest := []) (lo1 := [iv_c (h 2 u251)]) (by decide +kernel) (by decide) (by decide +kernel) (Or.inl rfl) rfl rfl (x_wi l253 x_wn) x_wn (by decide) rfl ?_
      refine x_iload (np := 1) (x := 0) (by decide +kernel) rfl l253 ?_
      refine x_const (np := 3) (x := 9223372245160689712) (a := 2147483696) (by decide +kernel) (by decide) (by decide) ?_
      refine x_icmp (k := 2) (tg := 16) (np := 6) (by decide +kernel) (by decide) l253 (by decide) (fun q254 => ?_) (fun q255 => ?_)
      · have q254 : (h 2 u251) < 2147483696 := q254
        refine x_const (np := 17) (x := 9223372039002259456) (a := 2147483648) (by decide +kernel) (by decide) (by decide) ?_
        refine x_retI (np := 18) (x := 0) (by decide +kernel) (by decide) (Or.inr ⟨by decide +kernel, by omega, by omega⟩) ⟨_, rfl, (by decide), ?_⟩
        refine x_ifz (k := 0) (tg := 54) (np := 28) (by decide +kernel) (by decide) (by decide) (fun q256 => ?_) (fun q257 => ?_)
        · have q256 : 2147483648 = 2147483648 := q256
          refine x_iload (np := 56) (x := 4) (by decide +kernel) rfl (by omega) ?_
          refine x_ifz (k := 0) (tg := 75) (np := 59) (by decide +kernel) (by decide) (by omega) (fun q258 => ?_) (fun q259 => ?_)
          · have q258 : v206 = 2147483648 := q258
            refine x_const (np := 76) (x := 9223372034707292159) (a := 2147483647) (by decide +kernel) (by decide) (by decide) ?_
            refine x_retI (np := 77) (x := 0) (by decide +kernel) (by decide) (Or.inl (by decide +kernel)) ⟨_, rfl, (by decide), ?_⟩
            exact ⟨hJ, hF, (by omega), (by omega)⟩
          have q259 : ¬ (v206 = 2147483648) := q259
          refine x_iload (np := 61) (x := 4) (by decide +kernel) rfl (by omega) ?_
          refine x_const (np := 62) (x := 9223372051887161347) (a := 2147483651) (by decide +kernel) (by decide) (by decide) ?_
          refine x_icmp (k := 4) (tg := 75) (np := 65) (by decide +kernel) (by decide) (by omega) (by decide) (fun q260 => ?_) (fun q261 => ?_)
          · have q260 : 2147483651 < v206 := q260
            exfalso; omega
          have q261 : ¬ (2147483651 < v206) := q261
          refine x_iload (np := 66) (x := 3) (by decide +kernel) rfl (by omega) ?_
          refine x_iload (np := 67) (x := 1) (by decide +kernel) rfl (by decide) ?_
          refine x_icmp (k := 2) (tg := 75) (np := 70) (by decide +kernel) (by decide) (by omega) (by decide) (fun q262 => ?_) (fun q263 => ?_)
          · have q262 : v204 < 2147483648 := q262
            refine x_const (np := 76) (x := 9223372034707292159) (a := 2147483647) (by decide +kernel) (by decide) (by decide) ?_
            refine x_retI (np := 77) (x := 0) (by decide +kernel) (by decide) (Or.inl (by decide +kernel)) ⟨_, rfl, (by decide), ?_⟩
            exact ⟨hJ, hF, (by omega), (by omega)⟩
          have q263 : ¬ (v204 < 2147483648) := q263
          refine x_iload (np := 71) (x := 3) (by decide +kernel) rfl (by omega) ?_
          refine x_iload (np := 72) (x := 2) (by decide +kernel) rfl la2 ?_
          refine x_icmp (k := 5) (tg := 77) (np := 75) (by decide +kernel) (by decide) (by omega) la2 (fun q264 => ?_) (fun q265 => ?_)
          · have q264 : v204 ≤ a2 := q264
            refine x_aload (np := 78) (x := 0) (by decide +kernel) rfl (x_nc_le (by decide)) ?_
            refine x_aload (np := 79) (x := 0) (by decide +kernel) rfl (x_nc_le (by decide)) ?_
            refine x_getC (np := 82) (x := 450) (f := 2) (q := (h 1 2)) (by decide +kernel) (by decide) (by decide +kernel) rfl (fun l266 => ?_)
            refine x_iload (np := 84) (x := 4) (by decide +kernel) rfl (by omega) ?_
            obtain ⟨v267, q268⟩ : ∃ z, z + 2147483648 = (h 1 2) + v206 := ⟨(h 1 2) + v206 - 2147483648, by omega⟩
            refine x_iadd (np := 85) (x := 0) (v := v267) (by decide +kernel) l219 (by omega) (by omega) (by omega) ?_
            refine x_cV (t := 6) (mj := 80) (n := 2) (rc := 8) (ml := 2) (nr := 0) (np := 88) (as := [x_r 1, iv_c v267]) (rest := []) (lo1 := [x_r 1, iv_c v267]) (by decide +kernel) (by decide) (by decide +kernel) (x_rb_of (by decide +kernel)) rfl rfl (x_wr (by decide) (x_wi (by omega) x_wn)) x_wn (by decide) rfl (c80_1n hJ  (by omega)) (fun h272 q271 => ?_)
            obtain ⟨j273, f274⟩ := q271
            have f277 := Fr.trans hF f274 (by decide)
            refine x_iload (np := 89) (x := 3) (by decide +kernel) rfl (by omega) ?_
            refine x_retI (np := 90) (x := 0) (by decide +kernel) (by omega) (Or.inl (by decide +kernel)) ⟨_, rfl, (by omega), ?_⟩
            exact ⟨j273, f277, (by omega), (by omega)⟩
          have q265 : ¬ (v204 ≤ a2) := q265
          refine x_const (np := 76) (x := 9223372034707292159) (a := 2147483647) (by decide +kernel) (by decide) (by decide) ?_
          refine x_retI (np := 77) (x := 0) (by decide +kernel) (by decide) (Or.inl (by decide +kernel)) ⟨_, rfl, (by decide), ?_⟩
          exact ⟨hJ, hF, (by omega), (by omega)⟩
        have q257 : ¬ (2147483648 = 2147483648) := q257
        exfalso; omega
      have q255 : ¬ ((h 2 u251) < 2147483696) := q255
      refine x_iload (np := 7) (x := 0) (by decide +kernel) rfl l253 ?_
      refine x_const (np := 9) (x := 9223372283815395385) (a := 2147483705) (by decide +kernel) (by decide) (by decide) ?_
      refine x_icmp (k := 4) (tg := 16) (np := 12) (by decide +kernel) (by decide) l253 (by decide) (fun q278 => ?_) (fun q279 => ?_)
      · have q278 : 2147483705 < (h 2 u251) := q278
        refine x_const (np := 17) (x := 9223372039002259456) (a := 2147483648) (by decide +kernel) (by decide) (by decide) ?_
        refine x_retI (np := 18) (x := 0) (by decide +kernel) (by decide) (Or.inr ⟨by decide +kernel, by omega, by omega⟩) ⟨_, rfl, (by decide), ?_⟩
        refine x_ifz (k := 0) (tg := 54) (np := 28) (by decide +kernel) (by decide) (by decide) (fun q280 => ?_) (fun q281 => ?_)
        · have q280 : 2147483648 = 2147483648 := q280
          refine x_iload (np := 56) (x := 4) (by decide +kernel) rfl (by omega) ?_
          refine x_ifz (k := 0) (tg := 75) (np := 59) (by decide +kernel) (by decide) (by omega) (fun q282 => ?_) (fun q283 => ?_)
          · have q282 : v206 = 2147483648 := q282
            refine x_const (np := 76) (x := 9223372034707292159) (a := 2147483647) (by decide +kernel) (by decide) (by decide) ?_
            refine x_retI (np := 77) (x := 0) (by decide +kernel) (by decide) (Or.inl (by decide +kernel)) ⟨_, rfl, (by decide), ?_⟩
            exact ⟨hJ, hF, (by omega), (by omega)⟩
          have q283 : ¬ (v206 = 2147483648) := q283
          refine x_iload (np := 61) (x := 4) (by decide +kernel) rfl (by omega) ?_
          refine x_const (np := 62) (x := 9223372051887161347) (a := 2147483651) (by decide +kernel) (by decide) (by decide) ?_
          refine x_icmp (k := 4) (tg := 75) (np := 65) (by decide +kernel) (by decide) (by omega) (by decide) (fun q284 => ?_) (fun q285 => ?_)
          · have q284 : 2147483651 < v206 := q284
            exfalso; omega
          have q285 : ¬ (2147483651 < v206) := q285
          refine x_iload (np := 66) (x := 3) (by decide +kernel) rfl (by omega) ?_
          refine x_iload (np := 67) (x := 1) (by decide +kernel) rfl (by decide) ?_
          refine x_icmp (k := 2) (tg := 75) (np := 70) (by decide +kernel) (by decide) (by omega) (by decide) (fun q286 => ?_) (fun q287 => ?_)
          · have q286 : v204 < 2147483648 := q286
            refine x_const (np := 76) (x := 9223372034707292159) (a := 2147483647) (by decide +kernel) (by decide) (by decide) ?_
            refine x_retI (np := 77) (x := 0) (by decide +kernel) (by decide) (Or.inl (by decide +kernel)) ⟨_, rfl, (by decide), ?_⟩
            exact ⟨hJ, hF, (by omega), (by omega)⟩
          have q287 : ¬ (v204 < 2147483648) := q287
          refine x_iload (np := 71) (x := 3) (by decide +kernel) rfl (by omega) ?_
          refine x_iload (np := 72) (x := 2) (by decide +kernel) rfl la2 ?_
          refine x_icmp (k := 5) (tg := 77) (np := 75) (by decide +kernel) (by decide) (by omega) la2 (fun q288 => ?_) (fun q289 => ?_)
          · have q288 : v204 ≤ a2 := q288
            refine x_aload (np := 78) (x := 0) (by decide +kernel) rfl (x_nc_le (by decide)) ?_
            refine x_aload (np := 79) (x := 0) (by decide +kernel) rfl (x_nc_le (by decide)) ?_
            refine x_getC (np := 82) (x := 450) (f := 2) (q := (h 1 2)) (by decide +kernel) (by decide) (by decide +kernel) rfl (fun l290 => ?_)
            refine x_iload (np := 84) (x := 4) (by decide +kernel) rfl (by omega) ?_
            obtain ⟨v291, q292⟩ : ∃ z, z + 2147483648 = (h 1 2) + v206 := ⟨(h 1 2) + v206 - 2147483648, by omega⟩
            refine x_iadd (np := 85) (x := 0) (v := v291) (by decide +kernel) l219 (by omega) (by omega) (by omega) ?_
            refine x_cV (t := 6) (mj := 80) (n := 2) (rc := 8) (ml := 2) (nr := 0) (np := 88) (as := [x_r 1, iv_c v291]) (rest := []) (lo1 := [x_r 1, iv_c v291]) (by decide +kernel) (by decide) (by decide +kernel) (x_rb_of (by decide +kernel)) rfl rfl (x_wr (by decide) (x_wi (by omega) x_wn)) x_wn (by decide) rfl (c80_1n hJ  (by omega)) (fun h296 q295 => ?_)
            obtain ⟨j297, f298⟩ := q295
            have f301 := Fr.trans hF f298 (by decide)
            refine x_iload (np := 89) (x := 3) (by decide +kernel) rfl (by omega) ?_
            refine x_retI (np := 90) (x := 0) (by decide +kernel) (by omega) (Or.inl (by decide +kernel)) ⟨_, rfl, (by omega), ?_⟩
            exact ⟨j297, f301, (by omega), (by omega)⟩
          have q289 : ¬ (v204 ≤ a2) := q289
          refine x_const (np := 76) (x := 9223372034707292159) (a := 2147483647) (by decide +kernel) (by decide) (by decide) ?_
          refine x_retI (np := 77) (x := 0) (by decide +kernel) (by decide) (Or.inl (by decide +kernel)) ⟨_, rfl, (by decide), ?_⟩
          exact ⟨hJ, hF, (by omega), (by omega)⟩
        have q281 : ¬ (2147483648 = 2147483648) := q281
        exfalso; omega
      have q279 : ¬ (2147483705 < (h 2 u251)) := q279
      refine x_const (np := 13) (x := 9223372043297226753) (a := 2147483649) (by decide +kernel) (by decide) (by decide) ?_
      refine x_goto (np := 16) (x := 17) (by decide +kernel) ?_
      refine x_retI (np := 18) (x := 0) (by decide +kernel) (by decide) (Or.inr ⟨by decide +kernel, by omega, by omega⟩) ⟨_, rfl, (by decide), ?_⟩
      refine x_ifz (k := 0) (tg := 54) (np := 28) (by decide +kernel) (by decide) (by decide) (fun q302 => ?_) (fun q303 => ?_)
      · have q302 : 2147483649 = 2147483648 := q302
        exfalso; omega
      have q303 : ¬ (2147483649 = 2147483648) := q303
      refine x_iload (np := 29) (x := 3) (by decide +kernel) rfl (by omega) ?_
      refine x_const (np := 31) (x := 9223372081951932426) (a := 2147483658) (by decide +kernel) (by decide) (by decide) ?_
      refine x_mulA (by rw [tb_b79]; decide +kernel) (by omega) (by decide) (fun v304 l305 => ?_)
      refine x_aload (np := 33) (x := 0) (by decide +kernel) rfl (x_nc_le (by decide)) ?_
      refine x_aload (np := 34) (x := 0) (by decide +kernel) rfl (x_nc_le (by decide)) ?_
      refine x_getC (np := 37) (x := 450) (f := 2) (q := (h 1 2)) (by decide +kernel) (by decide) (by decide +kernel) rfl (fun l306 => ?_)
      refine x_iload (np := 39) (x := 4) (by decide +kernel) rfl (by omega) ?_
      obtain ⟨v307, q308⟩ : ∃ z, z + 2147483648 = (h 1 2) + v206 := ⟨(h 1 2) + v206 - 2147483648, by omega⟩
      refine x_iadd (np := 40) (x := 0) (v := v307) (by decide +kernel) l219 (by omega) (by omega) (by omega) ?_
      refine x_nI (t := 6) (mj := 81) (n := 2) (rc := 8) (ml := 2) (nr := 1) (np := 43) (as := [x_r 1, iv_c v307]) (rest := [iv_c v304]) (lo1 := [x_r 1, iv_c v307]) (by decide +kernel) (by decide) (by decide +kernel) (x_rb_of (by decide +kernel)) rfl rfl (x_wr (by decide) (x_wi (by omega) x_wn)) (x_wi l305 x_wn) (by decide) rfl ?_
      refine x_iload (np := 1) (x := 1) (by decide +kernel) rfl (by omega) ?_
      refine x_aload (np := 2) (x := 0) (by decide +kernel) rfl (x_nc_le (by decide)) ?_
      refine x_getC (np := 5) (x := 449) (f := 1) (q := (h 1 1)) (by decide +kernel) (by decide) (by decide +kernel) rfl (fun l309 => ?_)
      refine x_icmp (k := 3) (tg := 17) (np := 8) (by decide +kernel) (by decide) (by omega) l223 (fun q310 => ?_) (fun q311 => ?_)
      · have q310 : (h 1 1) ≤ v307 := q310
        refine x_const (np := 18) (x := 9223372034707292159) (a := 2147483647) (by decide +kernel) (by decide) (by decide) ?_
        refine x_retI (np := 19) (x := 0) (by decide +kernel) (by decide) (Or.inl (by decide +kernel)) ⟨_, rfl, (by decide), ?_⟩
        refine x_addA (by rw [tb_b79]; decide +kernel) l305 (by decide) (fun v312 l313 => ?_)
        refine x_const (np := 46) (x := 9223372245160689712) (a := 2147483696) (by decide +kernel) (by decide) (by decide) ?_
        refine x_subA (by rw [tb_b79]; decide +kernel) l313 (by decide) (fun v314 l315 => ?_)
        refine x_istore (np := 48) (x := 3) (lo' := [x_r 1, iv_c 2147483648, iv_c a2, iv_c v314, iv_c v206]) (by decide +kernel) l315 (Nat.le_of_ble_eq_true rfl) rfl ?_
        refine x_iinc (np := 51) (i := 4) (j := 2147483649) (v := (1 + v206)) (lo' := [x_r 1, iv_c 2147483648, iv_c a2, iv_c v314, iv_c (1 + v206)]) (by decide +kernel) (by decide) (by decide) rfl (by omega) (by omega) (by omega) rfl ?_
        refine x_goto (np := 54) (x := 5) (by decide +kernel) ?_
        exact i212 v314 (1 + v206) (by omega) (by omega) (by omega) (by omega)
      have q311 : ¬ ((h 1 1) ≤ v307) := q311
      refine x_aload (np := 9) (x := 0) (by decide +kernel) rfl (x_nc_le (by decide)) ?_
      have q316 : h 1 0 = 2 := by have z := jB (e := 0) 0 hJ rg_1_0_0_1 (by decide) (by decide); omega
      refine x_getR (np := 12) (x := 448) (f := 0) (q := 2) (by decide +kernel) (by decide) (by decide +kernel) q316 ?_
      refine x_iload (np := 13) (x := 1) (by decide +kernel) rfl (by omega) ?_
      obtain ⟨u317, q318⟩ : ∃ z, v307 = 2147483648 + z := ⟨v307 - 2147483648, by omega⟩
      refine x_aldC (np := 14) (x := 0) (n := 400) (i := u317) (q := (h 2 u317)) (by decide +kernel) (by decide +kernel) (by omega) (by omega) (by decide) rfl (fun l319 => ?_)
      refine x_goto (np := 17) (x := 18) (by decide +kernel) ?_
      refine x_retI (np := 19) (x := 0) (by decide +kernel) l319 (Or.inl (by decide +kernel)) ⟨_, rfl, l319, ?_⟩
      refine x_addA (by rw [tb_b79]; decide +kernel) l305 l319 (fun v320 l321 => ?_)
      refine x_const (np := 46) (x := 9223372245160689712) (a := 2147483696) (by decide +kernel) (by decide) (by decide) ?_
      refine x_subA (by rw [tb_b79]; decide +kernel) l321 (by decide) (fun v322 l323 => ?_)
      refine x_istore (np := 48) (x := 3) (lo' := [x_r 1, iv_c 2147483648, iv_c a2, iv_c v322, iv_c v206]) (by decide +kernel) l323 (Nat.le_of_ble_eq_true rfl) rfl ?_
      refine x_iinc (np := 51) (i := 4) (j := 2147483649) (v := (1 + v206)) (lo' := [x_r 1, iv_c 2147483648, iv_c a2, iv_c v322, iv_c (1 + v206)]) (by decide +kernel) (by decide) (by decide) rfl (by omega) (by omega) (by omega) rfl ?_
      refine x_goto (np := 54) (x := 5) (by decide +kernel) ?_
      exact i212 v322 (1 + v206) (by omega) (by omega) (by omega) (by omega)
  have b324 := jB (e := 2) 0 hJ rg_1_2_0_1 (by omega) (by omega)
  exact p208 _ 2147483648 2147483648 (Nat.lt_succ_self _) (by omega) (by omega) (by omega)
set_option maxHeartbeats 0 in
/-- LentNames$Tape.takesNumber(II)I -/
theorem c79_1_c1 {sc : Nat × Nat} {d a2 : Nat} {h : xh} (hJ : J h) (ba2 : 2147483660 ≤ a2 ∧ a2 ≤ 2147483660) : X sc 79 (d + 1) (xI fun r h' => J h' ∧ Fr 33 h h' ∧ (2147483647 ≤ r ∧ r ≤ 2147483660) ∧ (r ≤ a2)) 0 0 0 [x_r 1, iv_c 2147483649, iv_c a2, 147573952589676412928, 147573952589676412928] [] h := by
  have la2 : a2 < 4294967296 := by omega
  have hF := Fr.refl 33 h
  refine x_const (np := 1) (x := 9223372039002259456) (a := 2147483648) (by decide +kernel) (by decide) (by decide) ?_
  refine x_istore (np := 2) (x := 3) (lo' := [x_r 1, iv_c 2147483649, iv_c a2, iv_c 2147483648, 147573952589676412928]) (by decide +kernel) (by decide) (Nat.le_of_ble_eq_true rfl) rfl ?_
  refine x_const (np := 3) (x := 9223372039002259456) (a := 2147483648) (by decide +kernel) (by decide) (by decide) ?_
  refine x_istore (np := 5) (x := 4) (lo' := [x_r 1, iv_c 2147483649, iv_c a2, iv_c 2147483648, iv_c 2147483648]) (by decide +kernel) (by decide) (Nat.le_of_ble_eq_true rfl) rfl ?_
  have b209 := jB (e := 2) 0 hJ rg_1_2_0_1 (by omega) (by omega)
  have p208 : ∀ (n : Nat) (v204 : Nat) (v206 : Nat), 4294967296 - v206 < n → (0 ≤ v204 ∧ v204 ≤ 4294967295) → (2147483648 ≤ v206 ∧ v206 ≤ 2147483652) → (h 1 2) + v206 ≤ 4294967696 → X sc 79 (d + 1) (xI fun r h' => J h' ∧ Fr 33 h h' ∧ (2147483647 ≤ r ∧ r ≤ 2147483660) ∧ (r ≤ a2)) 0 0 5 [x_r 1, iv_c 2147483649, iv_c a2, iv_c v204, iv_c v206] [] h := by
    intro n
    induction n with
    | zero => intro v204 v206 q211; exact absurd q211 (Nat.not_lt_zero _)
    | succ n i212 =>
      intro v204 v206 q211 b205 b207 b210
      refine x_iload (np := 7) (x := 4) (by decide +kernel) rfl (by omega) ?_
      refine x_const (np := 8) (x := 9223372051887161347) (a := 2147483651) (by decide +kernel) (by decide) (by decide) ?_
      refine x_icmp (k := 4) (tg := 54) (np := 11) (by decide +kernel) (by decide) (by omega) (by decide) (fun q213 => ?_) (fun q214 => ?_)
      · have q213 : 2147483651 < v206 := q213
        refine x_iload (np := 56) (x := 4) (by decide +kernel) rfl (by omega) ?_
        refine x_ifz (k := 0) (tg := 75) (np := 59) (by decide +kernel) (by decide) (by omega) (fun q215 => ?_) (fun q216 => ?_)
        · have q215 : v206 = 2147483648 := q215
          exfalso; omega
        have q216 : ¬ (v206 = 2147483648) := q216
        refine x_iload (np := 61) (x := 4) (by decide +kernel) rfl (by omega) ?_
        refine x_const (np := 62) (x := 9223372051887161347) (a := 2147483651) (by decide +kernel) (by decide) (by decide) ?_
        refine x_icmp (k := 4) (tg := 75) (np := 65) (by decide +kernel) (by decide) (by omega) (by decide) (fun q217 => ?_) (fun q218 => ?_)
        · have q217 : 2147483651 < v206 := q217
          refine x_const (np := 76) (x := 9223372034707292159) (a := 2147483647) (by decide +kernel) (by decide) (by decide) ?_
          refine x_retI (np := 77) (x := 0) (by decide +kernel) (by decide) (Or.inl (by decide +kernel)) ⟨_, rfl, (by decide), ?_⟩
          exact ⟨hJ, hF, (by omega), (by omega)⟩
        have q218 : ¬ (2147483651 < v206) := q218
        exfalso; omega
      have q214 : ¬ (2147483651 < v206) := q214
      refine x_aload (np := 12) (x := 0) (by decide +kernel) rfl (x_nc_le (by decide)) ?_
      refine x_aload (np := 13) (x := 0) (by decide +kernel) rfl (x_nc_le (by decide)) ?_
      refine x_getC (np := 16) (x := 450) (f := 2) (q := (h 1 2)) (by decide +kernel) (by decide) (by decide +kernel) rfl (fun l219 => ?_)
      refine x_iload (np := 18) (x := 4) (by decide +kernel) rfl (by omega) ?_
      obtain ⟨v220, q221⟩ : ∃ z, z + 2147483648 = (h 1 2) + v206 := ⟨(h 1 2) + v206 - 2147483648, by omega⟩
      refine x_iadd (np := 19) (x := 0) (v := v220) (by decide +kernel) l219 (by omega) (by omega) (by omega) ?_
      refine x_nI (t := 6) (mj := 81) (n := 2) (rc := 8) (ml := 2) (nr := 0) (np := 22) (as := [x_r 1, iv_c v220]) (rest := []) (lo1 := [x_r 1, iv_c v220]) (by decide +kernel) (by decide) (by decide +kernel) (x_rb_of (by decide +kernel)) rfl rfl (x_wr (by decide) (x_wi (by omega) x_wn)) x_wn (by decide) rfl ?_
      refine x_iload (np := 1) (x := 1) (by decide +kernel) rfl (by omega) ?_
      refine x_aload (np := 2) (x := 0) (by decide +kernel) rfl (x_nc_le (by decide)) ?_
      have b222 := jB (e := 1) 0 hJ rg_1_1_0_1 (by omega) (by omega)
      refine x_getC (np := 5) (x := 449) (f := 1) (q := (h 1 1)) (by decide +kernel) (by decide) (by decide +kernel) rfl (fun l223 => ?_)
      refine x_icmp (k := 3) (tg := 17) (np := 8) (by decide +kernel) (by decide) (by omega) l223 (fun q224 => ?_) (fun q225 => ?_)
      · have q224 : (h 1 1) ≤ v220 := q224
        refine x_const (np := 18) (x := 9223372034707292159) (a := 2147483647) (by decide +kernel) (by decide) (by decide) ?_
        refine x_retI (np := 19) (x := 0) (by decide +kernel) (by decide) (Or.inl (by decide +kernel)) ⟨_, rfl, (by decide), ?_⟩
        refine x_nI (t := 0) (mj := 82) (n := 1) (rc := 0) (ml := 1) (nr := 0) (np := 25) (as := [iv_c 2147483647]) (rest := []) (lo1 := [iv_c 2147483647]) (by decide +kernel) (by decide) (by decide +kernel) (Or.inl rfl) rfl rfl (x_wi (by decide) x_wn) x_wn (by decide) rfl ?_
        refine x_iload (np := 1) (x := 0) (by decide +kernel) rfl (by decide) ?_
        refine x_const (np := 3) (x := 9223372245160689712) (a := 2147483696) (by decide +kernel) (by decide) (by decide) ?_
        refine x_icmp (k := 2) (tg := 16) (np := 6) (by decide +kernel) (by decide) (by decide) (by decide) (fun q226 => ?_) (fun q227 => ?_)
        · have q226 : 2147483647 < 2147483696 := q226
          refine x_const (np := 17) (x := 9223372039002259456) (a := 2147483648) (by decide +kernel) (by decide) (by decide) ?_
          refine x_retI (np := 18) (x := 0) (by decide +kernel) (by decide) (Or.inr ⟨by decide +kernel, by omega, by omega⟩) ⟨_, rfl, (by decide), ?_⟩
          refine x_ifz (k := 0) (tg := 54) (np := 28) (by decide +kernel) (by decide) (by decide) (fun q228 => ?_) (fun q229 => ?_)
          · have q228 : 2147483648 = 2147483648 := q228
            refine x_iload (np := 56) (x := 4) (by decide +kernel) rfl (by omega) ?_
            refine x_ifz (k := 0) (tg := 75) (np := 59) (by decide +kernel) (by decide) (by omega) (fun q230 => ?_) (fun q231 => ?_)
            · have q230 : v206 = 2147483648 := q230
              refine x_const (np := 76) (x := 9223372034707292159) (a := 2147483647) (by decide +kernel) (by decide) (by decide) ?_
              refine x_retI (np := 77) (x := 0) (by decide +kernel) (by decide) (Or.inl (by decide +kernel)) ⟨_, rfl, (by decide), ?_⟩
              exact ⟨hJ, hF, (by omega), (by omega)⟩
            have q231 : ¬ (v206 = 2147483648) := q231
            refine x_iload (np := 61) (x := 4) (by decide +kernel) rfl (by omega) ?_
            refine x_const (np := 62) (x := 9223372051887161347) (a := 2147483651) (by decide +kernel) (by decide) (by decide) ?_
            refine x_icmp (k := 4) (tg := 75) (np := 65) (by decide +kernel) (by decide) (by omega) (by decide) (fun q232 => ?_) (fun q233 => ?_)
            · have q232 : 2147483651 < v206 := q232
              exfalso; omega
            have q233 : ¬ (2147483651 < v206) := q233
            refine x_iload (np := 66) (x := 3) (by decide +kernel) rfl (by omega) ?_
            refine x_iload (np := 67) (x := 1) (by decide +kernel) rfl (by decide) ?_
            refine x_icmp (k := 2) (tg := 75) (np := 70) (by decide +kernel) (by decide) (by omega) (by decide) (fun q234 => ?_) (fun q235 => ?_)
            · have q234 : v204 < 2147483649 := q234
              refine x_const (np := 76) (x := 9223372034707292159) (a := 2147483647) (by decide +kernel) (by decide) (by decide) ?_
              refine x_retI (np := 77) (x := 0) (by decide +kernel) (by decide) (Or.inl (by decide +kernel)) ⟨_, rfl, (by decide), ?_⟩
              exact ⟨hJ, hF, (by omega), (by omega)⟩
            have q235 : ¬ (v204 < 2147483649) := q235
            refine x_iload (np := 71) (x := 3) (by decide +kernel) rfl (by omega) ?_
            refine x_iload (np := 72) (x := 2) (by decide +kernel) rfl la2 ?_
            refine x_icmp (k := 5) (tg := 77) (np := 75) (by decide +kernel) (by decide) (by omega) la2 (fun q236 => ?_) (fun q237 => ?_)
            · have q236 : v204 ≤ a2 := q236
              refine x_aload (np := 78) (x := 0) (by decide +kernel) rfl (x_nc_le (by decide)) ?_
              refine x_aload (np := 79) (x := 0) (by decide +kernel) rfl (x_nc_le (by decide)) ?_
              refine x_getC (np := 82) (x := 450) (f := 2) (q := (h 1 2)) (by decide +kernel) (by decide) (by decide +kernel) rfl (fun l238 => ?_)
              refine x_iload (np := 84) (x := 4) (by decide +kernel) rfl (by omega) ?_
              obtain ⟨v239, q240⟩ : ∃ z, z + 2147483648 = (h 1 2) + v206 := ⟨(h 1 2) + v206 - 2147483648, by omega⟩
              refine x_iadd (np := 85) (x := 0) (v := v239) (by decide +kernel) l219 (by omega) (by omega) (by omega) ?_
              refine x_cV (t := 6) (mj := 80) (n := 2) (rc := 8) (ml := 2) (nr := 0) (np := 88) (as := [x_r 1, iv_c v239]) (rest := []) (lo1 := [x_r 1, iv_c v239]) (by decide +kernel) (by decide) (by decide +kernel) (x_rb_of (by decide +kernel)) rfl rfl (x_wr (by decide) (x_wi (by omega) x_wn)) x_wn (by decide) rfl (c80_1n hJ  (by omega)) (fun h244 q243 => ?_)
              obtain ⟨j245, f246⟩ := q243
              have f249 := Fr.trans hF f246 (by decide)
              refine x_iload (np := 89) (x := 3) (by decide +kernel) rfl (by omega) ?_
              refine x_retI (np := 90) (x := 0) (by decide +kernel) (by omega) (Or.inl (by decide +kernel)) ⟨_, rfl, (by omega), ?_⟩
              exact ⟨j245, f249, (by omega), (by omega)⟩
            have q237 : ¬ (v204 ≤ a2) := q237
            refine x_const (np := 76) (x := 9223372034707292159) (a := 2147483647) (by decide +kernel) (by decide) (by decide) ?_
            refine x_retI (np := 77) (x := 0) (by decide +kernel) (by decide) (Or.inl (by decide +kernel)) ⟨_, rfl, (by decide), ?_⟩
            exact ⟨hJ, hF, (by omega), (by omega)⟩
          have q229 : ¬ (2147483648 = 2147483648) := q229
          exfalso; omega
        have q227 : ¬ (2147483647 < 2147483696) := q227
        exfalso; omega
      have q225 : ¬ ((h 1 1) ≤ v220) := q225
      refine x_aload (np := 9) (x := 0) (by decide +kernel) rfl (x_nc_le (by decide)) ?_
      have q250 : h 1 0 = 2 := by have z := jB (e := 0) 0 hJ rg_1_0_0_1 (by decide) (by decide); omega
      refine x_getR (np := 12) (x := 448) (f := 0) (q := 2) (by decide +kernel) (by decide) (by decide +kernel) q250 ?_
      refine x_iload (np := 13) (x := 1) (by decide +kernel) rfl (by omega) ?_
      obtain ⟨u251, q252⟩ : ∃ z, v220 = 2147483648 + z := ⟨v220 - 2147483648, by omega⟩
      refine x_aldC (np := 14) (x := 0) (n := 400) (i := u251) (q := (h 2 u251)) (by decide +kernel) (by decide +kernel) (by omega) (by omega) (by decide) rfl (fun l253 => ?_)
      refine x_goto (np := 17) (x := 18) (by decide +kernel) ?_
      refine x_retI (np := 19) (x := 0) (by decide +kernel) l253 (Or.inl (by decide +kernel)) ⟨_, rfl, l253, ?_⟩
      refine x_nI (t := 0) (mj := 82) (n := 1) (rc := 0) (ml := 1) (nr := 0) (np := 25) (as := [iv_c (h 2 u251)]) (rest := []) (lo1 := [iv_c (h 2 u251)]) (by decide +kernel) (by decide) (by decide +kernel) (Or.inl rfl) rfl rfl (x_wi l253 x_wn) x_wn (by decide) rfl ?_
      refine x_iload (np := 1) (x := 0) (by decide +kernel) rfl l253 ?_
      refine x_const (np := 3) (x := 9223372245160689712) (a := 2147483696) (by decide +kernel) (by decide) (by decide) ?_
      refine x_icmp (k := 2) (tg := 16) (np := 6) (by decide +kernel) (by decide) l253 (by decide) (fun q254 => ?_) (fun q255 => ?_)
      · have q254 : (h 2 u251) < 2147483696 := q254
        refine x_const (np := 17) (x := 9223372039002259456) (a := 2147483648) (by decide +kernel) (by decide) (by decide) ?_
        refine x_retI (np := 18) (x := 0) (by decide +kernel) (by decide) (Or.inr ⟨by decide +kernel, by omega, by omega⟩) ⟨_, rfl, (by decide), ?_⟩
        refine x_ifz (k := 0) (tg := 54) (np := 28) (by decide +kernel) (by decide) (by decide) (fun q256 => ?_) (fun q257 => ?_)
        · have q256 : 2147483648 = 2147483648 := q256
          refine x_iload (np := 56) (x := 4) (by decide +kernel) rfl (by omega) ?_
          refine x_ifz (k := 0) (tg := 75) (np := 59) (by decide +kernel) (by decide) (by omega) (fun q258 => ?_) (fun q259 => ?_)
          · have q258 : v206 = 2147483648 := q258
            refine x_const (np := 76) (x := 9223372034707292159) (a := 2147483647) (by decide +kernel) (by decide) (by decide) ?_
            refine x_retI (np := 77) (x := 0) (by decide +kernel) (by decide) (Or.inl (by decide +kernel)) ⟨_, rfl, (by decide), ?_⟩
            exact ⟨hJ, hF, (by omega), (by omega)⟩
          have q259 : ¬ (v206 = 2147483648) := q259
          refine x_iload (np := 61) (x := 4) (by decide +kernel) rfl (by omega) ?_
          refine x_const (np := 62) (x := 9223372051887161347) (a := 2147483651) (by decide +kernel) (by decide) (by decide) ?_
          refine x_icmp (k := 4) (tg := 75) (np := 65) (by decide +kernel) (by decide) (by omega) (by decide) (fun q260 => ?_) (fun q261 => ?_)
          · have q260 : 2147483651 < v206 := q260
            exfalso; omega
          have q261 : ¬ (2147483651 < v206) := q261
          refine x_iload (np := 66) (x := 3) (by decide +kernel) rfl (by omega) ?_
          refine x_iload (np := 67) (x := 1) (by decide +kernel) rfl (by decide) ?_
          refine x_icmp (k := 2) (tg := 75) (np := 70) (by decide +kernel) (by decide) (by omega) (by decide) (fun q262 => ?_) (fun q263 => ?_)
          · have q262 : v204 < 2147483649 := q262
            refine x_const (np := 76) (x := 9223372034707292159) (a := 2147483647) (by decide +kernel) (by decide) (by decide) ?_
            refine x_retI (np := 77) (x := 0) (by decide +kernel) (by decide) (Or.inl (by decide +kernel)) ⟨_, rfl, (by decide), ?_⟩
            exact ⟨hJ, hF, (by omega), (by omega)⟩
          have q263 : ¬ (v204 < 2147483649) := q263
          refine x_iload (np := 71) (x := 3) (by decide +kernel) rfl (by omega) ?_
          refine x_iload (np := 72) (x := 2) (by decide +kernel) rfl la2 ?_
          refine x_icmp (k := 5) (tg := 77) (np := 75) (by decide +kernel) (by decide) (by omega) la2 (fun q264 => ?_) (fun q265 => ?_)
          · have q264 : v204 ≤ a2 := q264
            refine x_aload (np := 78) (x := 0) (by decide +kernel) rfl (x_nc_le (by decide)) ?_
            refine x_aload (np := 79) (x := 0) (by decide +kernel) rfl (x_nc_le (by decide)) ?_
            refine x_getC (np := 82) (x := 450) (f := 2) (q := (h 1 2)) (by decide +kernel) (by decide) (by decide +kernel) rfl (fun l266 => ?_)
            refine x_iload (np := 84) (x := 4) (by decide +kernel) rfl (by omega) ?_
            obtain ⟨v267, q268⟩ : ∃ z, z + 2147483648 = (h 1 2) + v206 := ⟨(h 1 2) + v206 - 2147483648, by omega⟩
            refine x_iadd (np := 85) (x := 0) (v := v267) (by decide +kernel) l219 (by omega) (by omega) (by omega) ?_
            refine x_cV (t := 6) (mj := 80) (n := 2) (rc := 8) (ml := 2) (nr := 0) (np := 88) (as := [x_r 1, iv_c v267]) (rest := []) (lo1 := [x_r 1, iv_c v267]) (by decide +kernel) (by decide) (by decide +kernel) (x_rb_of (by decide +kernel)) rfl rfl (x_wr (by decide) (x_wi (by omega) x_wn)) x_wn (by decide) rfl (c80_1n hJ  (by omega)) (fun h272 q271 => ?_)
            obtain ⟨j273, f274⟩ := q271
            have f277 := Fr.trans hF f274 (by decide)
            refine x_iload (np := 89) (x := 3) (by decide +kernel) rfl (by omega) ?_
            refine x_retI (np := 90) (x := 0) (by decide +kernel) (by omega) (Or.inl (by decide +kernel)) ⟨_, rfl, (by omega), ?_⟩
            exact ⟨j273, f277, (by omega), (by omega)⟩
          have q265 : ¬ (v204 ≤ a2) := q265
          refine x_const (np := 76) (x := 9223372034707292159) (a := 2147483647) (by decide +kernel) (by decide) (by decide) ?_
          refine x_retI (np := 77) (x := 0) (by decide +kernel) (by decide) (Or.inl (by decide +kernel)) ⟨_, rfl, (by decide), ?_⟩
          exact ⟨hJ, hF, (by omega), (by omega)⟩
        have q257 : ¬ (2147483648 = 2147483648) := q257
        exfalso; omega
      have q255 : ¬ ((h 2 u251) < 2147483696) := q255
      refine x_iload (np := 7) (x := 0) (by decide +kernel) rfl l253 ?_
      refine x_const (np := 9) (x := 9223372283815395385) (a := 2147483705) (by decide +kernel) (by decide) (by decide) ?_
      refine x_icmp (k := 4) (tg := 16) (np := 12) (by decide +kernel) (by decide) l253 (by decide) (fun q278 => ?_) (fun q279 => ?_)
      · have q278 : 2147483705 < (h 2 u251) := q278
        refine x_const (np := 17) (x := 9223372039002259456) (a := 2147483648) (by decide +kernel) (by decide) (by decide) ?_
        refine x_retI (np := 18) (x := 0) (by decide +kernel) (by decide) (Or.inr ⟨by decide +kernel, by omega, by omega⟩) ⟨_, rfl, (by decide), ?_⟩
        refine x_ifz (k := 0) (tg := 54) (np := 28) (by decide +kernel) (by decide) (by decide) (fun q280 => ?_) (fun q281 => ?_)
        · have q280 : 2147483648 = 2147483648 := q280
          refine x_iload (np := 56) (x := 4) (by decide +kernel) rfl (by omega) ?_
          refine x_ifz (k := 0) (tg := 75) (np := 59) (by decide +kernel) (by decide) (by omega) (fun q282 => ?_) (fun q283 => ?_)
          · have q282 : v206 = 2147483648 := q282
            refine x_const (np := 76) (x := 9223372034707292159) (a := 2147483647) (by decide +kernel) (by decide) (by decide) ?_
            refine x_retI (np := 77) (x := 0) (by decide +kernel) (by decide) (Or.inl (by decide +kernel)) ⟨_, rfl, (by decide), ?_⟩
            exact ⟨hJ, hF, (by omega), (by omega)⟩
          have q283 : ¬ (v206 = 2147483648) := q283
          refine x_iload (np := 61) (x := 4) (by decide +kernel) rfl (by omega) ?_
          refine x_const (np := 62) (x := 9223372051887161347) (a := 2147483651) (by decide +kernel) (by decide) (by decide) ?_
          refine x_icmp (k := 4) (tg := 75) (np := 65) (by decide +kernel) (by decide) (by omega) (by decide) (fun q284 => ?_) (fun q285 => ?_)
          · have q284 : 2147483651 < v206 := q284
            exfalso; omega
          have q285 : ¬ (2147483651 < v206) := q285
          refine x_iload (np := 66) (x := 3) (by decide +kernel) rfl (by omega) ?_
          refine x_iload (np := 67) (x := 1) (by decide +kernel) rfl (by decide) ?_
          refine x_icmp (k := 2) (tg := 75) (np := 70) (by decide +kernel) (by decide) (by omega) (by decide) (fun q286 => ?_) (fun q287 => ?_)
          · have q286 : v204 < 2147483649 := q286
            refine x_const (np := 76) (x := 9223372034707292159) (a := 2147483647) (by decide +kernel) (by decide) (by decide) ?_
            refine x_retI (np := 77) (x := 0) (by decide +kernel) (by decide) (Or.inl (by decide +kernel)) ⟨_, rfl, (by decide), ?_⟩
            exact ⟨hJ, hF, (by omega), (by omega)⟩
          have q287 : ¬ (v204 < 2147483649) := q287
          refine x_iload (np := 71) (x := 3) (by decide +kernel) rfl (by omega) ?_
          refine x_iload (np := 72) (x := 2) (by decide +kernel) rfl la2 ?_
          refine x_icmp (k := 5) (tg := 77) (np := 75) (by decide +kernel) (by decide) (by omega) la2 (fun q288 => ?_) (fun q289 => ?_)
          · have q288 : v204 ≤ a2 := q288
            refine x_aload (np := 78) (x := 0) (by decide +kernel) rfl (x_nc_le (by decide)) ?_
            refine x_aload (np := 79) (x := 0) (by decide +kernel) rfl (x_nc_le (by decide)) ?_
            refine x_getC (np := 82) (x := 450) (f := 2) (q := (h 1 2)) (by decide +kernel) (by decide) (by decide +kernel) rfl (fun l290 => ?_)
            refine x_iload (np := 84) (x := 4) (by decide +kernel) rfl (by omega) ?_
            obtain ⟨v291, q292⟩ : ∃ z, z + 2147483648 = (h 1 2) + v206 := ⟨(h 1 2) + v206 - 2147483648, by omega⟩
            refine x_iadd (np := 85) (x := 0) (v := v291) (by decide +kernel) l219 (by omega) (by omega) (by omega) ?_
            refine x_cV (t := 6) (mj := 80) (n := 2) (rc := 8) (ml := 2) (nr := 0) (np := 88) (as := [x_r 1, iv_c v291]) (rest := []) (lo1 := [x_r 1, iv_c v291]) (by decide +kernel) (by decide) (by decide +kernel) (x_rb_of (by decide +kernel)) rfl rfl (x_wr (by decide) (x_wi (by omega) x_wn)) x_wn (by decide) rfl (c80_1n hJ  (by omega)) (fun h296 q295 => ?_)
            obtain ⟨j297, f298⟩ := q295
            have f301 := Fr.trans hF f298 (by decide)
            refine x_iload (np := 89) (x := 3) (by decide +kernel) rfl (by omega) ?_
            refine x_retI (np := 90) (x := 0) (by decide +kernel) (by omega) (Or.inl (by decide +kernel)) ⟨_, rfl, (by omega), ?_⟩
            exact ⟨j297, f301, (by omega), (by omega)⟩
          have q289 : ¬ (v204 ≤ a2) := q289
          refine x_const (np := 76) (x := 9223372034707292159) (a := 2147483647) (by decide +kernel) (by decide) (by decide) ?_
          refine x_retI (np := 77) (x := 0) (by decide +kernel) (by decide) (Or.inl (by decide +kernel)) ⟨_, rfl, (by decide), ?_⟩
          exact ⟨hJ, hF, (by omega), (by omega)⟩
        have q281 : ¬ (2147483648 = 2147483648) := q281
        exfalso; omega
      have q279 : ¬ (2147483705 < (h 2 u251)) := q279
      refine x_const (np := 13) (x := 9223372043297226753) (a := 2147483649) (by decide +kernel) (by decide) (by decide) ?_
      refine x_goto (np := 16) (x := 17) (by decide +kernel) ?_
      refine x_retI (np := 18) (x := 0) (by decide +kernel) (by decide) (Or.inr ⟨by decide +kernel, by omega, by omega⟩) ⟨_, rfl, (by decide), ?_⟩
      refine x_ifz (k := 0) (tg := 54) (np := 28) (by decide +kernel) (by decide) (by decide) (fun q302 => ?_) (fun q303 => ?_)
      · have q302 : 2147483649 = 2147483648 := q302
        exfalso; omega
      have q303 : ¬ (2147483649 = 2147483648) := q303
      refine x_iload (np := 29) (x := 3) (by decide +kernel) rfl (by omega) ?_
      refine x_const (np := 31) (x := 9223372081951932426) (a := 2147483658) (by decide +kernel) (by decide) (by decide) ?_
      refine x_mulA (by rw [tb_b79]; decide +kernel) (by omega) (by decide) (fun v304 l305 => ?_)
      refine x_aload (np := 33) (x := 0) (by decide +kernel) rfl (x_nc_le (by decide)) ?_
      refine x_aload (np := 34) (x := 0) (by decide +kernel) rfl (x_nc_le (by decide)) ?_
      refine x_getC (np := 37) (x := 450) (f := 2) (q := (h 1 2)) (by decide +kernel) (by decide) (by decide +kernel) rfl (fun l306 => ?_)
      refine x_iload (np := 39) (x := 4) (by decide +kernel) rfl (by omega) ?_
      obtain ⟨v307, q308⟩ : ∃ z, z + 2147483648 = (h 1 2) + v206 := ⟨(h 1 2) + v206 - 2147483648, by omega⟩
      refine x_iadd (np := 40) (x := 0) (v := v307) (by decide +kernel) l219 (by omega) (by omega) (by omega) ?_
      refine x_nI (t := 6) (mj := 81) (n := 2) (rc := 8) (ml := 2) (nr := 1) (np := 43) (as := [x_r 1, iv_c v307]) (rest := [iv_c v304]) (lo1 := [x_r 1, iv_c v307]) (by decide +kernel) (by decide) (by decide +kernel) (x_rb_of (by decide +kernel)) rfl rfl (x_wr (by decide) (x_wi (by omega) x_wn)) (x_wi l305 x_wn) (by decide) rfl ?_
      refine x_iload (np := 1) (x := 1) (by decide +kernel) rfl (by omega) ?_
      refine x_aload (np := 2) (x := 0) (by decide +kernel) rfl (x_nc_le (by decide)) ?_
      refine x_getC (np := 5) (x := 449) (f := 1) (q := (h 1 1)) (by decide +kernel) (by decide) (by decide +kernel) rfl (fun l309 => ?_)
      refine x_icmp (k := 3) (tg := 17) (np := 8) (by decide +kernel) (by decide) (by omega) l223 (fun q310 => ?_) (fun q311 => ?_)
      · have q310 : (h 1 1) ≤ v307 := q310
        refine x_const (np := 18) (x := 9223372034707292159) (a := 2147483647) (by decide +kernel) (by decide) (by decide) ?_
        refine x_retI (np := 19) (x := 0) (by decide +kernel) (by decide) (Or.inl (by decide +kernel)) ⟨_, rfl, (by decide), ?_⟩
        refine x_addA (by rw [tb_b79]; decide +kernel) l305 (by decide) (fun v312 l313 => ?_)
        refine x_const (np := 46) (x := 9223372245160689712) (a := 2147483696) (by decide +kernel) (by decide) (by decide) ?_
        refine x_subA (by rw [tb_b79]; decide +kernel) l313 (by decide) (fun v314 l315 => ?_)
        refine x_istore (np := 48) (x := 3) (lo' := [x_r 1, iv_c 2147483649, iv_c a2, iv_c v314, iv_c v206]) (by decide +kernel) l315 (Nat.le_of_ble_eq_true rfl) rfl ?_
        refine x_iinc (np := 51) (i := 4) (j := 2147483649) (v := (1 + v206)) (lo' := [x_r 1, iv_c 2147483649, iv_c a2, iv_c v314, iv_c (1 + v206)]) (by decide +kernel) (by decide) (by decide) rfl (by omega) (by omega) (by omega) rfl ?_
        refine x_goto (np := 54) (x := 5) (by decide +kernel) ?_
        exact i212 v314 (1 + v206) (by omega) (by omega) (by omega) (by omega)
      have q311 : ¬ ((h 1 1) ≤ v307) := q311
      refine x_aload (np := 9) (x := 0) (by decide +kernel) rfl (x_nc_le (by decide)) ?_
      have q316 : h 1 0 = 2 := by have z := jB (e := 0) 0 hJ rg_1_0_0_1 (by decide) (by decide); omega
      refine x_getR (np := 12) (x := 448) (f := 0) (q := 2) (by decide +kernel) (by decide) (by decide +kernel) q316 ?_
      refine x_iload (np := 13) (x := 1) (by decide +kernel) rfl (by omega) ?_
      obtain ⟨u317, q318⟩ : ∃ z, v307 = 2147483648 + z := ⟨v307 - 2147483648, by omega⟩
      refine x_aldC (np := 14) (x := 0) (n := 400) (i := u317) (q := (h 2 u317)) (by decide +kernel) (by decide +kernel) (by omega) (by omega) (by decide) rfl (fun l319 => ?_)
      refine x_goto (np := 17) (x := 18) (by decide +kernel) ?_
      refine x_retI (np := 19) (x := 0) (by decide +kernel) l319 (Or.inl (by decide +kernel)) ⟨_, rfl, l319, ?_⟩
      refine x_addA (by rw [tb_b79]; decide +kernel) l305 l319 (fun v320 l321 => ?_)
      refine x_const (np := 46) (x := 9223372245160689712) (a := 2147483696) (by decide +kernel) (by decide) (by decide) ?_
      refine x_subA (by rw [tb_b79]; decide +kernel) l321 (by decide) (fun v322 l323 => ?_)
      refine x_istore (np := 48) (x := 3) (lo' := [x_r 1, iv_c 2147483649, iv_c a2, iv_c v322, iv_c v206]) (by decide +kernel) l323 (Nat.le_of_ble_eq_true rfl) rfl ?_
      refine x_iinc (np := 51) (i := 4) (j := 2147483649) (v := (1 + v206)) (lo' := [x_r 1, iv_c 2147483649, iv_c a2, iv_c v322, iv_c (1 + v206)]) (by decide +kernel) (by decide) (by decide) rfl (by omega) (by omega) (by omega) rfl ?_
      refine x_goto (np := 54) (x := 5) (by decide +kernel) ?_
      exact i212 v322 (1 + v206) (by omega) (by omega) (by omega) (by omega)
  have b324 := jB (e := 2) 0 hJ rg_1_2_0_1 (by omega) (by omega)
  exact p208 _ 2147483648 2147483648 (Nat.lt_succ_self _) (by omega) (by omega) (by omega)
set_option maxHeartbeats 0 in
/-- LentNames$Table.put(III)V -/
theorem c69_T1_c6 {sc : Nat × Nat} {d ra0 a1 a3 : Nat} {h : xh} (hJ : J h) (ta0 : tw ra0) (ba1 : 2147483648 ≤ a1 ∧ a1 ≤ 2147483667) (ba3 : 2147483648 ≤ a3 ∧ a3 ≤ 2147483660) : X sc 69 d (xV fun h' => J h' ∧ Fr 129 h h') 0 0 0 [x_r (ra0 + 1), iv_c a1, iv_c 2147483654, iv_c a3, 147573952589676412928] [] h := by
  have la1 : a1 < 4294967296 := by omega
  have la3 : a3 < 4294967296 := by omega
  have hF := Fr.refl 129 h
  refine x_iload (np := 1) (x := 1) (by decide +kernel) rfl la1 ?_
  refine x_ifz (k := 2) (tg := 28) (np := 4) (by decide +kernel) (by decide) la1 (fun q1 => ?_) (fun q2 => ?_)
  · have q1 : a1 < 2147483648 := q1
    exfalso; omega
  have q2 : ¬ (a1 < 2147483648) := q2
  refine x_iload (np := 5) (x := 1) (by decide +kernel) rfl la1 ?_
  refine x_aload (np := 6) (x := 0) (by decide +kernel) rfl (x_nc_le (tn_1 ta0)) ?_
  have b3 := jB (e := 2) 0 hJ (rg_T1_2_0_1 ta0) (by omega) (by omega)
  refine x_getC (np := 9) (x := 386) (f := 2) (q := (h (ra0 + 1) 2)) (by decide +kernel) (by decide) (tg_1_386_2_0 ta0) rfl (fun l4 => ?_)
  refine x_icmp (k := 3) (tg := 28) (np := 12) (by decide +kernel) (by decide) la1 l4 (fun q5 => ?_) (fun q6 => ?_)
  · have q5 : (h (ra0 + 1) 2) ≤ a1 := q5
    refine x_const (np := 29) (x := 9223372039002259456) (a := 2147483648) (by decide +kernel) (by decide) (by decide) ?_
    refine x_istore (np := 31) (x := 4) (lo' := [x_r (ra0 + 1), iv_c a1, iv_c 2147483654, iv_c a3, iv_c 2147483648]) (by decide +kernel) (by decide) (Nat.le_of_ble_eq_true rfl) rfl ?_
    refine x_iload (np := 33) (x := 4) (by decide +kernel) rfl (by decide) ?_
    refine x_ifz (k := 0) (tg := 50) (np := 36) (by decide +kernel) (by decide) (by decide) (fun q7 => ?_) (fun q8 => ?_)
    · have q7 : 2147483648 = 2147483648 := q7
      refine x_retV (np := 51) (x := 0) (by decide +kernel) (by decide +kernel) ⟨rfl, ?_⟩
      exact ⟨hJ, hF⟩
    have q8 : ¬ (2147483648 = 2147483648) := q8
    exfalso; omega
  have q6 : ¬ ((h (ra0 + 1) 2) ≤ a1) := q6
  refine x_iload (np := 13) (x := 2) (by decide +kernel) rfl (by decide) ?_
  refine x_ifz (k := 2) (tg := 28) (np := 16) (by decide +kernel) (by decide) (by decide) (fun q9 => ?_) (fun q10 => ?_)
  · have q9 : 2147483654 < 2147483648 := q9
    exfalso; omega
  have q10 : ¬ (2147483654 < 2147483648) := q10
  refine x_iload (np := 17) (x := 2) (by decide +kernel) rfl (by decide) ?_
  refine x_aload (np := 18) (x := 0) (by decide +kernel) rfl (x_nc_le (tn_1 ta0)) ?_
  have b11 := jB (e := 0) 0 hJ (rg_T1_0_0_1 ta0) (by omega) (by omega)
  have q12 : (h (ra0 + 1) 0) = 2147483655 := by omega
  refine x_getC (np := 21) (x := 384) (f := 0) (q := 2147483655) (by decide +kernel) (by decide) (tg_1_384_0_0 ta0) q12 (fun l13 => ?_)
  refine x_icmp (k := 3) (tg := 28) (np := 24) (by decide +kernel) (by decide) (by decide) (by decide) (fun q14 => ?_) (fun q15 => ?_)
  · have q14 : 2147483655 ≤ 2147483654 := q14
    exfalso; omega
  have q15 : ¬ (2147483655 ≤ 2147483654) := q15
  refine x_const (np := 25) (x := 9223372043297226753) (a := 2147483649) (by decide +kernel) (by decide) (by decide) ?_
  refine x_goto (np := 28) (x := 29) (by decide +kernel) ?_
  refine x_istore (np := 31) (x := 4) (lo' := [x_r (ra0 + 1), iv_c a1, iv_c 2147483654, iv_c a3, iv_c 2147483649]) (by decide +kernel) (by decide) (Nat.le_of_ble_eq_true rfl) rfl ?_
  refine x_iload (np := 33) (x := 4) (by decide +kernel) rfl (by decide) ?_
  refine x_ifz (k := 0) (tg := 50) (np := 36) (by decide +kernel) (by decide) (by decide) (fun q16 => ?_) (fun q17 => ?_)
  · have q16 : 2147483649 = 2147483648 := q16
    exfalso; omega
  have q17 : ¬ (2147483649 = 2147483648) := q17
  refine x_aload (np := 37) (x := 0) (by decide +kernel) rfl (x_nc_le (tn_1 ta0)) ?_
  have q18 : h (ra0 + 1) 1 = (ra0 + 2) := tf_1_1 hJ ta0
  refine x_getR (np := 40) (x := 385) (f := 1) (q := (ra0 + 2)) (by decide +kernel) (by decide) (tg_1_385_1_1 ta0) q18 ?_
  refine x_iload (np := 41) (x := 1) (by decide +kernel) rfl la1 ?_
  refine x_aload (np := 42) (x := 0) (by decide +kernel) rfl (x_nc_le (tn_1 ta0)) ?_
  refine x_getC (np := 45) (x := 384) (f := 0) (q := 2147483655) (by decide +kernel) (by decide) (tg_1_384_0_0 ta0) q12 (fun l19 => ?_)
  obtain ⟨u20, q21⟩ : ∃ z, a1 = 2147483648 + z := ⟨a1 - 2147483648, by omega⟩
  refine x_imul (np := 46) (x := 0) (i := u20) (j := 7) (v := (2147483648 + 7 * u20)) (by decide +kernel) (by omega) (by omega) (by omega) (by omega) la1 (by decide) ?_
  refine x_iload (np := 47) (x := 2) (by decide +kernel) rfl (by decide) ?_
  refine x_iadd (np := 48) (x := 0) (v := (2147483654 + 7 * u20)) (by decide +kernel) (by omega) (by decide) (by omega) (by omega) ?_
  refine x_iload (np := 49) (x := 3) (by decide +kernel) rfl la3 ?_
  refine x_ast (np := 50) (x := 0) (kd := 1) (n := 140) (i := (6 + 7 * u20)) (by decide +kernel) (Or.inl rfl) (ta_2_140 ta0) (by omega) (by omega) (by decide) la3 (fun z => absurd z (by decide)) ?_
  have j24 := jU (e := (6 + 7 * u20)) (v := a3) u20 hJ (rg_T2_6_7_20 ta0) (by omega) (by omega) (by omega)
  have f26 := jF (e := (6 + 7 * u20)) (v := a3) u20 hF (rg_T2_6_7_20 ta0) (by omega) (by omega) (by decide)
  generalize e25 : x_up h (ra0 + 2) (6 + 7 * u20) a3 = h23 at j24 f26 ⊢
  refine x_retV (np := 51) (x := 0) (by decide +kernel) (by decide +kernel) ⟨rfl, ?_⟩
  exact ⟨j24, f26⟩
set_option maxHeartbeats 0 in
/-- LentNames$TownReader.readInto(LLentNames$Table;IIII)Z -/
theorem c102_61_T1_c6_c1 {sc : Nat × Nat} {d ra1 a2 a5 : Nat} {h : xh} (hJ : J h) (ta1 : tw ra1) (ba2 : 2147483648 ≤ a2 ∧ a2 ≤ 2147483667) (ba5 : 2147483660 ≤ a5 ∧ a5 ≤ 2147483660) : X sc 102 (d + 2) (xI fun r h' => J h' ∧ Fr 161 h h' ∧ (2147483648 ≤ r ∧ r ≤ 2147483649)) 0 0 0 [x_r 61, x_r (ra1 + 1), iv_c a2, iv_c 2147483654, iv_c 2147483649, iv_c a5, 147573952589676412928] [] h := by
  have la2 : a2 < 4294967296 := by omega
  have la5 : a5 < 4294967296 := by omega
  have hF := Fr.refl 161 h
  refine x_aload (np := 1) (x := 0) (by decide +kernel) rfl (x_nc_le (by decide)) ?_
  have q1 : h 61 0 = 1 := by have z := jB (e := 0) 0 hJ rg_61_0_0_1 (by decide) (by decide); omega
  refine x_getR (np := 4) (x := 576) (f := 0) (q := 1) (by decide +kernel) (by decide) (by decide +kernel) q1 ?_
  refine x_iload (np := 6) (x := 4) (by decide +kernel) rfl (by decide) ?_
  refine x_iload (np := 8) (x := 5) (by decide +kernel) rfl la5 ?_
  refine x_cI (t := 6) (mj := 79) (n := 3) (rc := 8) (ml := 5) (nr := 0) (np := 11) (as := [x_r 1, iv_c 2147483649, iv_c a5]) (rest := []) (lo1 := [x_r 1, iv_c 2147483649, iv_c a5, 147573952589676412928, 147573952589676412928]) (by decide +kernel) (by decide) (by decide +kernel) (x_rb_of (by decide +kernel)) rfl rfl (x_wr (by decide) (x_wi (by decide) (x_wi la5 x_wn))) x_wn (by decide) rfl (c79_1_c1 hJ   (by omega)) (fun v2 h5 l3 q4 => ?_)
  obtain ⟨j6, f7, b8, c9⟩ := q4
  have f10 := Fr.trans hF f7 (by decide)
  refine x_istore (np := 13) (x := 6) (lo' := [x_r 61, x_r (ra1 + 1), iv_c a2, iv_c 2147483654, iv_c 2147483649, iv_c a5, iv_c v2]) (by decide +kernel) l3 (Nat.le_of_ble_eq_true rfl) rfl ?_
  refine x_iload (np := 15) (x := 6) (by decide +kernel) rfl l3 ?_
  refine x_const (np := 16) (x := 9223372034707292159) (a := 2147483647) (by decide +kernel) (by decide) (by decide) ?_
  refine x_icmp (k := 1) (tg := 21) (np := 19) (by decide +kernel) (by decide) l3 (by decide) (fun q11 => ?_) (fun q12 => ?_)
  · have q11 : v2 ≠ 2147483647 := q11
    refine x_aload (np := 22) (x := 1) (by decide +kernel) rfl (x_nc_le (tn_1 ta1)) ?_
    refine x_iload (np := 23) (x := 2) (by decide +kernel) rfl la2 ?_
    refine x_iload (np := 24) (x := 3) (by decide +kernel) rfl (by decide) ?_
    refine x_iload (np := 26) (x := 6) (by decide +kernel) rfl l3 ?_
    refine x_cV (t := 6) (mj := 69) (n := 4) (rc := 7) (ml := 5) (nr := 0) (np := 29) (as := [x_r (ra1 + 1), iv_c a2, iv_c 2147483654, iv_c v2]) (rest := []) (lo1 := [x_r (ra1 + 1), iv_c a2, iv_c 2147483654, iv_c v2, 147573952589676412928]) (by decide +kernel) (by decide) (by decide +kernel) (x_rb_of (tr_1_7 ta1)) rfl rfl (x_wr (tn_1 ta1) (x_wi la2 (x_wi (by decide) (x_wi l3 x_wn)))) x_wn (by decide) rfl (c69_T1_c6 j6 ta1 (by omega)  (by omega)) (fun h16 q15 => ?_)
    obtain ⟨j17, f18⟩ := q15
    have f21 := Fr.trans f10 f18 (by decide)
    refine x_const (np := 30) (x := 9223372043297226753) (a := 2147483649) (by decide +kernel) (by decide) (by decide) ?_
    refine x_retI (np := 31) (x := 0) (by decide +kernel) (by decide) (Or.inr ⟨by decide +kernel, by omega, by omega⟩) ⟨_, rfl, (by decide), ?_⟩
    exact ⟨j17, f21, (by omega)⟩
  have q12 : ¬ (v2 ≠ 2147483647) := q12
  refine x_const (np := 20) (x := 9223372039002259456) (a := 2147483648) (by decide +kernel) (by decide) (by decide) ?_
  refine x_retI (np := 21) (x := 0) (by decide +kernel) (by decide) (Or.inr ⟨by decide +kernel, by omega, by omega⟩) ⟨_, rfl, (by decide), ?_⟩
  exact ⟨j6, f10, (by omega)⟩
set_option maxHeartbeats 0 in
/-- LentNames$Table.put(III)V -/
theorem c69_T7 {sc : Nat × Nat} {d ra0 a1 a2 a3 : Nat} {h : xh} (hJ : J h) (ta0 : tw ra0) (ba1 : 2147483647 ≤ a1 ∧ a1 ≤ 2147483657) (ba2 : 2147483648 ≤ a2 ∧ a2 ≤ 2147483652) (ba3 : 2147483648 ≤ a3 ∧ a3 ≤ 2147483648) : X sc 69 d (xV fun h' => J h' ∧ Fr 129 h h') 0 0 0 [x_r (ra0 + 7), iv_c a1, iv_c a2, iv_c a3, 147573952589676412928] [] h := by
  have la1 : a1 < 4294967296 := by omega
  have la2 : a2 < 4294967296 := by omega
  have la3 : a3 < 4294967296 := by omega
  have hF := Fr.refl 129 h
  refine x_iload (np := 1) (x := 1) (by decide +kernel) rfl la1 ?_
  refine x_ifz (k := 2) (tg := 28) (np := 4) (by decide +kernel) (by decide) la1 (fun q1 => ?_) (fun q2 => ?_)
  · have q1 : a1 < 2147483648 := q1
    refine x_const (np := 29) (x := 9223372039002259456) (a := 2147483648) (by decide +kernel) (by decide) (by decide) ?_
    refine x_istore (np := 31) (x := 4) (lo' := [x_r (ra0 + 7), iv_c a1, iv_c a2, iv_c a3, iv_c 2147483648]) (by decide +kernel) (by decide) (Nat.le_of_ble_eq_true rfl) rfl ?_
    refine x_iload (np := 33) (x := 4) (by decide +kernel) rfl (by decide) ?_
    refine x_ifz (k := 0) (tg := 50) (np := 36) (by decide +kernel) (by decide) (by decide) (fun q3 => ?_) (fun q4 => ?_)
    · have q3 : 2147483648 = 2147483648 := q3
      refine x_retV (np := 51) (x := 0) (by decide +kernel) (by decide +kernel) ⟨rfl, ?_⟩
      exact ⟨hJ, hF⟩
    have q4 : ¬ (2147483648 = 2147483648) := q4
    exfalso; omega
  have q2 : ¬ (a1 < 2147483648) := q2
  refine x_iload (np := 5) (x := 1) (by decide +kernel) rfl la1 ?_
  refine x_aload (np := 6) (x := 0) (by decide +kernel) rfl (x_nc_le (tn_7 ta0)) ?_
  have b5 := jB (e := 2) 0 hJ (rg_T7_2_0_1 ta0) (by omega) (by omega)
  refine x_getC (np := 9) (x := 386) (f := 2) (q := (h (ra0 + 7) 2)) (by decide +kernel) (by decide) (tg_7_386_2_0 ta0) rfl (fun l6 => ?_)
  refine x_icmp (k := 3) (tg := 28) (np := 12) (by decide +kernel) (by decide) la1 l6 (fun q7 => ?_) (fun q8 => ?_)
  · have q7 : (h (ra0 + 7) 2) ≤ a1 := q7
    refine x_const (np := 29) (x := 9223372039002259456) (a := 2147483648) (by decide +kernel) (by decide) (by decide) ?_
    refine x_istore (np := 31) (x := 4) (lo' := [x_r (ra0 + 7), iv_c a1, iv_c a2, iv_c a3, iv_c 2147483648]) (by decide +kernel) (by decide) (Nat.le_of_ble_eq_true rfl) rfl ?_
    refine x_iload (np := 33) (x := 4) (by decide +kernel) rfl (by decide) ?_
    refine x_ifz (k := 0) (tg := 50) (np := 36) (by decide +kernel) (by decide) (by decide) (fun q9 => ?_) (fun q10 => ?_)
    · have q9 : 2147483648 = 2147483648 := q9
      refine x_retV (np := 51) (x := 0) (by decide +kernel) (by decide +kernel) ⟨rfl, ?_⟩
      exact ⟨hJ, hF⟩
    have q10 : ¬ (2147483648 = 2147483648) := q10
    exfalso; omega
  have q8 : ¬ ((h (ra0 + 7) 2) ≤ a1) := q8
  refine x_iload (np := 13) (x := 2) (by decide +kernel) rfl la2 ?_
  refine x_ifz (k := 2) (tg := 28) (np := 16) (by decide +kernel) (by decide) la2 (fun q11 => ?_) (fun q12 => ?_)
  · have q11 : a2 < 2147483648 := q11
    exfalso; omega
  have q12 : ¬ (a2 < 2147483648) := q12
  refine x_iload (np := 17) (x := 2) (by decide +kernel) rfl la2 ?_
  refine x_aload (np := 18) (x := 0) (by decide +kernel) rfl (x_nc_le (tn_7 ta0)) ?_
  have b13 := jB (e := 0) 0 hJ (rg_T7_0_0_1 ta0) (by omega) (by omega)
  have q14 : (h (ra0 + 7) 0) = 2147483652 := by omega
  refine x_getC (np := 21) (x := 384) (f := 0) (q := 2147483652) (by decide +kernel) (by decide) (tg_7_384_0_0 ta0) q14 (fun l15 => ?_)
  refine x_icmp (k := 3) (tg := 28) (np := 24) (by decide +kernel) (by decide) la2 (by decide) (fun q16 => ?_) (fun q17 => ?_)
  · have q16 : 2147483652 ≤ a2 := q16
    refine x_const (np := 29) (x := 9223372039002259456) (a := 2147483648) (by decide +kernel) (by decide) (by decide) ?_
    refine x_istore (np := 31) (x := 4) (lo' := [x_r (ra0 + 7), iv_c a1, iv_c a2, iv_c a3, iv_c 2147483648]) (by decide +kernel) (by decide) (Nat.le_of_ble_eq_true rfl) rfl ?_
    refine x_iload (np := 33) (x := 4) (by decide +kernel) rfl (by decide) ?_
    refine x_ifz (k := 0) (tg := 50) (np := 36) (by decide +kernel) (by decide) (by decide) (fun q18 => ?_) (fun q19 => ?_)
    · have q18 : 2147483648 = 2147483648 := q18
      refine x_retV (np := 51) (x := 0) (by decide +kernel) (by decide +kernel) ⟨rfl, ?_⟩
      exact ⟨hJ, hF⟩
    have q19 : ¬ (2147483648 = 2147483648) := q19
    exfalso; omega
  have q17 : ¬ (2147483652 ≤ a2) := q17
  refine x_const (np := 25) (x := 9223372043297226753) (a := 2147483649) (by decide +kernel) (by decide) (by decide) ?_
  refine x_goto (np := 28) (x := 29) (by decide +kernel) ?_
  refine x_istore (np := 31) (x := 4) (lo' := [x_r (ra0 + 7), iv_c a1, iv_c a2, iv_c a3, iv_c 2147483649]) (by decide +kernel) (by decide) (Nat.le_of_ble_eq_true rfl) rfl ?_
  refine x_iload (np := 33) (x := 4) (by decide +kernel) rfl (by decide) ?_
  refine x_ifz (k := 0) (tg := 50) (np := 36) (by decide +kernel) (by decide) (by decide) (fun q20 => ?_) (fun q21 => ?_)
  · have q20 : 2147483649 = 2147483648 := q20
    exfalso; omega
  have q21 : ¬ (2147483649 = 2147483648) := q21
  refine x_aload (np := 37) (x := 0) (by decide +kernel) rfl (x_nc_le (tn_7 ta0)) ?_
  have q22 : h (ra0 + 7) 1 = (ra0 + 8) := tf_7_1 hJ ta0
  refine x_getR (np := 40) (x := 385) (f := 1) (q := (ra0 + 8)) (by decide +kernel) (by decide) (tg_7_385_1_1 ta0) q22 ?_
  refine x_iload (np := 41) (x := 1) (by decide +kernel) rfl la1 ?_
  refine x_aload (np := 42) (x := 0) (by decide +kernel) rfl (x_nc_le (tn_7 ta0)) ?_
  refine x_getC (np := 45) (x := 384) (f := 0) (q := 2147483652) (by decide +kernel) (by decide) (tg_7_384_0_0 ta0) q14 (fun l23 => ?_)
  obtain ⟨u24, q25⟩ : ∃ z, a1 = 2147483648 + z := ⟨a1 - 2147483648, by omega⟩
  refine x_imul (np := 46) (x := 0) (i := u24) (j := 4) (v := (2147483648 + 4 * u24)) (by decide +kernel) (by omega) (by omega) (by omega) (by omega) la1 (by decide) ?_
  refine x_iload (np := 47) (x := 2) (by decide +kernel) rfl la2 ?_
  refine x_iadd (np := 48) (x := 0) (v := (4 * u24 + a2)) (by decide +kernel) (by omega) la2 (by omega) (by omega) ?_
  refine x_iload (np := 49) (x := 3) (by decide +kernel) rfl la3 ?_
  obtain ⟨u27, q28⟩ : ∃ z, a2 = 2147483648 + z := ⟨a2 - 2147483648, by omega⟩
  refine x_ast (np := 50) (x := 0) (kd := 1) (n := 40) (i := (4 * u24 + u27)) (by decide +kernel) (Or.inl rfl) (ta_8_40 ta0) (by omega) (by omega) (by decide) la3 (fun z => absurd z (by decide)) ?_
  have j30 := jUw (e := (4 * u24 + u27)) (v := a3) hJ (rw_T8 ta0) (by omega) (by omega)
  have f32 := jFw (e := (4 * u24 + u27)) (v := a3) hF (rw_T8 ta0) (by omega) (by decide)
  generalize e31 : x_up h (ra0 + 8) (4 * u24 + u27) a3 = h29 at j30 f32 ⊢
  refine x_retV (np := 51) (x := 0) (by decide +kernel) (by decide +kernel) ⟨rfl, ?_⟩
  exact ⟨j30, f32⟩
set_option maxHeartbeats 0 in
/-- LentNames$Table.addRow()I -/
theorem c67_T7 {sc : Nat × Nat} {d ra0 : Nat} {h : xh} (hJ : J h) (ta0 : tw ra0) : X sc 67 (d + 1) (xI fun r h' => J h' ∧ Fr 129 h h' ∧ (2147483647 ≤ r ∧ r ≤ 2147483657)) 0 0 0 [x_r (ra0 + 7), 147573952589676412928] [] h := by
  have hF := Fr.refl 129 h
  refine x_aload (np := 1) (x := 0) (by decide +kernel) rfl (x_nc_le (tn_7 ta0)) ?_
  refine x_nI (t := 6) (mj := 66) (n := 1) (rc := 7) (ml := 1) (nr := 0) (np := 4) (as := [x_r (ra0 + 7)]) (rest := []) (lo1 := [x_r (ra0 + 7)]) (by decide +kernel) (by decide) (by decide +kernel) (x_rb_of (tr_7_7 ta0)) rfl rfl (x_wr (tn_7 ta0) x_wn) x_wn (by decide) rfl ?_
  refine x_aload (np := 1) (x := 0) (by decide +kernel) rfl (x_nc_le (tn_7 ta0)) ?_
  have b1 := jB (e := 2) 0 hJ (rg_T7_2_0_1 ta0) (by omega) (by omega)
  refine x_getC (np := 4) (x := 386) (f := 2) (q := (h (ra0 + 7) 2)) (by decide +kernel) (by decide) (tg_7_386_2_0 ta0) rfl (fun l2 => ?_)
  refine x_const (np := 5) (x := 9223372043297226753) (a := 2147483649) (by decide +kernel) (by decide) (by decide) ?_
  refine x_iadd (np := 6) (x := 0) (v := (1 + (h (ra0 + 7) 2))) (by decide +kernel) l2 (by decide) (by omega) (by omega) ?_
  refine x_aload (np := 7) (x := 0) (by decide +kernel) rfl (x_nc_le (tn_7 ta0)) ?_
  have b3 := jB (e := 0) 0 hJ (rg_T7_0_0_1 ta0) (by omega) (by omega)
  have q4 : (h (ra0 + 7) 0) = 2147483652 := by omega
  refine x_getC (np := 10) (x := 384) (f := 0) (q := 2147483652) (by decide +kernel) (by decide) (tg_7_384_0_0 ta0) q4 (fun l5 => ?_)
  obtain ⟨u6, q7⟩ : ∃ z, (h (ra0 + 7) 2) = 2147483648 + z := ⟨(h (ra0 + 7) 2) - 2147483648, by omega⟩
  refine x_imul (np := 11) (x := 0) (i := (1 + u6)) (j := 4) (v := (2147483652 + 4 * u6)) (by decide +kernel) (by omega) (by omega) (by omega) (by omega) (by omega) (by decide) ?_
  refine x_aload (np := 12) (x := 0) (by decide +kernel) rfl (x_nc_le (tn_7 ta0)) ?_
  have q9 : h (ra0 + 7) 1 = (ra0 + 8) := tf_7_1 hJ ta0
  refine x_getR (np := 15) (x := 385) (f := 1) (q := (ra0 + 8)) (by decide +kernel) (by decide) (tg_7_385_1_1 ta0) q9 ?_
  refine x_alen (np := 16) (x := 0) (n := 40) (by decide +kernel) (tn_8 ta0) (tl_8 ta0).1 (tl_8 ta0).2 (by decide) ?_
  show X _ _ _ _ _ _ _ _ [iv_c 2147483688, iv_c (2147483652 + 4 * u6)] _
  refine x_icmp (k := 5) (tg := 23) (np := 19) (by decide +kernel) (by decide) (by omega) (by decide) (fun q10 => ?_) (fun q11 => ?_)
  · have q10 : (2147483652 + 4 * u6) ≤ 2147483688 := q10
    refine x_const (np := 24) (x := 9223372039002259456) (a := 2147483648) (by decide +kernel) (by decide) (by decide) ?_
    refine x_retI (np := 25) (x := 0) (by decide +kernel) (by decide) (Or.inr ⟨by decide +kernel, by omega, by omega⟩) ⟨_, rfl, (by decide), ?_⟩
    refine x_ifz (k := 0) (tg := 9) (np := 7) (by decide +kernel) (by decide) (by decide) (fun q12 => ?_) (fun q13 => ?_)
    · have q12 : 2147483648 = 2147483648 := q12
      refine x_aload (np := 10) (x := 0) (by decide +kernel) rfl (x_nc_le (tn_7 ta0)) ?_
      refine x_dup (np := 11) (x := 0) (by decide +kernel) (by have z := x_nc_le (k := (ra0 + 7)) (tn_7 ta0); unfold x_r; omega) ?_
      refine x_getC (np := 14) (x := 386) (f := 2) (q := (h (ra0 + 7) 2)) (by decide +kernel) (by decide) (tg_7_386_2_0 ta0) rfl (fun l14 => ?_)
      refine x_const (np := 15) (x := 9223372043297226753) (a := 2147483649) (by decide +kernel) (by decide) (by decide) ?_
      refine x_iadd (np := 16) (x := 0) (v := (1 + (h (ra0 + 7) 2))) (by decide +kernel) l2 (by decide) (by omega) (by omega) ?_
      refine x_putI (np := 19) (x := 386) (f := 2) (by decide +kernel) (tg_7_386_2_0 ta0) (by omega) (Or.inl (by decide)) ?_
      have j16 := jU (e := 2) (v := (1 + (h (ra0 + 7) 2))) 0 hJ (rg_T7_2_0_1 ta0) (by omega) (by omega) (by omega)
      have f18 := jF (e := 2) (v := (1 + (h (ra0 + 7) 2))) 0 hF (rg_T7_2_0_1 ta0) (by omega) (by omega) (by decide)
      generalize e17 : x_up h (ra0 + 7) 2 (1 + (h (ra0 + 7) 2)) = h15 at j16 f18 ⊢
      refine x_const (np := 20) (x := 9223372039002259456) (a := 2147483648) (by decide +kernel) (by decide) (by decide) ?_
      refine x_istore (np := 21) (x := 1) (lo' := [x_r (ra0 + 7), iv_c 2147483648]) (by decide +kernel) (by decide) (Nat.le_of_ble_eq_true rfl) rfl ?_
      have p114 : ∀ (n : Nat) (v109 : Nat) (h111 : xh), 4294967296 - v109 < n → (2147483648 ≤ v109 ∧ v109 ≤ 2147483652) → J h111 → Fr 129 h15 h111 → X sc 67 (d + 1) (xI fun r h' => J h' ∧ Fr 129 h h' ∧ (2147483647 ≤ r ∧ r ≤ 2147483657)) 0 0 21 [x_r (ra0 + 7), iv_c v109] [] h111 := by
        intro n
        induction n with
        | zero => intro v109 h111 q115; exact absurd q115 (Nat.not_lt_zero _)
        | succ n i116 =>
          intro v109 h111 q115 b110 j113 f112
          have f117 := Fr.trans f18 f112 (by decide)
          refine x_iload (np := 22) (x := 1) (by decide +kernel) rfl (by omega) ?_
          refine x_aload (np := 23) (x := 0) (by decide +kernel) rfl (x_nc_le (tn_7 ta0)) ?_
          have b118 := jB (e := 0) 0 j113 (rg_T7_0_0_1 ta0) (by omega) (by omega)
          have q119 : (h111 (ra0 + 7) 0) = 2147483652 := by omega
          refine x_getC (np := 26) (x := 384) (f := 0) (q := 2147483652) (by decide +kernel) (by decide) (tg_7_384_0_0 ta0) q119 (fun l120 => ?_)
          refine x_icmp (k := 3) (tg := 47) (np := 29) (by decide +kernel) (by decide) (by omega) (by decide) (fun q121 => ?_) (fun q122 => ?_)
          · have q121 : 2147483652 ≤ v109 := q121
            refine x_aload (np := 48) (x := 0) (by decide +kernel) rfl (x_nc_le (tn_7 ta0)) ?_
            have b123 := jB (e := 2) 0 j113 (rg_T7_2_0_1 ta0) (by omega) (by omega)
            refine x_getC (np := 51) (x := 386) (f := 2) (q := (h111 (ra0 + 7) 2)) (by decide +kernel) (by decide) (tg_7_386_2_0 ta0) rfl (fun l124 => ?_)
            refine x_const (np := 52) (x := 9223372043297226753) (a := 2147483649) (by decide +kernel) (by decide) (by decide) ?_
            obtain ⟨v125, q126⟩ : ∃ z, z + 2147483649 = (h111 (ra0 + 7) 2) + 2147483648 := ⟨(h111 (ra0 + 7) 2) + 2147483648 - 2147483649, by omega⟩
            refine x_isub (np := 53) (x := 0) (v := v125) (by decide +kernel) l124 (by decide) (by omega) (by omega) ?_
            refine x_retI (np := 54) (x := 0) (by decide +kernel) (by omega) (Or.inl (by decide +kernel)) ⟨_, rfl, (by omega), ?_⟩
            exact ⟨j113, f117, (by omega)⟩
          have q122 : ¬ (2147483652 ≤ v109) := q122
          refine x_aload (np := 30) (x := 0) (by decide +kernel) rfl (x_nc_le (tn_7 ta0)) ?_
          refine x_aload (np := 31) (x := 0) (by decide +kernel) rfl (x_nc_le (tn_7 ta0)) ?_
          have b127 := jB (e := 2) 0 j113 (rg_T7_2_0_1 ta0) (by omega) (by omega)
          refine x_getC (np := 34) (x := 386) (f := 2) (q := (h111 (ra0 + 7) 2)) (by decide +kernel) (by decide) (tg_7_386_2_0 ta0) rfl (fun l128 => ?_)
          refine x_const (np := 35) (x := 9223372043297226753) (a := 2147483649) (by decide +kernel) (by decide) (by decide) ?_
          obtain ⟨v129, q130⟩ : ∃ z, z + 2147483649 = (h111 (ra0 + 7) 2) + 2147483648 := ⟨(h111 (ra0 + 7) 2) + 2147483648 - 2147483649, by omega⟩
          refine x_isub (np := 36) (x := 0) (v := v129) (by decide +kernel) l128 (by decide) (by omega) (by omega) ?_
          refine x_iload (np := 37) (x := 1) (by decide +kernel) rfl (by omega) ?_
          refine x_const (np := 38) (x := 9223372039002259456) (a := 2147483648) (by decide +kernel) (by decide) (by decide) ?_
          refine x_cV (t := 6) (mj := 69) (n := 4) (rc := 7) (ml := 5) (nr := 0) (np := 41) (as := [x_r (ra0 + 7), iv_c v129, iv_c v109, iv_c 2147483648]) (rest := []) (lo1 := [x_r (ra0 + 7), iv_c v129, iv_c v109, iv_c 2147483648, 147573952589676412928]) (by decide +kernel) (by decide) (by decide +kernel) (x_rb_of (tr_7_7 ta0)) rfl rfl (x_wr (tn_7 ta0) (x_wi (by omega) (x_wi (by omega) (x_wi (by decide) x_wn)))) x_wn (by decide) rfl (c69_T7 j113 ta0 (by omega) (by omega) (by omega)) (fun h134 q133 => ?_)
          obtain ⟨j135, f136⟩ := q133
          have f139 := Fr.trans f117 f136 (by decide)
          have f140 := Fr.trans f112 f136 (by decide)
          refine x_iinc (np := 44) (i := 1) (j := 2147483649) (v := (1 + v109)) (lo' := [x_r (ra0 + 7), iv_c (1 + v109)]) (by decide +kernel) (by decide) (by decide) rfl (by omega) (by omega) (by omega) rfl ?_
          refine x_goto (np := 47) (x := 21) (by decide +kernel) ?_
          exact i116 (1 + v109) h134 (by omega) (by omega) j135 f140
      exact p114 _ 2147483648 h15 (Nat.lt_succ_self _) (by omega) j16 (Fr.refl _ _)
    have q13 : ¬ (2147483648 = 2147483648) := q13
    exfalso; omega
  have q11 : ¬ ((2147483652 + 4 * u6) ≤ 2147483688) := q11
  refine x_const (np := 20) (x := 9223372043297226753) (a := 2147483649) (by decide +kernel) (by decide) (by decide) ?_
  refine x_goto (np := 23) (x := 24) (by decide +kernel) ?_
  refine x_retI (np := 25) (x := 0) (by decide +kernel) (by decide) (Or.inr ⟨by decide +kernel, by omega, by omega⟩) ⟨_, rfl, (by decide), ?_⟩
  refine x_ifz (k := 0) (tg := 9) (np := 7) (by decide +kernel) (by decide) (by decide) (fun q141 => ?_) (fun q142 => ?_)
  · have q141 : 2147483649 = 2147483648 := q141
    exfalso; omega
  have q142 : ¬ (2147483649 = 2147483648) := q142
  refine x_const (np := 8) (x := 9223372034707292159) (a := 2147483647) (by decide +kernel) (by decide) (by decide) ?_
  refine x_retI (np := 9) (x := 0) (by decide +kernel) (by decide) (Or.inl (by decide +kernel)) ⟨_, rfl, (by decide), ?_⟩
  exact ⟨hJ, hF, (by omega)⟩
set_option maxHeartbeats 0 in
/-- LentNames$Table.put(III)V -/
theorem c69_T7_c0 {sc : Nat × Nat} {d ra0 a1 a3 : Nat} {h : xh} (hJ : J h) (ta0 : tw ra0) (ba1 : 2147483647 ≤ a1 ∧ a1 ≤ 2147483657) (ba3 : 2147483648 ≤ a3 ∧ a3 ≤ 2147483653) : X sc 69 d (xV fun h' => J h' ∧ Fr 129 h h') 0 0 0 [x_r (ra0 + 7), iv_c a1, iv_c 2147483648, iv_c a3, 147573952589676412928] [] h := by
  have la1 : a1 < 4294967296 := by omega
  have la3 : a3 < 4294967296 := by omega
  have hF := Fr.refl 129 h
  refine x_iload (np := 1) (x := 1) (by decide +kernel) rfl la1 ?_
  refine x_ifz (k := 2) (tg := 28) (np := 4) (by decide +kernel) (by decide) la1 (fun q1 => ?_) (fun q2 => ?_)
  · have q1 : a1 < 2147483648 := q1
    refine x_const (np := 29) (x := 9223372039002259456) (a := 2147483648) (by decide +kernel) (by decide) (by decide) ?_
    refine x_istore (np := 31) (x := 4) (lo' := [x_r (ra0 + 7), iv_c a1, iv_c 2147483648, iv_c a3, iv_c 2147483648]) (by decide +kernel) (by decide) (Nat.le_of_ble_eq_true rfl) rfl ?_
    refine x_iload (np := 33) (x := 4) (by decide +kernel) rfl (by decide) ?_
    refine x_ifz (k := 0) (tg := 50) (np := 36) (by decide +kernel) (by decide) (by decide) (fun q3 => ?_) (fun q4 => ?_)
    · have q3 : 2147483648 = 2147483648 := q3
      refine x_retV (np := 51) (x := 0) (by decide +kernel) (by decide +kernel) ⟨rfl, ?_⟩
      exact ⟨hJ, hF⟩
    have q4 : ¬ (2147483648 = 2147483648) := q4
    exfalso; omega
  have q2 : ¬ (a1 < 2147483648) := q2
  refine x_iload (np := 5) (x := 1) (by decide +kernel) rfl la1 ?_
  refine x_aload (np := 6) (x := 0) (by decide +kernel) rfl (x_nc_le (tn_7 ta0)) ?_
  have b5 := jB (e := 2) 0 hJ (rg_T7_2_0_1 ta0) (by omega) (by omega)
  refine x_getC (np := 9) (x := 386) (f := 2) (q := (h (ra0 + 7) 2)) (by decide +kernel) (by decide) (tg_7_386_2_0 ta0) rfl (fun l6 => ?_)
  refine x_icmp (k := 3) (tg := 28) (np := 12) (by decide +kernel) (by decide) la1 l6 (fun q7 => ?_) (fun q8 => ?_)
  · have q7 : (h (ra0 + 7) 2) ≤ a1 := q7
    refine x_const (np := 29) (x := 9223372039002259456) (a := 2147483648) (by decide +kernel) (by decide) (by decide) ?_
    refine x_istore (np := 31) (x := 4) (lo' := [x_r (ra0 + 7), iv_c a1, iv_c 2147483648, iv_c a3, iv_c 2147483648]) (by decide +kernel) (by decide) (Nat.le_of_ble_eq_true rfl) rfl ?_
    refine x_iload (np := 33) (x := 4) (by decide +kernel) rfl (by decide) ?_
    refine x_ifz (k := 0) (tg := 50) (np := 36) (by decide +kernel) (by decide) (by decide) (fun q9 => ?_) (fun q10 => ?_)
    · have q9 : 2147483648 = 2147483648 := q9
      refine x_retV (np := 51) (x := 0) (by decide +kernel) (by decide +kernel) ⟨rfl, ?_⟩
      exact ⟨hJ, hF⟩
    have q10 : ¬ (2147483648 = 2147483648) := q10
    exfalso; omega
  have q8 : ¬ ((h (ra0 + 7) 2) ≤ a1) := q8
  refine x_iload (np := 13) (x := 2) (by decide +kernel) rfl (by decide) ?_
  refine x_ifz (k := 2) (tg := 28) (np := 16) (by decide +kernel) (by decide) (by decide) (fun q11 => ?_) (fun q12 => ?_)
  · have q11 : 2147483648 < 2147483648 := q11
    exfalso; omega
  have q12 : ¬ (2147483648 < 2147483648) := q12
  refine x_iload (np := 17) (x := 2) (by decide +kernel) rfl (by decide) ?_
  refine x_aload (np := 18) (x := 0) (by decide +kernel) rfl (x_nc_le (tn_7 ta0)) ?_
  have b13 := jB (e := 0) 0 hJ (rg_T7_0_0_1 ta0) (by omega) (by omega)
  have q14 : (h (ra0 + 7) 0) = 2147483652 := by omega
  refine x_getC (np := 21) (x := 384) (f := 0) (q := 2147483652) (by decide +kernel) (by decide) (tg_7_384_0_0 ta0) q14 (fun l15 => ?_)
  refine x_icmp (k := 3) (tg := 28) (np := 24) (by decide +kernel) (by decide) (by decide) (by decide) (fun q16 => ?_) (fun q17 => ?_)
  · have q16 : 2147483652 ≤ 2147483648 := q16
    exfalso; omega
  have q17 : ¬ (2147483652 ≤ 2147483648) := q17
  refine x_const (np := 25) (x := 9223372043297226753) (a := 2147483649) (by decide +kernel) (by decide) (by decide) ?_
  refine x_goto (np := 28) (x := 29) (by decide +kernel) ?_
  refine x_istore (np := 31) (x := 4) (lo' := [x_r (ra0 + 7), iv_c a1, iv_c 2147483648, iv_c a3, iv_c 2147483649]) (by decide +kernel) (by decide) (Nat.le_of_ble_eq_true rfl) rfl ?_
  refine x_iload (np := 33) (x := 4) (by decide +kernel) rfl (by decide) ?_
  refine x_ifz (k := 0) (tg := 50) (np := 36) (by decide +kernel) (by decide) (by decide) (fun q18 => ?_) (fun q19 => ?_)
  · have q18 : 2147483649 = 2147483648 := q18
    exfalso; omega
  have q19 : ¬ (2147483649 = 2147483648) := q19
  refine x_aload (np := 37) (x := 0) (by decide +kernel) rfl (x_nc_le (tn_7 ta0)) ?_
  have q20 : h (ra0 + 7) 1 = (ra0 + 8) := tf_7_1 hJ ta0
  refine x_getR (np := 40) (x := 385) (f := 1) (q := (ra0 + 8)) (by decide +kernel) (by decide) (tg_7_385_1_1 ta0) q20 ?_
  refine x_iload (np := 41) (x := 1) (by decide +kernel) rfl la1 ?_
  refine x_aload (np := 42) (x := 0) (by decide +kernel) rfl (x_nc_le (tn_7 ta0)) ?_
  refine x_getC (np := 45) (x := 384) (f := 0) (q := 2147483652) (by decide +kernel) (by decide) (tg_7_384_0_0 ta0) q14 (fun l21 => ?_)
  obtain ⟨u22, q23⟩ : ∃ z, a1 = 2147483648 + z := ⟨a1 - 2147483648, by omega⟩
  refine x_imul (np := 46) (x := 0) (i := u22) (j := 4) (v := (2147483648 + 4 * u22)) (by decide +kernel) (by omega) (by omega) (by omega) (by omega) la1 (by decide) ?_
  refine x_iload (np := 47) (x := 2) (by decide +kernel) rfl (by decide) ?_
  refine x_iadd (np := 48) (x := 0) (v := (2147483648 + 4 * u22)) (by decide +kernel) (by omega) (by decide) (by omega) (by omega) ?_
  refine x_iload (np := 49) (x := 3) (by decide +kernel) rfl la3 ?_
  refine x_ast (np := 50) (x := 0) (kd := 1) (n := 40) (i := (4 * u22)) (by decide +kernel) (Or.inl rfl) (ta_8_40 ta0) (by omega) (by omega) (by decide) la3 (fun z => absurd z (by decide)) ?_
  have j26 := jU (e := (4 * u22)) (v := a3) u22 hJ (rg_T8_0_4_10 ta0) (by omega) (by omega) (by omega)
  have f28 := jF (e := (4 * u22)) (v := a3) u22 hF (rg_T8_0_4_10 ta0) (by omega) (by omega) (by decide)
  generalize e27 : x_up h (ra0 + 8) (4 * u22) a3 = h25 at j26 f28 ⊢
  refine x_retV (np := 51) (x := 0) (by decide +kernel) (by decide +kernel) ⟨rfl, ?_⟩
  exact ⟨j26, f28⟩
set_option maxHeartbeats 0 in
/-- LentNames$TownReader.readInto(LLentNames$Table;IIII)Z -/
theorem c102_61_T7_c0_c0 {sc : Nat × Nat} {d ra1 a2 a5 : Nat} {h : xh} (hJ : J h) (ta1 : tw ra1) (ba2 : 2147483647 ≤ a2 ∧ a2 ≤ 2147483657) (ba5 : 2147483649 ≤ a5 ∧ a5 ≤ 2147483653) : X sc 102 (d + 2) (xI fun r h' => J h' ∧ Fr 161 h h' ∧ (2147483648 ≤ r ∧ r ≤ 2147483649)) 0 0 0 [x_r 61, x_r (ra1 + 7), iv_c a2, iv_c 2147483648, iv_c 2147483648, iv_c a5, 147573952589676412928] [] h := by
  have la2 : a2 < 4294967296 := by omega
  have la5 : a5 < 4294967296 := by omega
  have hF := Fr.refl 161 h
  refine x_aload (np := 1) (x := 0) (by decide +kernel) rfl (x_nc_le (by decide)) ?_
  have q1 : h 61 0 = 1 := by have z := jB (e := 0) 0 hJ rg_61_0_0_1 (by decide) (by decide); omega
  refine x_getR (np := 4) (x := 576) (f := 0) (q := 1) (by decide +kernel) (by decide) (by decide +kernel) q1 ?_
  refine x_iload (np := 6) (x := 4) (by decide +kernel) rfl (by decide) ?_
  refine x_iload (np := 8) (x := 5) (by decide +kernel) rfl la5 ?_
  refine x_cI (t := 6) (mj := 79) (n := 3) (rc := 8) (ml := 5) (nr := 0) (np := 11) (as := [x_r 1, iv_c 2147483648, iv_c a5]) (rest := []) (lo1 := [x_r 1, iv_c 2147483648, iv_c a5, 147573952589676412928, 147573952589676412928]) (by decide +kernel) (by decide) (by decide +kernel) (x_rb_of (by decide +kernel)) rfl rfl (x_wr (by decide) (x_wi (by decide) (x_wi la5 x_wn))) x_wn (by decide) rfl (c79_1_c0 hJ   (by omega)) (fun v2 h5 l3 q4 => ?_)
  obtain ⟨j6, f7, b8, c9⟩ := q4
  have f10 := Fr.trans hF f7 (by decide)
  refine x_istore (np := 13) (x := 6) (lo' := [x_r 61, x_r (ra1 + 7), iv_c a2, iv_c 2147483648, iv_c 2147483648, iv_c a5, iv_c v2]) (by decide +kernel) l3 (Nat.le_of_ble_eq_true rfl) rfl ?_
  refine x_iload (np := 15) (x := 6) (by decide +kernel) rfl l3 ?_
  refine x_const (np := 16) (x := 9223372034707292159) (a := 2147483647) (by decide +kernel) (by decide) (by decide) ?_
  refine x_icmp (k := 1) (tg := 21) (np := 19) (by decide +kernel) (by decide) l3 (by decide) (fun q11 => ?_) (fun q12 => ?_)
  · have q11 : v2 ≠ 2147483647 := q11
    refine x_aload (np := 22) (x := 1) (by decide +kernel) rfl (x_nc_le (tn_7 ta1)) ?_
    refine x_iload (np := 23) (x := 2) (by decide +kernel) rfl la2 ?_
    refine x_iload (np := 24) (x := 3) (by decide +kernel) rfl (by decide) ?_
    refine x_iload (np := 26) (x := 6) (by decide +kernel) rfl l3 ?_
    refine x_cV (t := 6) (mj := 69) (n := 4) (rc := 7) (ml := 5) (nr := 0) (np := 29) (as := [x_r (ra1 + 7), iv_c a2, iv_c 2147483648, iv_c v2]) (rest := []) (lo1 := [x_r (ra1 + 7), iv_c a2, iv_c 2147483648, iv_c v2, 147573952589676412928]) (by decide +kernel) (by decide) (by decide +kernel) (x_rb_of (tr_7_7 ta1)) rfl rfl (x_wr (tn_7 ta1) (x_wi la2 (x_wi (by decide) (x_wi l3 x_wn)))) x_wn (by decide) rfl (c69_T7_c0 j6 ta1 (by omega)  (by omega)) (fun h16 q15 => ?_)
    obtain ⟨j17, f18⟩ := q15
    have f21 := Fr.trans f10 f18 (by decide)
    refine x_const (np := 30) (x := 9223372043297226753) (a := 2147483649) (by decide +kernel) (by decide) (by decide) ?_
    refine x_retI (np := 31) (x := 0) (by decide +kernel) (by decide) (Or.inr ⟨by decide +kernel, by omega, by omega⟩) ⟨_, rfl, (by decide), ?_⟩
    exact ⟨j17, f21, (by omega)⟩
  have q12 : ¬ (v2 ≠ 2147483647) := q12
  refine x_const (np := 20) (x := 9223372039002259456) (a := 2147483648) (by decide +kernel) (by decide) (by decide) ?_
  refine x_retI (np := 21) (x := 0) (by decide +kernel) (by decide) (Or.inr ⟨by decide +kernel, by omega, by omega⟩) ⟨_, rfl, (by decide), ?_⟩
  exact ⟨j6, f10, (by omega)⟩
set_option maxHeartbeats 0 in
/-- LentNames$Table.put(III)V -/
theorem c69_T7_c1 {sc : Nat × Nat} {d ra0 a1 a3 : Nat} {h : xh} (hJ : J h) (ta0 : tw ra0) (ba1 : 2147483647 ≤ a1 ∧ a1 ≤ 2147483657) (ba3 : 2147483648 ≤ a3 ∧ a3 ≤ 2147483659) : X sc 69 d (xV fun h' => J h' ∧ Fr 129 h h') 0 0 0 [x_r (ra0 + 7), iv_c a1, iv_c 2147483649, iv_c a3, 147573952589676412928] [] h := by
  have la1 : a1 < 4294967296 := by omega
  have la3 : a3 < 4294967296 := by omega
  have hF := Fr.refl 129 h
  refine x_iload (np := 1) (x := 1) (by decide +kernel) rfl la1 ?_
  refine x_ifz (k := 2) (tg := 28) (np := 4) (by decide +kernel) (by decide) la1 (fun q1 => ?_) (fun q2 => ?_)
  · have q1 : a1 < 2147483648 := q1
    refine x_const (np := 29) (x := 9223372039002259456) (a := 2147483648) (by decide +kernel) (by decide) (by decide) ?_
    refine x_istore (np := 31) (x := 4) (lo' := [x_r (ra0 + 7), iv_c a1, iv_c 2147483649, iv_c a3, iv_c 2147483648]) (by decide +kernel) (by decide) (Nat.le_of_ble_eq_true rfl) rfl ?_
    refine x_iload (np := 33) (x := 4) (by decide +kernel) rfl (by decide) ?_
    refine x_ifz (k := 0) (tg := 50) (np := 36) (by decide +kernel) (by decide) (by decide) (fun q3 => ?_) (fun q4 => ?_)
    · have q3 : 2147483648 = 2147483648 := q3
      refine x_retV (np := 51) (x := 0) (by decide +kernel) (by decide +kernel) ⟨rfl, ?_⟩
      exact ⟨hJ, hF⟩
    have q4 : ¬ (2147483648 = 2147483648) := q4
    exfalso; omega
  have q2 : ¬ (a1 < 2147483648) := q2
  refine x_iload (np := 5) (x := 1) (by decide +kernel) rfl la1 ?_
  refine x_aload (np := 6) (x := 0) (by decide +kernel) rfl (x_nc_le (tn_7 ta0)) ?_
  have b5 := jB (e := 2) 0 hJ (rg_T7_2_0_1 ta0) (by omega) (by omega)
  refine x_getC (np := 9) (x := 386) (f := 2) (q := (h (ra0 + 7) 2)) (by decide +kernel) (by decide) (tg_7_386_2_0 ta0) rfl (fun l6 => ?_)
  refine x_icmp (k := 3) (tg := 28) (np := 12) (by decide +kernel) (by decide) la1 l6 (fun q7 => ?_) (fun q8 => ?_)
  · have q7 : (h (ra0 + 7) 2) ≤ a1 := q7
    refine x_const (np := 29) (x := 9223372039002259456) (a := 2147483648) (by decide +kernel) (by decide) (by decide) ?_
    refine x_istore (np := 31) (x := 4) (lo' := [x_r (ra0 + 7), iv_c a1, iv_c 2147483649, iv_c a3, iv_c 2147483648]) (by decide +kernel) (by decide) (Nat.le_of_ble_eq_true rfl) rfl ?_
    refine x_iload (np := 33) (x := 4) (by decide +kernel) rfl (by decide) ?_
    refine x_ifz (k := 0) (tg := 50) (np := 36) (by decide +kernel) (by decide) (by decide) (fun q9 => ?_) (fun q10 => ?_)
    · have q9 : 2147483648 = 2147483648 := q9
      refine x_retV (np := 51) (x := 0) (by decide +kernel) (by decide +kernel) ⟨rfl, ?_⟩
      exact ⟨hJ, hF⟩
    have q10 : ¬ (2147483648 = 2147483648) := q10
    exfalso; omega
  have q8 : ¬ ((h (ra0 + 7) 2) ≤ a1) := q8
  refine x_iload (np := 13) (x := 2) (by decide +kernel) rfl (by decide) ?_
  refine x_ifz (k := 2) (tg := 28) (np := 16) (by decide +kernel) (by decide) (by decide) (fun q11 => ?_) (fun q12 => ?_)
  · have q11 : 2147483649 < 2147483648 := q11
    exfalso; omega
  have q12 : ¬ (2147483649 < 2147483648) := q12
  refine x_iload (np := 17) (x := 2) (by decide +kernel) rfl (by decide) ?_
  refine x_aload (np := 18) (x := 0) (by decide +kernel) rfl (x_nc_le (tn_7 ta0)) ?_
  have b13 := jB (e := 0) 0 hJ (rg_T7_0_0_1 ta0) (by omega) (by omega)
  have q14 : (h (ra0 + 7) 0) = 2147483652 := by omega
  refine x_getC (np := 21) (x := 384) (f := 0) (q := 2147483652) (by decide +kernel) (by decide) (tg_7_384_0_0 ta0) q14 (fun l15 => ?_)
  refine x_icmp (k := 3) (tg := 28) (np := 24) (by decide +kernel) (by decide) (by decide) (by decide) (fun q16 => ?_) (fun q17 => ?_)
  · have q16 : 2147483652 ≤ 2147483649 := q16
    exfalso; omega
  have q17 : ¬ (2147483652 ≤ 2147483649) := q17
  refine x_const (np := 25) (x := 9223372043297226753) (a := 2147483649) (by decide +kernel) (by decide) (by decide) ?_
  refine x_goto (np := 28) (x := 29) (by decide +kernel) ?_
  refine x_istore (np := 31) (x := 4) (lo' := [x_r (ra0 + 7), iv_c a1, iv_c 2147483649, iv_c a3, iv_c 2147483649]) (by decide +kernel) (by decide) (Nat.le_of_ble_eq_true rfl) rfl ?_
  refine x_iload (np := 33) (x := 4) (by decide +kernel) rfl (by decide) ?_
  refine x_ifz (k := 0) (tg := 50) (np := 36) (by decide +kernel) (by decide) (by decide) (fun q18 => ?_) (fun q19 => ?_)
  · have q18 : 2147483649 = 2147483648 := q18
    exfalso; omega
  have q19 : ¬ (2147483649 = 2147483648) := q19
  refine x_aload (np := 37) (x := 0) (by decide +kernel) rfl (x_nc_le (tn_7 ta0)) ?_
  have q20 : h (ra0 + 7) 1 = (ra0 + 8) := tf_7_1 hJ ta0
  refine x_getR (np := 40) (x := 385) (f := 1) (q := (ra0 + 8)) (by decide +kernel) (by decide) (tg_7_385_1_1 ta0) q20 ?_
  refine x_iload (np := 41) (x := 1) (by decide +kernel) rfl la1 ?_
  refine x_aload (np := 42) (x := 0) (by decide +kernel) rfl (x_nc_le (tn_7 ta0)) ?_
  refine x_getC (np := 45) (x := 384) (f := 0) (q := 2147483652) (by decide +kernel) (by decide) (tg_7_384_0_0 ta0) q14 (fun l21 => ?_)
  obtain ⟨u22, q23⟩ : ∃ z, a1 = 2147483648 + z := ⟨a1 - 2147483648, by omega⟩
  refine x_imul (np := 46) (x := 0) (i := u22) (j := 4) (v := (2147483648 + 4 * u22)) (by decide +kernel) (by omega) (by omega) (by omega) (by omega) la1 (by decide) ?_
  refine x_iload (np := 47) (x := 2) (by decide +kernel) rfl (by decide) ?_
  refine x_iadd (np := 48) (x := 0) (v := (2147483649 + 4 * u22)) (by decide +kernel) (by omega) (by decide) (by omega) (by omega) ?_
  refine x_iload (np := 49) (x := 3) (by decide +kernel) rfl la3 ?_
  refine x_ast (np := 50) (x := 0) (kd := 1) (n := 40) (i := (1 + 4 * u22)) (by decide +kernel) (Or.inl rfl) (ta_8_40 ta0) (by omega) (by omega) (by decide) la3 (fun z => absurd z (by decide)) ?_
  have j26 := jU (e := (1 + 4 * u22)) (v := a3) u22 hJ (rg_T8_1_4_10 ta0) (by omega) (by omega) (by omega)
  have f28 := jF (e := (1 + 4 * u22)) (v := a3) u22 hF (rg_T8_1_4_10 ta0) (by omega) (by omega) (by decide)
  generalize e27 : x_up h (ra0 + 8) (1 + 4 * u22) a3 = h25 at j26 f28 ⊢
  refine x_retV (np := 51) (x := 0) (by decide +kernel) (by decide +kernel) ⟨rfl, ?_⟩
  exact ⟨j26, f28⟩
set_option maxHeartbeats 0 in
/-- LentNames$TownReader.readInto(LLentNames$Table;IIII)Z -/
theorem c102_61_T7_c1_c0 {sc : Nat × Nat} {d ra1 a2 a5 : Nat} {h : xh} (hJ : J h) (ta1 : tw ra1) (ba2 : 2147483647 ≤ a2 ∧ a2 ≤ 2147483657) (ba5 : 2147483659 ≤ a5 ∧ a5 ≤ 2147483659) : X sc 102 (d + 2) (xI fun r h' => J h' ∧ Fr 161 h h' ∧ (2147483648 ≤ r ∧ r ≤ 2147483649)) 0 0 0 [x_r 61, x_r (ra1 + 7), iv_c a2, iv_c 2147483649, iv_c 2147483648, iv_c a5, 147573952589676412928] [] h := by
  have la2 : a2 < 4294967296 := by omega
  have la5 : a5 < 4294967296 := by omega
  have hF := Fr.refl 161 h
  refine x_aload (np := 1) (x := 0) (by decide +kernel) rfl (x_nc_le (by decide)) ?_
  have q1 : h 61 0 = 1 := by have z := jB (e := 0) 0 hJ rg_61_0_0_1 (by decide) (by decide); omega
  refine x_getR (np := 4) (x := 576) (f := 0) (q := 1) (by decide +kernel) (by decide) (by decide +kernel) q1 ?_
  refine x_iload (np := 6) (x := 4) (by decide +kernel) rfl (by decide) ?_
  refine x_iload (np := 8) (x := 5) (by decide +kernel) rfl la5 ?_
  refine x_cI (t := 6) (mj := 79) (n := 3) (rc := 8) (ml := 5) (nr := 0) (np := 11) (as := [x_r 1, iv_c 2147483648, iv_c a5]) (rest := []) (lo1 := [x_r 1, iv_c 2147483648, iv_c a5, 147573952589676412928, 147573952589676412928]) (by decide +kernel) (by decide) (by decide +kernel) (x_rb_of (by decide +kernel)) rfl rfl (x_wr (by decide) (x_wi (by decide) (x_wi la5 x_wn))) x_wn (by decide) rfl (c79_1_c0 hJ   (by omega)) (fun v2 h5 l3 q4 => ?_)
  obtain ⟨j6, f7, b8, c9⟩ := q4
  have f10 := Fr.trans hF f7 (by decide)
  refine x_istore (np := 13) (x := 6) (lo' := [x_r 61, x_r (ra1 + 7), iv_c a2, iv_c 2147483649, iv_c 2147483648, iv_c a5, iv_c v2]) (by decide +kernel) l3 (Nat.le_of_ble_eq_true rfl) rfl ?_
  refine x_iload (np := 15) (x := 6) (by decide +kernel) rfl l3 ?_
  refine x_const (np := 16) (x := 9223372034707292159) (a := 2147483647) (by decide +kernel) (by decide) (by decide) ?_
  refine x_icmp (k := 1) (tg := 21) (np := 19) (by decide +kernel) (by decide) l3 (by decide) (fun q11 => ?_) (fun q12 => ?_)
  · have q11 : v2 ≠ 2147483647 := q11
    refine x_aload (np := 22) (x := 1) (by decide +kernel) rfl (x_nc_le (tn_7 ta1)) ?_
    refine x_iload (np := 23) (x := 2) (by decide +kernel) rfl la2 ?_
    refine x_iload (np := 24) (x := 3) (by decide +kernel) rfl (by decide) ?_
    refine x_iload (np := 26) (x := 6) (by decide +kernel) rfl l3 ?_
    refine x_cV (t := 6) (mj := 69) (n := 4) (rc := 7) (ml := 5) (nr := 0) (np := 29) (as := [x_r (ra1 + 7), iv_c a2, iv_c 2147483649, iv_c v2]) (rest := []) (lo1 := [x_r (ra1 + 7), iv_c a2, iv_c 2147483649, iv_c v2, 147573952589676412928]) (by decide +kernel) (by decide) (by decide +kernel) (x_rb_of (tr_7_7 ta1)) rfl rfl (x_wr (tn_7 ta1) (x_wi la2 (x_wi (by decide) (x_wi l3 x_wn)))) x_wn (by decide) rfl (c69_T7_c1 j6 ta1 (by omega)  (by omega)) (fun h16 q15 => ?_)
    obtain ⟨j17, f18⟩ := q15
    have f21 := Fr.trans f10 f18 (by decide)
    refine x_const (np := 30) (x := 9223372043297226753) (a := 2147483649) (by decide +kernel) (by decide) (by decide) ?_
    refine x_retI (np := 31) (x := 0) (by decide +kernel) (by decide) (Or.inr ⟨by decide +kernel, by omega, by omega⟩) ⟨_, rfl, (by decide), ?_⟩
    exact ⟨j17, f21, (by omega)⟩
  have q12 : ¬ (v2 ≠ 2147483647) := q12
  refine x_const (np := 20) (x := 9223372039002259456) (a := 2147483648) (by decide +kernel) (by decide) (by decide) ?_
  refine x_retI (np := 21) (x := 0) (by decide +kernel) (by decide) (Or.inr ⟨by decide +kernel, by omega, by omega⟩) ⟨_, rfl, (by decide), ?_⟩
  exact ⟨j6, f10, (by omega)⟩
set_option maxHeartbeats 0 in
/-- LentNames$Table.put(III)V -/
theorem c69_T7_c2 {sc : Nat × Nat} {d ra0 a1 a3 : Nat} {h : xh} (hJ : J h) (ta0 : tw ra0) (ba1 : 2147483647 ≤ a1 ∧ a1 ≤ 2147483657) (ba3 : 0 ≤ a3 ∧ a3 ≤ 4294967295) : X sc 69 d (xV fun h' => J h' ∧ Fr 129 h h') 0 0 0 [x_r (ra0 + 7), iv_c a1, iv_c 2147483650, iv_c a3, 147573952589676412928] [] h := by
  have la1 : a1 < 4294967296 := by omega
  have la3 : a3 < 4294967296 := by omega
  have hF := Fr.refl 129 h
  refine x_iload (np := 1) (x := 1) (by decide +kernel) rfl la1 ?_
  refine x_ifz (k := 2) (tg := 28) (np := 4) (by decide +kernel) (by decide) la1 (fun q1 => ?_) (fun q2 => ?_)
  · have q1 : a1 < 2147483648 := q1
    refine x_const (np := 29) (x := 9223372039002259456) (a := 2147483648) (by decide +kernel) (by decide) (by decide) ?_
    refine x_istore (np := 31) (x := 4) (lo' := [x_r (ra0 + 7), iv_c a1, iv_c 2147483650, iv_c a3, iv_c 2147483648]) (by decide +kernel) (by decide) (Nat.le_of_ble_eq_true rfl) rfl ?_
    refine x_iload (np := 33) (x := 4) (by decide +kernel) rfl (by decide) ?_
    refine x_ifz (k := 0) (tg := 50) (np := 36) (by decide +kernel) (by decide) (by decide) (fun q3 => ?_) (fun q4 => ?_)
    · have q3 : 2147483648 = 2147483648 := q3
      refine x_retV (np := 51) (x := 0) (by decide +kernel) (by decide +kernel) ⟨rfl, ?_⟩
      exact ⟨hJ, hF⟩
    have q4 : ¬ (2147483648 = 2147483648) := q4
    exfalso; omega
  have q2 : ¬ (a1 < 2147483648) := q2
  refine x_iload (np := 5) (x := 1) (by decide +kernel) rfl la1 ?_
  refine x_aload (np := 6) (x := 0) (by decide +kernel) rfl (x_nc_le (tn_7 ta0)) ?_
  have b5 := jB (e := 2) 0 hJ (rg_T7_2_0_1 ta0) (by omega) (by omega)
  refine x_getC (np := 9) (x := 386) (f := 2) (q := (h (ra0 + 7) 2)) (by decide +kernel) (by decide) (tg_7_386_2_0 ta0) rfl (fun l6 => ?_)
  refine x_icmp (k := 3) (tg := 28) (np := 12) (by decide +kernel) (by decide) la1 l6 (fun q7 => ?_) (fun q8 => ?_)
  · have q7 : (h (ra0 + 7) 2) ≤ a1 := q7
    refine x_const (np := 29) (x := 9223372039002259456) (a := 2147483648) (by decide +kernel) (by decide) (by decide) ?_
    refine x_istore (np := 31) (x := 4) (lo' := [x_r (ra0 + 7), iv_c a1, iv_c 2147483650, iv_c a3, iv_c 2147483648]) (by decide +kernel) (by decide) (Nat.le_of_ble_eq_true rfl) rfl ?_
    refine x_iload (np := 33) (x := 4) (by decide +kernel) rfl (by decide) ?_
    refine x_ifz (k := 0) (tg := 50) (np := 36) (by decide +kernel) (by decide) (by decide) (fun q9 => ?_) (fun q10 => ?_)
    · have q9 : 2147483648 = 2147483648 := q9
      refine x_retV (np := 51) (x := 0) (by decide +kernel) (by decide +kernel) ⟨rfl, ?_⟩
      exact ⟨hJ, hF⟩
    have q10 : ¬ (2147483648 = 2147483648) := q10
    exfalso; omega
  have q8 : ¬ ((h (ra0 + 7) 2) ≤ a1) := q8
  refine x_iload (np := 13) (x := 2) (by decide +kernel) rfl (by decide) ?_
  refine x_ifz (k := 2) (tg := 28) (np := 16) (by decide +kernel) (by decide) (by decide) (fun q11 => ?_) (fun q12 => ?_)
  · have q11 : 2147483650 < 2147483648 := q11
    exfalso; omega
  have q12 : ¬ (2147483650 < 2147483648) := q12
  refine x_iload (np := 17) (x := 2) (by decide +kernel) rfl (by decide) ?_
  refine x_aload (np := 18) (x := 0) (by decide +kernel) rfl (x_nc_le (tn_7 ta0)) ?_
  have b13 := jB (e := 0) 0 hJ (rg_T7_0_0_1 ta0) (by omega) (by omega)
  have q14 : (h (ra0 + 7) 0) = 2147483652 := by omega
  refine x_getC (np := 21) (x := 384) (f := 0) (q := 2147483652) (by decide +kernel) (by decide) (tg_7_384_0_0 ta0) q14 (fun l15 => ?_)
  refine x_icmp (k := 3) (tg := 28) (np := 24) (by decide +kernel) (by decide) (by decide) (by decide) (fun q16 => ?_) (fun q17 => ?_)
  · have q16 : 2147483652 ≤ 2147483650 := q16
    exfalso; omega
  have q17 : ¬ (2147483652 ≤ 2147483650) := q17
  refine x_const (np := 25) (x := 9223372043297226753) (a := 2147483649) (by decide +kernel) (by decide) (by decide) ?_
  refine x_goto (np := 28) (x := 29) (by decide +kernel) ?_
  refine x_istore (np := 31) (x := 4) (lo' := [x_r (ra0 + 7), iv_c a1, iv_c 2147483650, iv_c a3, iv_c 2147483649]) (by decide +kernel) (by decide) (Nat.le_of_ble_eq_true rfl) rfl ?_
  refine x_iload (np := 33) (x := 4) (by decide +kernel) rfl (by decide) ?_
  refine x_ifz (k := 0) (tg := 50) (np := 36) (by decide +kernel) (by decide) (by decide) (fun q18 => ?_) (fun q19 => ?_)
  · have q18 : 2147483649 = 2147483648 := q18
    exfalso; omega
  have q19 : ¬ (2147483649 = 2147483648) := q19
  refine x_aload (np := 37) (x := 0) (by decide +kernel) rfl (x_nc_le (tn_7 ta0)) ?_
  have q20 : h (ra0 + 7) 1 = (ra0 + 8) := tf_7_1 hJ ta0
  refine x_getR (np := 40) (x := 385) (f := 1) (q := (ra0 + 8)) (by decide +kernel) (by decide) (tg_7_385_1_1 ta0) q20 ?_
  refine x_iload (np := 41) (x := 1) (by decide +kernel) rfl la1 ?_
  refine x_aload (np := 42) (x := 0) (by decide +kernel) rfl (x_nc_le (tn_7 ta0)) ?_
  refine x_getC (np := 45) (x := 384) (f := 0) (q := 2147483652) (by decide +kernel) (by decide) (tg_7_384_0_0 ta0) q14 (fun l21 => ?_)
  obtain ⟨u22, q23⟩ : ∃ z, a1 = 2147483648 + z := ⟨a1 - 2147483648, by omega⟩
  refine x_imul (np := 46) (x := 0) (i := u22) (j := 4) (v := (2147483648 + 4 * u22)) (by decide +kernel) (by omega) (by omega) (by omega) (by omega) la1 (by decide) ?_
  refine x_iload (np := 47) (x := 2) (by decide +kernel) rfl (by decide) ?_
  refine x_iadd (np := 48) (x := 0) (v := (2147483650 + 4 * u22)) (by decide +kernel) (by omega) (by decide) (by omega) (by omega) ?_
  refine x_iload (np := 49) (x := 3) (by decide +kernel) rfl la3 ?_
  refine x_ast (np := 50) (x := 0) (kd := 1) (n := 40) (i := (2 + 4 * u22)) (by decide +kernel) (Or.inl rfl) (ta_8_40 ta0) (by omega) (by omega) (by decide) la3 (fun z => absurd z (by decide)) ?_
  have j26 := jU (e := (2 + 4 * u22)) (v := a3) u22 hJ (rg_T8_2_4_10 ta0) (by omega) (by omega) (by omega)
  have f28 := jF (e := (2 + 4 * u22)) (v := a3) u22 hF (rg_T8_2_4_10 ta0) (by omega) (by omega) (by decide)
  generalize e27 : x_up h (ra0 + 8) (2 + 4 * u22) a3 = h25 at j26 f28 ⊢
  refine x_retV (np := 51) (x := 0) (by decide +kernel) (by decide +kernel) ⟨rfl, ?_⟩
  exact ⟨j26, f28⟩
set_option maxHeartbeats 0 in
/-- LentNames$TownReader.readBodies(I)Z -/
theorem c101_61 {sc : Nat × Nat} {d a1 : Nat} {h : xh} (hJ : J h) (ba1 : 2147483647 ≤ a1 ∧ a1 ≤ 2147483657) : X sc 101 (d + 6) (xI fun r h' => J h' ∧ Fr 161 h h' ∧ (2147483648 ≤ r ∧ r ≤ 2147483649)) 0 0 0 [x_r 61, iv_c a1, 147573952589676412928, 147573952589676412928, 147573952589676412928] [] h := by
  have la1 : a1 < 4294967296 := by omega
  have hF := Fr.refl 161 h
  refine x_const (np := 1) (x := 9223372039002259456) (a := 2147483648) (by decide +kernel) (by decide) (by decide) ?_
  refine x_istore (np := 2) (x := 2) (lo' := [x_r 61, iv_c a1, iv_c 2147483648, 147573952589676412928, 147573952589676412928]) (by decide +kernel) (by decide) (Nat.le_of_ble_eq_true rfl) rfl ?_
  refine x_const (np := 3) (x := 9223372039002259456) (a := 2147483648) (by decide +kernel) (by decide) (by decide) ?_
  refine x_istore (np := 4) (x := 3) (lo' := [x_r 61, iv_c a1, iv_c 2147483648, iv_c 2147483648, 147573952589676412928]) (by decide +kernel) (by decide) (Nat.le_of_ble_eq_true rfl) rfl ?_
  have p1407 : ∀ (n : Nat) (v1399 : Nat) (v1401 : Nat) (w1403 : Nat) (h1404 : xh), 4294967296 - v1401 < n → (0 ≤ v1399 ∧ v1399 ≤ 4294967295) → (2147483648 ≤ v1401 ∧ v1401 ≤ 2147484048) → J h1404 → Fr 33 h h1404 → X sc 101 (d + 6) (xI fun r h' => J h' ∧ Fr 161 h h' ∧ (2147483648 ≤ r ∧ r ≤ 2147483649)) 0 0 4 [x_r 61, iv_c a1, iv_c v1399, iv_c v1401, w1403] [] h1404 := by
    intro n
    induction n with
    | zero => intro v1399 v1401 w1403 h1404 q1408; exact absurd q1408 (Nat.not_lt_zero _)
    | succ n i1409 =>
      intro v1399 v1401 w1403 h1404 q1408 b1400 b1402 j1406 f1405
      have f1410 := Fr.trans hF f1405 (by decide)
      refine x_iload (np := 5) (x := 3) (by decide +kernel) rfl (by omega) ?_
      refine x_const (np := 8) (x := 9223373756989178256) (a := 2147484048) (by decide +kernel) (by decide) (by decide) ?_
      refine x_icmp (k := 3) (tg := 66) (np := 11) (by decide +kernel) (by decide) (by omega) (by decide) (fun q1411 => ?_) (fun q1412 => ?_)
      · have q1411 : 2147484048 ≤ v1401 := q1411
        refine x_aload (np := 67) (x := 0) (by decide +kernel) rfl (x_nc_le (by decide)) ?_
        have q1413 : h1404 61 1 = h 61 1 := f1405 61 1 (by decide +kernel)
        have t1414 : tw (h 61 1) := hJ.2.2.2.2.1
        refine x_getR (np := 70) (x := 577) (f := 1) (q := (h 61 1)) (by decide +kernel) (by decide) (by decide +kernel) q1413 ?_
        have q1415 : h1404 (h 61 1) 3 = ((h 61 1) + 7) := tf_0_3 j1406 t1414
        refine x_getR (np := 73) (x := 515) (f := 3) (q := ((h 61 1) + 7)) (by decide +kernel) (by decide) (tg_0_515_3_1 t1414) q1415 ?_
        refine x_iload (np := 74) (x := 1) (by decide +kernel) rfl la1 ?_
        refine x_const (np := 75) (x := 9223372047592194050) (a := 2147483650) (by decide +kernel) (by decide) (by decide) ?_
        refine x_iload (np := 76) (x := 2) (by decide +kernel) rfl (by omega) ?_
        refine x_cV (t := 6) (mj := 69) (n := 4) (rc := 7) (ml := 5) (nr := 0) (np := 79) (as := [x_r ((h 61 1) + 7), iv_c a1, iv_c 2147483650, iv_c v1399]) (rest := []) (lo1 := [x_r ((h 61 1) + 7), iv_c a1, iv_c 2147483650, iv_c v1399, 147573952589676412928]) (by decide +kernel) (by decide) (by decide +kernel) (x_rb_of (tr_7_7 t1414)) rfl rfl (x_wr (tn_7 t1414) (x_wi la1 (x_wi (by decide) (x_wi (by omega) x_wn)))) x_wn (by decide) rfl (c69_T7_c2 j1406 t1414 (by omega)  (by omega)) (fun h1419 q1418 => ?_)
        obtain ⟨j1420, f1421⟩ := q1418
        have f1424 := Fr.trans f1410 f1421 (by decide)
        refine x_const (np := 80) (x := 9223372043297226753) (a := 2147483649) (by decide +kernel) (by decide) (by decide) ?_
        refine x_retI (np := 81) (x := 0) (by decide +kernel) (by decide) (Or.inr ⟨by decide +kernel, by omega, by omega⟩) ⟨_, rfl, (by decide), ?_⟩
        exact ⟨j1420, f1424, (by omega)⟩
      have q1412 : ¬ (2147484048 ≤ v1401) := q1412
      refine x_aload (np := 12) (x := 0) (by decide +kernel) rfl (x_nc_le (by decide)) ?_
      have q1425 : h1404 61 0 = 1 := by have z := jB (e := 0) 0 j1406 rg_61_0_0_1 (by decide) (by decide); omega
      refine x_getR (np := 15) (x := 576) (f := 0) (q := 1) (by decide +kernel) (by decide) (by decide +kernel) q1425 ?_
      refine x_const (np := 16) (x := 9223372039002259456) (a := 2147483648) (by decide +kernel) (by decide) (by decide) ?_
      refine x_aload (np := 17) (x := 0) (by decide +kernel) rfl (x_nc_le (by decide)) ?_
      have q1426 : h1404 61 1 = h 61 1 := f1405 61 1 (by decide +kernel)
      have t1427 : tw (h 61 1) := hJ.2.2.2.2.1
      refine x_getR (np := 20) (x := 577) (f := 1) (q := (h 61 1)) (by decide +kernel) (by decide) (by decide +kernel) q1426 ?_
      have q1428 : h1404 (h 61 1) 7 = h (h 61 1) 7 := jK 0 f1405 (rg_T0_7_0_1 t1427) (by omega) (by omega) (by decide)
      have b1429 := jB (e := 7) 0 hJ (rg_T0_7_0_1 t1427) (by omega) (by omega)
      refine x_getC (np := 23) (x := 519) (f := 7) (q := (h (h 61 1) 7)) (by decide +kernel) (by decide) (tg_0_519_7_0 t1427) q1428 (fun l1430 => ?_)
      refine x_const (np := 24) (x := 9223372043297226753) (a := 2147483649) (by decide +kernel) (by decide) (by decide) ?_
      obtain ⟨v1431, q1432⟩ : ∃ z, z + 2147483649 = (h (h 61 1) 7) + 2147483648 := ⟨(h (h 61 1) 7) + 2147483648 - 2147483649, by omega⟩
      refine x_isub (np := 25) (x := 0) (v := v1431) (by decide +kernel) l1430 (by decide) (by omega) (by omega) ?_
      refine x_cI (t := 6) (mj := 79) (n := 3) (rc := 8) (ml := 5) (nr := 0) (np := 28) (as := [x_r 1, iv_c 2147483648, iv_c v1431]) (rest := []) (lo1 := [x_r 1, iv_c 2147483648, iv_c v1431, 147573952589676412928, 147573952589676412928]) (by decide +kernel) (by decide) (by decide +kernel) (x_rb_of (by decide +kernel)) rfl rfl (x_wr (by decide) (x_wi (by decide) (x_wi (by omega) x_wn))) x_wn (by decide) rfl (c79_1_c0 j1406   (by omega)) (fun v1433 h1436 l1434 q1435 => ?_)
      obtain ⟨j1437, f1438, b1439, c1440⟩ := q1435
      have f1441 := Fr.trans f1410 f1438 (by decide)
      have f1442 := Fr.trans f1405 f1438 (by decide)
      refine x_istore (np := 30) (x := 4) (lo' := [x_r 61, iv_c a1, iv_c v1399, iv_c v1401, iv_c v1433]) (by decide +kernel) l1434 (Nat.le_of_ble_eq_true rfl) rfl ?_
      refine x_iload (np := 32) (x := 4) (by decide +kernel) rfl l1434 ?_
      refine x_const (np := 33) (x := 9223372034707292159) (a := 2147483647) (by decide +kernel) (by decide) (by decide) ?_
      refine x_icmp (k := 1) (tg := 38) (np := 36) (by decide +kernel) (by decide) l1434 (by decide) (fun q1443 => ?_) (fun q1444 => ?_)
      · have q1443 : v1433 ≠ 2147483647 := q1443
        refine x_iload (np := 39) (x := 2) (by decide +kernel) rfl (by omega) ?_
        refine x_const (np := 40) (x := 9223372043297226753) (a := 2147483649) (by decide +kernel) (by decide) (by decide) ?_
        refine x_iload (np := 42) (x := 4) (by decide +kernel) rfl l1434 ?_
        refine x_any (np := 43) (k9 := 3) (by decide +kernel) (by decide) (by decide) l1434 (fun v1445 l1446 => ?_)
        refine x_any (np := 44) (k9 := 1) (by decide +kernel) (by decide) (by omega) l1446 (fun v1447 l1448 => ?_)
        refine x_istore (np := 45) (x := 2) (lo' := [x_r 61, iv_c a1, iv_c v1447, iv_c v1401, iv_c v1433]) (by decide +kernel) l1448 (Nat.le_of_ble_eq_true rfl) rfl ?_
        refine x_aload (np := 46) (x := 0) (by decide +kernel) rfl (x_nc_le (by decide)) ?_
        have q1449 : h1436 61 0 = 1 := by have z := jB (e := 0) 0 j1437 rg_61_0_0_1 (by decide) (by decide); omega
        refine x_getR (np := 49) (x := 576) (f := 0) (q := 1) (by decide +kernel) (by decide) (by decide +kernel) q1449 ?_
        refine x_ldcB (i := 15) (idx := 165) (tx := "or") (by rw [tb_y101]; exact List.mem_of_getElem? (i := 15) rfl) (by decide) (by rw [tb_b101]; decide +kernel) ?_
        refine x_nI (t := 6) (mj := 78) (n := 2) (rc := 8) (ml := 2) (nr := 0) (np := 54) (as := [x_r 1, x_b (15 + 1)]) (rest := []) (lo1 := [x_r 1, x_b (15 + 1)]) (by decide +kernel) (by decide) (by decide +kernel) (x_rb_of (by decide +kernel)) rfl rfl (x_wr (by decide) (x_wB (by decide) x_wn)) x_wn (by decide) rfl ?_
        refine x_aload (np := 1) (x := 0) (by decide +kernel) rfl (x_nc_le (by decide)) ?_
        refine x_aloadB (i := 15) (k4 := 1) rfl (by decide) (by rw [tb_b78]; decide +kernel) ?_
        refine x_cP (t := 6) (mj := 77) (n := 2) (rc := 8) (ml := 4) (nr := 0) (np := 5) (as := [x_r 1, x_b (15 + 1)]) (rest := []) (lo1 := [x_r 1, x_b (15 + 1), 147573952589676412928, 147573952589676412928]) (by decide +kernel) (by decide) (by decide +kernel) (x_rb_of (by decide +kernel)) rfl rfl (x_wr (by decide) (x_wB (by decide) x_wn)) x_wn (by decide) rfl (c77_1_S0 j1437  (by decide)) (fun v1450 l1451 q1452 => ?_)
        obtain ⟨b1454, c1453⟩ := q1452
        have b1455 := jB (e := 2) 0 j1437 rg_1_2_0_1 (by omega) (by omega)
        refine x_ifz (k := 1) (tg := 10) (np := 8) (by decide +kernel) (by decide) l1451 (fun q1456 => ?_) (fun q1457 => ?_)
        · have q1456 : v1450 ≠ 2147483648 := q1456
          have b1458 := c1453 (by omega)
          refine x_aload (np := 11) (x := 0) (by decide +kernel) rfl (x_nc_le (by decide)) ?_
          refine x_aload (np := 12) (x := 0) (by decide +kernel) rfl (x_nc_le (by decide)) ?_
          refine x_getC (np := 15) (x := 450) (f := 2) (q := (h1436 1 2)) (by decide +kernel) (by decide) (by decide +kernel) rfl (fun l1459 => ?_)
          refine x_aloadB (i := 15) (k4 := 1) rfl (by decide) (by rw [tb_b78]; decide +kernel) ?_
          have b1460 := (iv_tl_lt 15 (by decide)).1
          have b1461 := iv_tl_ge 15 (by decide)
          refine x_len (by decide +kernel) (by rw [tb_y78]; exact sl_Tl) (by decide) (by rw [tb_b78]; decide +kernel) (Nat.le_trans (x_wi l1459 (x_wr (by decide) x_wn)) (by decide)) ?_
          refine x_iadd (np := 20) (x := 0) (v := ((h1436 1 2) + (iv_tl 15))) (by decide +kernel) l1459 (by omega) (by omega) (by omega) ?_
          refine x_cV (t := 6) (mj := 80) (n := 2) (rc := 8) (ml := 2) (nr := 0) (np := 23) (as := [x_r 1, iv_c ((h1436 1 2) + (iv_tl 15))]) (rest := []) (lo1 := [x_r 1, iv_c ((h1436 1 2) + (iv_tl 15))]) (by decide +kernel) (by decide) (by decide +kernel) (x_rb_of (by decide +kernel)) rfl rfl (x_wr (by decide) (x_wi (by omega) x_wn)) x_wn (by decide) rfl (c80_1n j1437  (by omega)) (fun h1465 q1464 => ?_)
          obtain ⟨j1466, f1467⟩ := q1464
          have f1470 := Fr.trans f1441 f1467 (by decide)
          have f1471 := Fr.trans f1442 f1467 (by decide)
          refine x_const (np := 24) (x := 9223372043297226753) (a := 2147483649) (by decide +kernel) (by decide) (by decide) ?_
          refine x_retI (np := 25) (x := 0) (by decide +kernel) (by decide) (Or.inr ⟨by decide +kernel, by omega, by omega⟩) ⟨_, rfl, (by decide), ?_⟩
          refine x_ifz (k := 1) (tg := 60) (np := 57) (by decide +kernel) (by decide) (by decide) (fun q1472 => ?_) (fun q1473 => ?_)
          · have q1472 : 2147483649 ≠ 2147483648 := q1472
            refine x_iinc (np := 63) (i := 3) (j := 2147483649) (v := (1 + v1401)) (lo' := [x_r 61, iv_c a1, iv_c v1447, iv_c (1 + v1401), iv_c v1433]) (by decide +kernel) (by decide) (by decide) rfl (by omega) (by omega) (by omega) rfl ?_
            refine x_goto (np := 66) (x := 4) (by decide +kernel) ?_
            exact i1409 v1447 (1 + v1401) (iv_c v1433) h1465 (by omega) (by omega) (by omega) j1466 f1471
          have q1473 : ¬ (2147483649 ≠ 2147483648) := q1473
          exfalso; omega
        have q1457 : ¬ (v1450 ≠ 2147483648) := q1457
        refine x_const (np := 9) (x := 9223372039002259456) (a := 2147483648) (by decide +kernel) (by decide) (by decide) ?_
        refine x_retI (np := 10) (x := 0) (by decide +kernel) (by decide) (Or.inr ⟨by decide +kernel, by omega, by omega⟩) ⟨_, rfl, (by decide), ?_⟩
        refine x_ifz (k := 1) (tg := 60) (np := 57) (by decide +kernel) (by decide) (by decide) (fun q1474 => ?_) (fun q1475 => ?_)
        · have q1474 : 2147483648 ≠ 2147483648 := q1474
          exfalso; omega
        have q1475 : ¬ (2147483648 ≠ 2147483648) := q1475
        refine x_goto (np := 60) (x := 66) (by decide +kernel) ?_
        refine x_aload (np := 67) (x := 0) (by decide +kernel) rfl (x_nc_le (by decide)) ?_
        have q1476 : h1436 61 1 = h1404 61 1 := f1438 61 1 (by decide +kernel)
        have q1477 : h1404 61 1 = h 61 1 := f1405 61 1 (by decide +kernel)
        refine x_getR (np := 70) (x := 577) (f := 1) (q := (h 61 1)) (by decide +kernel) (by decide) (by decide +kernel) (q1476.trans q1477) ?_
        have q1478 : h1436 (h 61 1) 3 = ((h 61 1) + 7) := tf_0_3 j1437 t1427
        refine x_getR (np := 73) (x := 515) (f := 3) (q := ((h 61 1) + 7)) (by decide +kernel) (by decide) (tg_0_515_3_1 t1427) q1478 ?_
        refine x_iload (np := 74) (x := 1) (by decide +kernel) rfl la1 ?_
        refine x_const (np := 75) (x := 9223372047592194050) (a := 2147483650) (by decide +kernel) (by decide) (by decide) ?_
        refine x_iload (np := 76) (x := 2) (by decide +kernel) rfl l1448 ?_
        refine x_cV (t := 6) (mj := 69) (n := 4) (rc := 7) (ml := 5) (nr := 0) (np := 79) (as := [x_r ((h 61 1) + 7), iv_c a1, iv_c 2147483650, iv_c v1447]) (rest := []) (lo1 := [x_r ((h 61 1) + 7), iv_c a1, iv_c 2147483650, iv_c v1447, 147573952589676412928]) (by decide +kernel) (by decide) (by decide +kernel) (x_rb_of (tr_7_7 t1427)) rfl rfl (x_wr (tn_7 t1427) (x_wi la1 (x_wi (by decide) (x_wi l1448 x_wn)))) x_wn (by decide) rfl (c69_T7_c2 j1437 t1427 (by omega)  (by omega)) (fun h1482 q1481 => ?_)
        obtain ⟨j1483, f1484⟩ := q1481
        have f1487 := Fr.trans f1441 f1484 (by decide)
        refine x_const (np := 80) (x := 9223372043297226753) (a := 2147483649) (by decide +kernel) (by decide) (by decide) ?_
        refine x_retI (np := 81) (x := 0) (by decide +kernel) (by decide) (Or.inr ⟨by decide +kernel, by omega, by omega⟩) ⟨_, rfl, (by decide), ?_⟩
        exact ⟨j1483, f1487, (by omega)⟩
      have q1444 : ¬ (v1433 ≠ 2147483647) := q1444
      refine x_const (np := 37) (x := 9223372039002259456) (a := 2147483648) (by decide +kernel) (by decide) (by decide) ?_
      refine x_retI (np := 38) (x := 0) (by decide +kernel) (by decide) (Or.inr ⟨by decide +kernel, by omega, by omega⟩) ⟨_, rfl, (by decide), ?_⟩
      exact ⟨j1437, f1441, (by omega)⟩
  exact p1407 _ 2147483648 2147483648 147573952589676412928 h (Nat.lt_succ_self _) (by omega) (by omega) hJ (Fr.refl _ _)
set_option maxHeartbeats 0 in
/-- LentNames$Table.at(II)I -/
theorem c68_T7_c1n {sc : Nat × Nat} {d ra0 a1 : Nat} {h : xh} (hJ : J h) (ta0 : tw ra0) (ba1 : 2147483647 ≤ a1 ∧ a1 ≤ 2147483657) : X sc 68 d (xI fun r h' => h' = h ∧ (0 ≤ r ∧ r ≤ 4294967295)) 0 0 0 [x_r (ra0 + 7), iv_c a1, iv_c 2147483649, 147573952589676412928] [] h := by
  have la1 : a1 < 4294967296 := by omega
  refine x_iload (np := 1) (x := 1) (by decide +kernel) rfl la1 ?_
  refine x_ifz (k := 2) (tg := 28) (np := 4) (by decide +kernel) (by decide) la1 (fun q1 => ?_) (fun q2 => ?_)
  · have q1 : a1 < 2147483648 := q1
    refine x_const (np := 29) (x := 9223372039002259456) (a := 2147483648) (by decide +kernel) (by decide) (by decide) ?_
    refine x_istore (np := 30) (x := 3) (lo' := [x_r (ra0 + 7), iv_c a1, iv_c 2147483649, iv_c 2147483648]) (by decide +kernel) (by decide) (Nat.le_of_ble_eq_true rfl) rfl ?_
    refine x_iload (np := 31) (x := 3) (by decide +kernel) rfl (by decide) ?_
    refine x_ifz (k := 0) (tg := 50) (np := 34) (by decide +kernel) (by decide) (by decide) (fun q3 => ?_) (fun q4 => ?_)
    · have q3 : 2147483648 = 2147483648 := q3
      refine x_const (np := 51) (x := 9223372034707292159) (a := 2147483647) (by decide +kernel) (by decide) (by decide) ?_
      refine x_retI (np := 52) (x := 0) (by decide +kernel) (by decide) (Or.inl (by decide +kernel)) ⟨_, rfl, (by decide), ?_⟩
      exact ⟨rfl, (by omega)⟩
    have q4 : ¬ (2147483648 = 2147483648) := q4
    exfalso; omega
  have q2 : ¬ (a1 < 2147483648) := q2
  refine x_iload (np := 5) (x := 1) (by decide +kernel) rfl la1 ?_
  refine x_aload (np := 6) (x := 0) (by decide +kernel) rfl (x_nc_le (tn_7 ta0)) ?_
  have b5 := jB (e := 2) 0 hJ (rg_T7_2_0_1 ta0) (by omega) (by omega)
  refine x_getC (np := 9) (x := 386) (f := 2) (q := (h (ra0 + 7) 2)) (by decide +kernel) (by decide) (tg_7_386_2_0 ta0) rfl (fun l6 => ?_)
  refine x_icmp (k := 3) (tg := 28) (np := 12) (by decide +kernel) (by decide) la1 l6 (fun q7 => ?_) (fun q8 => ?_)
  · have q7 : (h (ra0 + 7) 2) ≤ a1 := q7
    refine x_const (np := 29) (x := 9223372039002259456) (a := 2147483648) (by decide +kernel) (by decide) (by decide) ?_
    refine x_istore (np := 30) (x := 3) (lo' := [x_r (ra0 + 7), iv_c a1, iv_c 2147483649, iv_c 2147483648]) (by decide +kernel) (by decide) (Nat.le_of_ble_eq_true rfl) rfl ?_
    refine x_iload (np := 31) (x := 3) (by decide +kernel) rfl (by decide) ?_
    refine x_ifz (k := 0) (tg := 50) (np := 34) (by decide +kernel) (by decide) (by decide) (fun q9 => ?_) (fun q10 => ?_)
    · have q9 : 2147483648 = 2147483648 := q9
      refine x_const (np := 51) (x := 9223372034707292159) (a := 2147483647) (by decide +kernel) (by decide) (by decide) ?_
      refine x_retI (np := 52) (x := 0) (by decide +kernel) (by decide) (Or.inl (by decide +kernel)) ⟨_, rfl, (by decide), ?_⟩
      exact ⟨rfl, (by omega)⟩
    have q10 : ¬ (2147483648 = 2147483648) := q10
    exfalso; omega
  have q8 : ¬ ((h (ra0 + 7) 2) ≤ a1) := q8
  refine x_iload (np := 13) (x := 2) (by decide +kernel) rfl (by decide) ?_
  refine x_ifz (k := 2) (tg := 28) (np := 16) (by decide +kernel) (by decide) (by decide) (fun q11 => ?_) (fun q12 => ?_)
  · have q11 : 2147483649 < 2147483648 := q11
    exfalso; omega
  have q12 : ¬ (2147483649 < 2147483648) := q12
  refine x_iload (np := 17) (x := 2) (by decide +kernel) rfl (by decide) ?_
  refine x_aload (np := 18) (x := 0) (by decide +kernel) rfl (x_nc_le (tn_7 ta0)) ?_
  have b13 := jB (e := 0) 0 hJ (rg_T7_0_0_1 ta0) (by omega) (by omega)
  have q14 : (h (ra0 + 7) 0) = 2147483652 := by omega
  refine x_getC (np := 21) (x := 384) (f := 0) (q := 2147483652) (by decide +kernel) (by decide) (tg_7_384_0_0 ta0) q14 (fun l15 => ?_)
  refine x_icmp (k := 3) (tg := 28) (np := 24) (by decide +kernel) (by decide) (by decide) (by decide) (fun q16 => ?_) (fun q17 => ?_)
  · have q16 : 2147483652 ≤ 2147483649 := q16
    exfalso; omega
  have q17 : ¬ (2147483652 ≤ 2147483649) := q17
  refine x_const (np := 25) (x := 9223372043297226753) (a := 2147483649) (by decide +kernel) (by decide) (by decide) ?_
  refine x_goto (np := 28) (x := 29) (by decide +kernel) ?_
  refine x_istore (np := 30) (x := 3) (lo' := [x_r (ra0 + 7), iv_c a1, iv_c 2147483649, iv_c 2147483649]) (by decide +kernel) (by decide) (Nat.le_of_ble_eq_true rfl) rfl ?_
  refine x_iload (np := 31) (x := 3) (by decide +kernel) rfl (by decide) ?_
  refine x_ifz (k := 0) (tg := 50) (np := 34) (by decide +kernel) (by decide) (by decide) (fun q18 => ?_) (fun q19 => ?_)
  · have q18 : 2147483649 = 2147483648 := q18
    exfalso; omega
  have q19 : ¬ (2147483649 = 2147483648) := q19
  refine x_aload (np := 35) (x := 0) (by decide +kernel) rfl (x_nc_le (tn_7 ta0)) ?_
  have q20 : h (ra0 + 7) 1 = (ra0 + 8) := tf_7_1 hJ ta0
  refine x_getR (np := 38) (x := 385) (f := 1) (q := (ra0 + 8)) (by decide +kernel) (by decide) (tg_7_385_1_1 ta0) q20 ?_
  refine x_iload (np := 39) (x := 1) (by decide +kernel) rfl la1 ?_
  refine x_aload (np := 40) (x := 0) (by decide +kernel) rfl (x_nc_le (tn_7 ta0)) ?_
  refine x_getC (np := 43) (x := 384) (f := 0) (q := 2147483652) (by decide +kernel) (by decide) (tg_7_384_0_0 ta0) q14 (fun l21 => ?_)
  obtain ⟨u22, q23⟩ : ∃ z, a1 = 2147483648 + z := ⟨a1 - 2147483648, by omega⟩
  refine x_imul (np := 44) (x := 0) (i := u22) (j := 4) (v := (2147483648 + 4 * u22)) (by decide +kernel) (by omega) (by omega) (by omega) (by omega) la1 (by decide) ?_
  refine x_iload (np := 45) (x := 2) (by decide +kernel) rfl (by decide) ?_
  refine x_iadd (np := 46) (x := 0) (v := (2147483649 + 4 * u22)) (by decide +kernel) (by omega) (by decide) (by omega) (by omega) ?_
  refine x_aldC (np := 47) (x := 0) (n := 40) (i := (1 + 4 * u22)) (q := ((h (ra0 + 8) (1 + 4 * u22)))) (by decide +kernel) (ta_8_40 ta0) (by omega) (by omega) (by decide) rfl (fun l25 => ?_)
  refine x_goto (np := 50) (x := 51) (by decide +kernel) ?_
  refine x_retI (np := 52) (x := 0) (by decide +kernel) l25 (Or.inl (by decide +kernel)) ⟨_, rfl, l25, ?_⟩
  exact ⟨rfl, (by omega)⟩
set_option maxHeartbeats 0 in
/-- LentNames$Tape.takesNumber(II)I -/
theorem c79_1 {sc : Nat × Nat} {d a1 a2 : Nat} {h : xh} (hJ : J h) (ba1 : 0 ≤ a1 ∧ a1 ≤ 4294967295) (ba2 : 2147483659 ≤ a2 ∧ a2 ≤ 2147483659) : X sc 79 (d + 1) (xI fun r h' => J h' ∧ Fr 33 h h' ∧ (0 ≤ r ∧ r ≤ 2147483659) ∧ (r ≤ a2)) 0 0 0 [x_r 1, iv_c a1, iv_c a2, 147573952589676412928, 147573952589676412928] [] h := by
  have la1 : a1 < 4294967296 := by omega
  have la2 : a2 < 4294967296 := by omega
  have hF := Fr.refl 33 h
  refine x_const (np := 1) (x := 9223372039002259456) (a := 2147483648) (by decide +kernel) (by decide) (by decide) ?_
  refine x_istore (np := 2) (x := 3) (lo' := [x_r 1, iv_c a1, iv_c a2, iv_c 2147483648, 147573952589676412928]) (by decide +kernel) (by decide) (Nat.le_of_ble_eq_true rfl) rfl ?_
  refine x_const (np := 3) (x := 9223372039002259456) (a := 2147483648) (by decide +kernel) (by decide) (by decide) ?_
  refine x_istore (np := 5) (x := 4) (lo' := [x_r 1, iv_c a1, iv_c a2, iv_c 2147483648, iv_c 2147483648]) (by decide +kernel) (by decide) (Nat.le_of_ble_eq_true rfl) rfl ?_
  have b209 := jB (e := 2) 0 hJ rg_1_2_0_1 (by omega) (by omega)
  have p208 : ∀ (n : Nat) (v204 : Nat) (v206 : Nat), 4294967296 - v206 < n → (0 ≤ v204 ∧ v204 ≤ 4294967295) → (2147483648 ≤ v206 ∧ v206 ≤ 2147483652) → (h 1 2) + v206 ≤ 4294967696 → X sc 79 (d + 1) (xI fun r h' => J h' ∧ Fr 33 h h' ∧ (0 ≤ r ∧ r ≤ 2147483659) ∧ (r ≤ a2)) 0 0 5 [x_r 1, iv_c a1, iv_c a2, iv_c v204, iv_c v206] [] h := by
    intro n
    induction n with
    | zero => intro v204 v206 q211; exact absurd q211 (Nat.not_lt_zero _)
    | succ n i212 =>
      intro v204 v206 q211 b205 b207 b210
      refine x_iload (np := 7) (x := 4) (by decide +kernel) rfl (by omega) ?_
      refine x_const (np := 8) (x := 9223372051887161347) (a := 2147483651) (by decide +kernel) (by decide) (by decide) ?_
      refine x_icmp (k := 4) (tg := 54) (np := 11) (by decide +kernel) (by decide) (by omega) (by decide) (fun q213 => ?_) (fun q214 => ?_)
      · have q213 : 2147483651 < v206 := q213
        refine x_iload (np := 56) (x := 4) (by decide +kernel) rfl (by omega) ?_
        refine x_ifz (k := 0) (tg := 75) (np := 59) (by decide +kernel) (by decide) (by omega) (fun q215 => ?_) (fun q216 => ?_)
        · have q215 : v206 = 2147483648 := q215
          exfalso; omega
        have q216 : ¬ (v206 = 2147483648) := q216
        refine x_iload (np := 61) (x := 4) (by decide +kernel) rfl (by omega) ?_
        refine x_const (np := 62) (x := 9223372051887161347) (a := 2147483651) (by decide +kernel) (by decide) (by decide) ?_
        refine x_icmp (k := 4) (tg := 75) (np := 65) (by decide +kernel) (by decide) (by omega) (by decide) (fun q217 => ?_) (fun q218 => ?_)
        · have q217 : 2147483651 < v206 := q217
          refine x_const (np := 76) (x := 9223372034707292159) (a := 2147483647) (by decide +kernel) (by decide) (by decide) ?_
          refine x_retI (np := 77) (x := 0) (by decide +kernel) (by decide) (Or.inl (by decide +kernel)) ⟨_, rfl, (by decide), ?_⟩
          exact ⟨hJ, hF, (by omega), (by omega)⟩
        have q218 : ¬ (2147483651 < v206) := q218
        exfalso; omega
      have q214 : ¬ (2147483651 < v206) := q214
      refine x_aload (np := 12) (x := 0) (by decide +kernel) rfl (x_nc_le (by decide)) ?_
      refine x_aload (np := 13) (x := 0) (by decide +kernel) rfl (x_nc_le (by decide)) ?_
      refine x_getC (np := 16) (x := 450) (f := 2) (q := (h 1 2)) (by decide +kernel) (by decide) (by decide +kernel) rfl (fun l219 => ?_)
      refine x_iload (np := 18) (x := 4) (by decide +kernel) rfl (by omega) ?_
      obtain ⟨v220, q221⟩ : ∃ z, z + 2147483648 = (h 1 2) + v206 := ⟨(h 1 2) + v206 - 2147483648, by omega⟩
      refine x_iadd (np := 19) (x := 0) (v := v220) (by decide +kernel) l219 (by omega) (by omega) (by omega) ?_
      refine x_nI (t := 6) (mj := 81) (n := 2) (rc := 8) (ml := 2) (nr := 0) (np := 22) (as := [x_r 1, iv_c v220]) (rest := []) (lo1 := [x_r 1, iv_c v220]) (by decide +kernel) (by decide) (by decide +kernel) (x_rb_of (by decide +kernel)) rfl rfl (x_wr (by decide) (x_wi (by omega) x_wn)) x_wn (by decide) rfl ?_
      refine x_iload (np := 1) (x := 1) (by decide +kernel) rfl (by omega) ?_
      refine x_aload (np := 2) (x := 0) (by decide +kernel) rfl (x_nc_le (by decide)) ?_
      have b222 := jB (e := 1) 0 hJ rg_1_1_0_1 (by omega) (by omega)
      refine x_getC (np := 5) (x := 449) (f := 1) (q := (h 1 1)) (by decide +kernel) (by decide) (by decide +kernel) rfl (fun l223 => ?_)
      refine x_icmp (k := 3) (tg := 17) (np := 8) (by decide +kernel) (by decide) (by omega) l223 (fun q224 => ?_) (fun q225 => ?_)
      · have q224 : (h 1 1) ≤ v220 := q224
        refine x_const (np := 18) (x := 9223372034707292159) (a := 2147483647) (by decide +kernel) (by decide) (by decide) ?_
        refine x_retI (np := 19) (x := 0) (by decide +kernel) (by decide) (Or.inl (by decide +kernel)) ⟨_, rfl, (by decide), ?_⟩
        refine x_nI (t := 0) (mj := 82) (n := 1) (rc := 0) (ml := 1) (nr := 0) (np := 25) (as := [iv_c 2147483647]) (rest := []) (lo1 := [iv_c 2147483647]) (by decide +kernel) (by decide) (by decide +kernel) (Or.inl rfl) rfl rfl (x_wi (by decide) x_wn) x_wn (by decide) rfl ?_
        refine x_iload (np := 1) (x := 0) (by decide +kernel) rfl (by decide) ?_
        refine x_const (np := 3) (x := 9223372245160689712) (a := 2147483696) (by decide +kernel) (by decide) (by decide) ?_
        refine x_icmp (k := 2) (tg := 16) (np := 6) (by decide +kernel) (by decide) (by decide) (by decide) (fun q226 => ?_) (fun q227 => ?_)
        · have q226 : 2147483647 < 2147483696 := q226
          refine x_const (np := 17) (x := 9223372039002259456) (a := 2147483648) (by decide +kernel) (by decide) (by decide) ?_
          refine x_retI (np := 18) (x := 0) (by decide +kernel) (by decide) (Or.inr ⟨by decide +kernel, by omega, by omega⟩) ⟨_, rfl, (by decide), ?_⟩
          refine x_ifz (k := 0) (tg := 54) (np := 28) (by decide +kernel) (by decide) (by decide) (fun q228 => ?_) (fun q229 => ?_)
          · have q228 : 2147483648 = 2147483648 := q228
            refine x_iload (np := 56) (x := 4) (by decide +kernel) rfl (by omega) ?_
            refine x_ifz (k := 0) (tg := 75) (np := 59) (by decide +kernel) (by decide) (by omega) (fun q230 => ?_) (fun q231 => ?_)
            · have q230 : v206 = 2147483648 := q230
              refine x_const (np := 76) (x := 9223372034707292159) (a := 2147483647) (by decide +kernel) (by decide) (by decide) ?_
              refine x_retI (np := 77) (x := 0) (by decide +kernel) (by decide) (Or.inl (by decide +kernel)) ⟨_, rfl, (by decide), ?_⟩
              exact ⟨hJ, hF, (by omega), (by omega)⟩
            have q231 : ¬ (v206 = 2147483648) := q231
            refine x_iload (np := 61) (x := 4) (by decide +kernel) rfl (by omega) ?_
            refine x_const (np := 62) (x := 9223372051887161347) (a := 2147483651) (by decide +kernel) (by decide) (by decide) ?_
            refine x_icmp (k := 4) (tg := 75) (np := 65) (by decide +kernel) (by decide) (by omega) (by decide) (fun q232 => ?_) (fun q233 => ?_)
            · have q232 : 2147483651 < v206 := q232
              exfalso; omega
            have q233 : ¬ (2147483651 < v206) := q233
            refine x_iload (np := 66) (x := 3) (by decide +kernel) rfl (by omega) ?_
            refine x_iload (np := 67) (x := 1) (by decide +kernel) rfl la1 ?_
            refine x_icmp (k := 2) (tg := 75) (np := 70) (by decide +kernel) (by decide) (by omega) la1 (fun q234 => ?_) (fun q235 => ?_)
            · have q234 : v204 < a1 := q234
              refine x_const (np := 76) (x := 9223372034707292159) (a := 2147483647) (by decide +kernel) (by decide) (by decide) ?_
              refine x_retI (np := 77) (x := 0) (by decide +kernel) (by decide) (Or.inl (by decide +kernel)) ⟨_, rfl, (by decide), ?_⟩
              exact ⟨hJ, hF, (by omega), (by omega)⟩
            have q235 : ¬ (v204 < a1) := q235
            refine x_iload (np := 71) (x := 3) (by decide +kernel) rfl (by omega) ?_
            refine x_iload (np := 72) (x := 2) (by decide +kernel) rfl la2 ?_
            refine x_icmp (k := 5) (tg := 77) (np := 75) (by decide +kernel) (by decide) (by omega) la2 (fun q236 => ?_) (fun q237 => ?_)
            · have q236 : v204 ≤ a2 := q236
              refine x_aload (np := 78) (x := 0) (by decide +kernel) rfl (x_nc_le (by decide)) ?_
              refine x_aload (np := 79) (x := 0) (by decide +kernel) rfl (x_nc_le (by decide)) ?_
              refine x_getC (np := 82) (x := 450) (f := 2) (q := (h 1 2)) (by decide +kernel) (by decide) (by decide +kernel) rfl (fun l238 => ?_)
              refine x_iload (np := 84) (x := 4) (by decide +kernel) rfl (by omega) ?_
              obtain ⟨v239, q240⟩ : ∃ z, z + 2147483648 = (h 1 2) + v206 := ⟨(h 1 2) + v206 - 2147483648, by omega⟩
              refine x_iadd (np := 85) (x := 0) (v := v239) (by decide +kernel) l219 (by omega) (by omega) (by omega) ?_
              refine x_cV (t := 6) (mj := 80) (n := 2) (rc := 8) (ml := 2) (nr := 0) (np := 88) (as := [x_r 1, iv_c v239]) (rest := []) (lo1 := [x_r 1, iv_c v239]) (by decide +kernel) (by decide) (by decide +kernel) (x_rb_of (by decide +kernel)) rfl rfl (x_wr (by decide) (x_wi (by omega) x_wn)) x_wn (by decide) rfl (c80_1n hJ  (by omega)) (fun h244 q243 => ?_)
              obtain ⟨j245, f246⟩ := q243
              have f249 := Fr.trans hF f246 (by decide)
              refine x_iload (np := 89) (x := 3) (by decide +kernel) rfl (by omega) ?_
              refine x_retI (np := 90) (x := 0) (by decide +kernel) (by omega) (Or.inl (by decide +kernel)) ⟨_, rfl, (by omega), ?_⟩
              exact ⟨j245, f249, (by omega), (by omega)⟩
            have q237 : ¬ (v204 ≤ a2) := q237
            refine x_const (np := 76) (x := 9223372034707292159) (a := 2147483647) (by decide +kernel) (by decide) (by decide) ?_
            refine x_retI (np := 77) (x := 0) (by decide +kernel) (by decide) (Or.inl (by decide +kernel)) ⟨_, rfl, (by decide), ?_⟩
            exact ⟨hJ, hF, (by omega), (by omega)⟩
          have q229 : ¬ (2147483648 = 2147483648) := q229
          exfalso; omega
        have q227 : ¬ (2147483647 < 2147483696) := q227
        exfalso; omega
      have q225 : ¬ ((h 1 1) ≤ v220) := q225
      refine x_aload (np := 9) (x := 0) (by decide +kernel) rfl (x_nc_le (by decide)) ?_
      have q250 : h 1 0 = 2 := by have z := jB (e := 0) 0 hJ rg_1_0_0_1 (by decide) (by decide); omega
      refine x_getR (np := 12) (x := 448) (f := 0) (q := 2) (by decide +kernel) (by decide) (by decide +kernel) q250 ?_
      refine x_iload (np := 13) (x := 1) (by decide +kernel) rfl (by omega) ?_
      obtain ⟨u251, q252⟩ : ∃ z, v220 = 2147483648 + z := ⟨v220 - 2147483648, by omega⟩
      refine x_aldC (np := 14) (x := 0) (n := 400) (i := u251) (q := (h 2 u251)) (by decide +kernel) (by decide +kernel) (by omega) (by omega) (by decide) rfl (fun l253 => ?_)
      refine x_goto (np := 17) (x := 18) (by decide +kernel) ?_
      refine x_retI (np := 19) (x := 0) (by decide +kernel) l253 (Or.inl (by decide +kernel)) ⟨_, rfl, l253, ?_⟩
      refine x_nI (t := 0) (mj := 82) (n := 1) (rc := 0) (ml := 1) (nr := 0) (np := 25) (as := [iv_c (h 2 u251)]) (rest := []) (lo1 := [iv_c (h 2 u251)]) (by decide +kernel) (by decide) (by decide +kernel) (Or.inl rfl) rfl rfl (x_wi l253 x_wn) x_wn (by decide) rfl ?_
      refine x_iload (np := 1) (x := 0) (by decide +kernel) rfl l253 ?_
      refine x_const (np := 3) (x := 9223372245160689712) (a := 2147483696) (by decide +kernel) (by decide) (by decide) ?_
      refine x_icmp (k := 2) (tg := 16) (np := 6) (by decide +kernel) (by decide) l253 (by decide) (fun q254 => ?_) (fun q255 => ?_)
      · have q254 : (h 2 u251) < 2147483696 := q254
        refine x_const (np := 17) (x := 9223372039002259456) (a := 2147483648) (by decide +kernel) (by decide) (by decide) ?_
        refine x_retI (np := 18) (x := 0) (by decide +kernel) (by decide) (Or.inr ⟨by decide +kernel, by omega, by omega⟩) ⟨_, rfl, (by decide), ?_⟩
        refine x_ifz (k := 0) (tg := 54) (np := 28) (by decide +kernel) (by decide) (by decide) (fun q256 => ?_) (fun q257 => ?_)
        · have q256 : 2147483648 = 2147483648 := q256
          refine x_iload (np := 56) (x := 4) (by decide +kernel) rfl (by omega) ?_
          refine x_ifz (k := 0) (tg := 75) (np := 59) (by decide +kernel) (by decide) (by omega) (fun q258 => ?_) (fun q259 => ?_)
          · have q258 : v206 = 2147483648 := q258
            refine x_const (np := 76) (x := 9223372034707292159) (a := 2147483647) (by decide +kernel) (by decide) (by decide) ?_
            refine x_retI (np := 77) (x := 0) (by decide +kernel) (by decide) (Or.inl (by decide +kernel)) ⟨_, rfl, (by decide), ?_⟩
            exact ⟨hJ, hF, (by omega), (by omega)⟩
          have q259 : ¬ (v206 = 2147483648) := q259
          refine x_iload (np := 61) (x := 4) (by decide +kernel) rfl (by omega) ?_
          refine x_const (np := 62) (x := 9223372051887161347) (a := 2147483651) (by decide +kernel) (by decide) (by decide) ?_
          refine x_icmp (k := 4) (tg := 75) (np := 65) (by decide +kernel) (by decide) (by omega) (by decide) (fun q260 => ?_) (fun q261 => ?_)
          · have q260 : 2147483651 < v206 := q260
            exfalso; omega
          have q261 : ¬ (2147483651 < v206) := q261
          refine x_iload (np := 66) (x := 3) (by decide +kernel) rfl (by omega) ?_
          refine x_iload (np := 67) (x := 1) (by decide +kernel) rfl la1 ?_
          refine x_icmp (k := 2) (tg := 75) (np := 70) (by decide +kernel) (by decide) (by omega) la1 (fun q262 => ?_) (fun q263 => ?_)
          · have q262 : v204 < a1 := q262
            refine x_const (np := 76) (x := 9223372034707292159) (a := 2147483647) (by decide +kernel) (by decide) (by decide) ?_
            refine x_retI (np := 77) (x := 0) (by decide +kernel) (by decide) (Or.inl (by decide +kernel)) ⟨_, rfl, (by decide), ?_⟩
            exact ⟨hJ, hF, (by omega), (by omega)⟩
          have q263 : ¬ (v204 < a1) := q263
          refine x_iload (np := 71) (x := 3) (by decide +kernel) rfl (by omega) ?_
          refine x_iload (np := 72) (x := 2) (by decide +kernel) rfl la2 ?_
          refine x_icmp (k := 5) (tg := 77) (np := 75) (by decide +kernel) (by decide) (by omega) la2 (fun q264 => ?_) (fun q265 => ?_)
          · have q264 : v204 ≤ a2 := q264
            refine x_aload (np := 78) (x := 0) (by decide +kernel) rfl (x_nc_le (by decide)) ?_
            refine x_aload (np := 79) (x := 0) (by decide +kernel) rfl (x_nc_le (by decide)) ?_
            refine x_getC (np := 82) (x := 450) (f := 2) (q := (h 1 2)) (by decide +kernel) (by decide) (by decide +kernel) rfl (fun l266 => ?_)
            refine x_iload (np := 84) (x := 4) (by decide +kernel) rfl (by omega) ?_
            obtain ⟨v267, q268⟩ : ∃ z, z + 2147483648 = (h 1 2) + v206 := ⟨(h 1 2) + v206 - 2147483648, by omega⟩
            refine x_iadd (np := 85) (x := 0) (v := v267) (by decide +kernel) l219 (by omega) (by omega) (by omega) ?_
            refine x_cV (t := 6) (mj := 80) (n := 2) (rc := 8) (ml := 2) (nr := 0) (np := 88) (as := [x_r 1, iv_c v267]) (rest := []) (lo1 := [x_r 1, iv_c v267]) (by decide +kernel) (by decide) (by decide +kernel) (x_rb_of (by decide +kernel)) rfl rfl (x_wr (by decide) (x_wi (by omega) x_wn)) x_wn (by decide) rfl (c80_1n hJ  (by omega)) (fun h272 q271 => ?_)
            obtain ⟨j273, f274⟩ := q271
            have f277 := Fr.trans hF f274 (by decide)
            refine x_iload (np := 89) (x := 3) (by decide +kernel) rfl (by omega) ?_
            refine x_retI (np := 90) (x := 0) (by decide +kernel) (by omega) (Or.inl (by decide +kernel)) ⟨_, rfl, (by omega), ?_⟩
            exact ⟨j273, f277, (by omega), (by omega)⟩
          have q265 : ¬ (v204 ≤ a2) := q265
          refine x_const (np := 76) (x := 9223372034707292159) (a := 2147483647) (by decide +kernel) (by decide) (by decide) ?_
          refine x_retI (np := 77) (x := 0) (by decide +kernel) (by decide) (Or.inl (by decide +kernel)) ⟨_, rfl, (by decide), ?_⟩
          exact ⟨hJ, hF, (by omega), (by omega)⟩
        have q257 : ¬ (2147483648 = 2147483648) := q257
        exfalso; omega
      have q255 : ¬ ((h 2 u251) < 2147483696) := q255
      refine x_iload (np := 7) (x := 0) (by decide +kernel) rfl l253 ?_
      refine x_const (np := 9) (x := 9223372283815395385) (a := 2147483705) (by decide +kernel) (by decide) (by decide) ?_
      refine x_icmp (k := 4) (tg := 16) (np := 12) (by decide +kernel) (by decide) l253 (by decide) (fun q278 => ?_) (fun q279 => ?_)
      · have q278 : 2147483705 < (h 2 u251) := q278
        refine x_const (np := 17) (x := 9223372039002259456) (a := 2147483648) (by decide +kernel) (by decide) (by decide) ?_
        refine x_retI (np := 18) (x := 0) (by decide +kernel) (by decide) (Or.inr ⟨by decide +kernel, by omega, by omega⟩) ⟨_, rfl, (by decide), ?_⟩
        refine x_ifz (k := 0) (tg := 54) (np := 28) (by decide +kernel) (by decide) (by decide) (fun q280 => ?_) (fun q281 => ?_)
        · have q280 : 2147483648 = 2147483648 := q280
          refine x_iload (np := 56) (x := 4) (by decide +kernel) rfl (by omega) ?_
          refine x_ifz (k := 0) (tg := 75) (np := 59) (by decide +kernel) (by decide) (by omega) (fun q282 => ?_) (fun q283 => ?_)
          · have q282 : v206 = 2147483648 := q282
            refine x_const (np := 76) (x := 9223372034707292159) (a := 2147483647) (by decide +kernel) (by decide) (by decide) ?_
            refine x_retI (np := 77) (x := 0) (by decide +kernel) (by decide) (Or.inl (by decide +kernel)) ⟨_, rfl, (by decide), ?_⟩
            exact ⟨hJ, hF, (by omega), (by omega)⟩
          have q283 : ¬ (v206 = 2147483648) := q283
          refine x_iload (np := 61) (x := 4) (by decide +kernel) rfl (by omega) ?_
          refine x_const (np := 62) (x := 9223372051887161347) (a := 2147483651) (by decide +kernel) (by decide) (by decide) ?_
          refine x_icmp (k := 4) (tg := 75) (np := 65) (by decide +kernel) (by decide) (by omega) (by decide) (fun q284 => ?_) (fun q285 => ?_)
          · have q284 : 2147483651 < v206 := q284
            exfalso; omega
          have q285 : ¬ (2147483651 < v206) := q285
          refine x_iload (np := 66) (x := 3) (by decide +kernel) rfl (by omega) ?_
          refine x_iload (np := 67) (x := 1) (by decide +kernel) rfl la1 ?_
          refine x_icmp (k := 2) (tg := 75) (np := 70) (by decide +kernel) (by decide) (by omega) la1 (fun q286 => ?_) (fun q287 => ?_)
          · have q286 : v204 < a1 := q286
            refine x_const (np := 76) (x := 9223372034707292159) (a := 2147483647) (by decide +kernel) (by decide) (by decide) ?_
            refine x_retI (np := 77) (x := 0) (by decide +kernel) (by decide) (Or.inl (by decide +kernel)) ⟨_, rfl, (by decide), ?_⟩
            exact ⟨hJ, hF, (by omega), (by omega)⟩
          have q287 : ¬ (v204 < a1) := q287
          refine x_iload (np := 71) (x := 3) (by decide +kernel) rfl (by omega) ?_
          refine x_iload (np := 72) (x := 2) (by decide +kernel) rfl la2 ?_
          refine x_icmp (k := 5) (tg := 77) (np := 75) (by decide +kernel) (by decide) (by omega) la2 (fun q288 => ?_) (fun q289 => ?_)
          · have q288 : v204 ≤ a2 := q288
            refine x_aload (np := 78) (x := 0) (by decide +kernel) rfl (x_nc_le (by decide)) ?_
            refine x_aload (np := 79) (x := 0) (by decide +kernel) rfl (x_nc_le (by decide)) ?_
            refine x_getC (np := 82) (x := 450) (f := 2) (q := (h 1 2)) (by decide +kernel) (by decide) (by decide +kernel) rfl (fun l290 => ?_)
            refine x_iload (np := 84) (x := 4) (by decide +kernel) rfl (by omega) ?_
            obtain ⟨v291, q292⟩ : ∃ z, z + 2147483648 = (h 1 2) + v206 := ⟨(h 1 2) + v206 - 2147483648, by omega⟩
            refine x_iadd (np := 85) (x := 0) (v := v291) (by decide +kernel) l219 (by omega) (by omega) (by omega) ?_
            refine x_cV (t := 6) (mj := 80) (n := 2) (rc := 8) (ml := 2) (nr := 0) (np := 88) (as := [x_r 1, iv_c v291]) (rest := []) (lo1 := [x_r 1, iv_c v291]) (by decide +kernel) (by decide) (by decide +kernel) (x_rb_of (by decide +kernel)) rfl rfl (x_wr (by decide) (x_wi (by omega) x_wn)) x_wn (by decide) rfl (c80_1n hJ  (by omega)) (fun h296 q295 => ?_)
            obtain ⟨j297, f298⟩ := q295
            have f301 := Fr.trans hF f298 (by decide)
            refine x_iload (np := 89) (x := 3) (by decide +kernel) rfl (by omega) ?_
            refine x_retI (np := 90) (x := 0) (by decide +kernel) (by omega) (Or.inl (by decide +kernel)) ⟨_, rfl, (by omega), ?_⟩
            exact ⟨j297, f301, (by omega), (by omega)⟩
          have q289 : ¬ (v204 ≤ a2) := q289
          refine x_const (np := 76) (x := 9223372034707292159) (a := 2147483647) (by decide +kernel) (by decide) (by decide) ?_
          refine x_retI (np := 77) (x := 0) (by decide +kernel) (by decide) (Or.inl (by decide +kernel)) ⟨_, rfl, (by decide), ?_⟩
          exact ⟨hJ, hF, (by omega), (by omega)⟩
        have q281 : ¬ (2147483648 = 2147483648) := q281
        exfalso; omega
      have q279 : ¬ (2147483705 < (h 2 u251)) := q279
      refine x_const (np := 13) (x := 9223372043297226753) (a := 2147483649) (by decide +kernel) (by decide) (by decide) ?_
      refine x_goto (np := 16) (x := 17) (by decide +kernel) ?_
      refine x_retI (np := 18) (x := 0) (by decide +kernel) (by decide) (Or.inr ⟨by decide +kernel, by omega, by omega⟩) ⟨_, rfl, (by decide), ?_⟩
      refine x_ifz (k := 0) (tg := 54) (np := 28) (by decide +kernel) (by decide) (by decide) (fun q302 => ?_) (fun q303 => ?_)
      · have q302 : 2147483649 = 2147483648 := q302
        exfalso; omega
      have q303 : ¬ (2147483649 = 2147483648) := q303
      refine x_iload (np := 29) (x := 3) (by decide +kernel) rfl (by omega) ?_
      refine x_const (np := 31) (x := 9223372081951932426) (a := 2147483658) (by decide +kernel) (by decide) (by decide) ?_
      refine x_mulA (by rw [tb_b79]; decide +kernel) (by omega) (by decide) (fun v304 l305 => ?_)
      refine x_aload (np := 33) (x := 0) (by decide +kernel) rfl (x_nc_le (by decide)) ?_
      refine x_aload (np := 34) (x := 0) (by decide +kernel) rfl (x_nc_le (by decide)) ?_
      refine x_getC (np := 37) (x := 450) (f := 2) (q := (h 1 2)) (by decide +kernel) (by decide) (by decide +kernel) rfl (fun l306 => ?_)
      refine x_iload (np := 39) (x := 4) (by decide +kernel) rfl (by omega) ?_
      obtain ⟨v307, q308⟩ : ∃ z, z + 2147483648 = (h 1 2) + v206 := ⟨(h 1 2) + v206 - 2147483648, by omega⟩
      refine x_iadd (np := 40) (x := 0) (v := v307) (by decide +kernel) l219 (by omega) (by omega) (by omega) ?_
      refine x_nI (t := 6) (mj := 81) (n := 2) (rc := 8) (ml := 2) (nr := 1) (np := 43) (as := [x_r 1, iv_c v307]) (rest := [iv_c v304]) (lo1 := [x_r 1, iv_c v307]) (by decide +kernel) (by decide) (by decide +kernel) (x_rb_of (by decide +kernel)) rfl rfl (x_wr (by decide) (x_wi (by omega) x_wn)) (x_wi l305 x_wn) (by decide) rfl ?_
      refine x_iload (np := 1) (x := 1) (by decide +kernel) rfl (by omega) ?_
      refine x_aload (np := 2) (x := 0) (by decide +kernel) rfl (x_nc_le (by decide)) ?_
      refine x_getC (np := 5) (x := 449) (f := 1) (q := (h 1 1)) (by decide +kernel) (by decide) (by decide +kernel) rfl (fun l309 => ?_)
      refine x_icmp (k := 3) (tg := 17) (np := 8) (by decide +kernel) (by decide) (by omega) l223 (fun q310 => ?_) (fun q311 => ?_)
      · have q310 : (h 1 1) ≤ v307 := q310
        refine x_const (np := 18) (x := 9223372034707292159) (a := 2147483647) (by decide +kernel) (by decide) (by decide) ?_
        refine x_retI (np := 19) (x := 0) (by decide +kernel) (by decide) (Or.inl (by decide +kernel)) ⟨_, rfl, (by decide), ?_⟩
        refine x_addA (by rw [tb_b79]; decide +kernel) l305 (by decide) (fun v312 l313 => ?_)
        refine x_const (np := 46) (x := 9223372245160689712) (a := 2147483696) (by decide +kernel) (by decide) (by decide) ?_
        refine x_subA (by rw [tb_b79]; decide +kernel) l313 (by decide) (fun v314 l315 => ?_)
        refine x_istore (np := 48) (x := 3) (lo' := [x_r 1, iv_c a1, iv_c a2, iv_c v314, iv_c v206]) (by decide +kernel) l315 (Nat.le_of_ble_eq_true rfl) rfl ?_
        refine x_iinc (np := 51) (i := 4) (j := 2147483649) (v := (1 + v206)) (lo' := [x_r 1, iv_c a1, iv_c a2, iv_c v314, iv_c (1 + v206)]) (by decide +kernel) (by decide) (by decide) rfl (by omega) (by omega) (by omega) rfl ?_
        refine x_goto (np := 54) (x := 5) (by decide +kernel) ?_
        exact i212 v314 (1 + v206) (by omega) (by omega) (by omega) (by omega)
      have q311 : ¬ ((h 1 1) ≤ v307) := q311
      refine x_aload (np := 9) (x := 0) (by decide +kernel) rfl (x_nc_le (by decide)) ?_
      have q316 : h 1 0 = 2 := by have z := jB (e := 0) 0 hJ rg_1_0_0_1 (by decide) (by decide); omega
      refine x_getR (np := 12) (x := 448) (f := 0) (q := 2) (by decide +kernel) (by decide) (by decide +kernel) q316 ?_
      refine x_iload (np := 13) (x := 1) (by decide +kernel) rfl (by omega) ?_
      obtain ⟨u317, q318⟩ : ∃ z, v307 = 2147483648 + z := ⟨v307 - 2147483648, by omega⟩
      refine x_aldC (np := 14) (x := 0) (n := 400) (i := u317) (q := (h 2 u317)) (by decide +kernel) (by decide +kernel) (by omega) (by omega) (by decide) rfl (fun l319 => ?_)
      refine x_goto (np := 17) (x := 18) (by decide +kernel) ?_
      refine x_retI (np := 19) (x := 0) (by decide +kernel) l319 (Or.inl (by decide +kernel)) ⟨_, rfl, l319, ?_⟩
      refine x_addA (by rw [tb_b79]; decide +kernel) l305 l319 (fun v320 l321 => ?_)
      refine x_const (np := 46) (x := 9223372245160689712) (a := 2147483696) (by decide +kernel) (by decide) (by decide) ?_
      refine x_subA (by rw [tb_b79]; decide +kernel) l321 (by decide) (fun v322 l323 => ?_)
      refine x_istore (np := 48) (x := 3) (lo' := [x_r 1, iv_c a1, iv_c a2, iv_c v322, iv_c v206]) (by decide +kernel) l323 (Nat.le_of_ble_eq_true rfl) rfl ?_
      refine x_iinc (np := 51) (i := 4) (j := 2147483649) (v := (1 + v206)) (lo' := [x_r 1, iv_c a1, iv_c a2, iv_c v322, iv_c (1 + v206)]) (by decide +kernel) (by decide) (by decide) rfl (by omega) (by omega) (by omega) rfl ?_
      refine x_goto (np := 54) (x := 5) (by decide +kernel) ?_
      exact i212 v322 (1 + v206) (by omega) (by omega) (by omega) (by omega)
  have b324 := jB (e := 2) 0 hJ rg_1_2_0_1 (by omega) (by omega)
  exact p208 _ 2147483648 2147483648 (Nat.lt_succ_self _) (by omega) (by omega) (by omega)
set_option maxHeartbeats 0 in
/-- LentNames$Table.put(III)V -/
theorem c69_T7_c3 {sc : Nat × Nat} {d ra0 a1 a3 : Nat} {h : xh} (hJ : J h) (ta0 : tw ra0) (ba1 : 2147483647 ≤ a1 ∧ a1 ≤ 2147483657) (ba3 : 0 ≤ a3 ∧ a3 ≤ 2147483659) : X sc 69 d (xV fun h' => J h' ∧ Fr 129 h h') 0 0 0 [x_r (ra0 + 7), iv_c a1, iv_c 2147483651, iv_c a3, 147573952589676412928] [] h := by
  have la1 : a1 < 4294967296 := by omega
  have la3 : a3 < 4294967296 := by omega
  have hF := Fr.refl 129 h
  refine x_iload (np := 1) (x := 1) (by decide +kernel) rfl la1 ?_
  refine x_ifz (k := 2) (tg := 28) (np := 4) (by decide +kernel) (by decide) la1 (fun q1 => ?_) (fun q2 => ?_)
  · have q1 : a1 < 2147483648 := q1
    refine x_const (np := 29) (x := 9223372039002259456) (a := 2147483648) (by decide +kernel) (by decide) (by decide) ?_
    refine x_istore (np := 31) (x := 4) (lo' := [x_r (ra0 + 7), iv_c a1, iv_c 2147483651, iv_c a3, iv_c 2147483648]) (by decide +kernel) (by decide) (Nat.le_of_ble_eq_true rfl) rfl ?_
    refine x_iload (np := 33) (x := 4) (by decide +kernel) rfl (by decide) ?_
    refine x_ifz (k := 0) (tg := 50) (np := 36) (by decide +kernel) (by decide) (by decide) (fun q3 => ?_) (fun q4 => ?_)
    · have q3 : 2147483648 = 2147483648 := q3
      refine x_retV (np := 51) (x := 0) (by decide +kernel) (by decide +kernel) ⟨rfl, ?_⟩
      exact ⟨hJ, hF⟩
    have q4 : ¬ (2147483648 = 2147483648) := q4
    exfalso; omega
  have q2 : ¬ (a1 < 2147483648) := q2
  refine x_iload (np := 5) (x := 1) (by decide +kernel) rfl la1 ?_
  refine x_aload (np := 6) (x := 0) (by decide +kernel) rfl (x_nc_le (tn_7 ta0)) ?_
  have b5 := jB (e := 2) 0 hJ (rg_T7_2_0_1 ta0) (by omega) (by omega)
  refine x_getC (np := 9) (x := 386) (f := 2) (q := (h (ra0 + 7) 2)) (by decide +kernel) (by decide) (tg_7_386_2_0 ta0) rfl (fun l6 => ?_)
  refine x_icmp (k := 3) (tg := 28) (np := 12) (by decide +kernel) (by decide) la1 l6 (fun q7 => ?_) (fun q8 => ?_)
  · have q7 : (h (ra0 + 7) 2) ≤ a1 := q7
    refine x_const (np := 29) (x := 9223372039002259456) (a := 2147483648) (by decide +kernel) (by decide) (by decide) ?_
    refine x_istore (np := 31) (x := 4) (lo' := [x_r (ra0 + 7), iv_c a1, iv_c 2147483651, iv_c a3, iv_c 2147483648]) (by decide +kernel) (by decide) (Nat.le_of_ble_eq_true rfl) rfl ?_
    refine x_iload (np := 33) (x := 4) (by decide +kernel) rfl (by decide) ?_
    refine x_ifz (k := 0) (tg := 50) (np := 36) (by decide +kernel) (by decide) (by decide) (fun q9 => ?_) (fun q10 => ?_)
    · have q9 : 2147483648 = 2147483648 := q9
      refine x_retV (np := 51) (x := 0) (by decide +kernel) (by decide +kernel) ⟨rfl, ?_⟩
      exact ⟨hJ, hF⟩
    have q10 : ¬ (2147483648 = 2147483648) := q10
    exfalso; omega
  have q8 : ¬ ((h (ra0 + 7) 2) ≤ a1) := q8
  refine x_iload (np := 13) (x := 2) (by decide +kernel) rfl (by decide) ?_
  refine x_ifz (k := 2) (tg := 28) (np := 16) (by decide +kernel) (by decide) (by decide) (fun q11 => ?_) (fun q12 => ?_)
  · have q11 : 2147483651 < 2147483648 := q11
    exfalso; omega
  have q12 : ¬ (2147483651 < 2147483648) := q12
  refine x_iload (np := 17) (x := 2) (by decide +kernel) rfl (by decide) ?_
  refine x_aload (np := 18) (x := 0) (by decide +kernel) rfl (x_nc_le (tn_7 ta0)) ?_
  have b13 := jB (e := 0) 0 hJ (rg_T7_0_0_1 ta0) (by omega) (by omega)
  have q14 : (h (ra0 + 7) 0) = 2147483652 := by omega
  refine x_getC (np := 21) (x := 384) (f := 0) (q := 2147483652) (by decide +kernel) (by decide) (tg_7_384_0_0 ta0) q14 (fun l15 => ?_)
  refine x_icmp (k := 3) (tg := 28) (np := 24) (by decide +kernel) (by decide) (by decide) (by decide) (fun q16 => ?_) (fun q17 => ?_)
  · have q16 : 2147483652 ≤ 2147483651 := q16
    exfalso; omega
  have q17 : ¬ (2147483652 ≤ 2147483651) := q17
  refine x_const (np := 25) (x := 9223372043297226753) (a := 2147483649) (by decide +kernel) (by decide) (by decide) ?_
  refine x_goto (np := 28) (x := 29) (by decide +kernel) ?_
  refine x_istore (np := 31) (x := 4) (lo' := [x_r (ra0 + 7), iv_c a1, iv_c 2147483651, iv_c a3, iv_c 2147483649]) (by decide +kernel) (by decide) (Nat.le_of_ble_eq_true rfl) rfl ?_
  refine x_iload (np := 33) (x := 4) (by decide +kernel) rfl (by decide) ?_
  refine x_ifz (k := 0) (tg := 50) (np := 36) (by decide +kernel) (by decide) (by decide) (fun q18 => ?_) (fun q19 => ?_)
  · have q18 : 2147483649 = 2147483648 := q18
    exfalso; omega
  have q19 : ¬ (2147483649 = 2147483648) := q19
  refine x_aload (np := 37) (x := 0) (by decide +kernel) rfl (x_nc_le (tn_7 ta0)) ?_
  have q20 : h (ra0 + 7) 1 = (ra0 + 8) := tf_7_1 hJ ta0
  refine x_getR (np := 40) (x := 385) (f := 1) (q := (ra0 + 8)) (by decide +kernel) (by decide) (tg_7_385_1_1 ta0) q20 ?_
  refine x_iload (np := 41) (x := 1) (by decide +kernel) rfl la1 ?_
  refine x_aload (np := 42) (x := 0) (by decide +kernel) rfl (x_nc_le (tn_7 ta0)) ?_
  refine x_getC (np := 45) (x := 384) (f := 0) (q := 2147483652) (by decide +kernel) (by decide) (tg_7_384_0_0 ta0) q14 (fun l21 => ?_)
  obtain ⟨u22, q23⟩ : ∃ z, a1 = 2147483648 + z := ⟨a1 - 2147483648, by omega⟩
  refine x_imul (np := 46) (x := 0) (i := u22) (j := 4) (v := (2147483648 + 4 * u22)) (by decide +kernel) (by omega) (by omega) (by omega) (by omega) la1 (by decide) ?_
  refine x_iload (np := 47) (x := 2) (by decide +kernel) rfl (by decide) ?_
  refine x_iadd (np := 48) (x := 0) (v := (2147483651 + 4 * u22)) (by decide +kernel) (by omega) (by decide) (by omega) (by omega) ?_
  refine x_iload (np := 49) (x := 3) (by decide +kernel) rfl la3 ?_
  refine x_ast (np := 50) (x := 0) (kd := 1) (n := 40) (i := (3 + 4 * u22)) (by decide +kernel) (Or.inl rfl) (ta_8_40 ta0) (by omega) (by omega) (by decide) la3 (fun z => absurd z (by decide)) ?_
  have j26 := jU (e := (3 + 4 * u22)) (v := a3) u22 hJ (rg_T8_3_4_10 ta0) (by omega) (by omega) (by omega)
  have f28 := jF (e := (3 + 4 * u22)) (v := a3) u22 hF (rg_T8_3_4_10 ta0) (by omega) (by omega) (by decide)
  generalize e27 : x_up h (ra0 + 8) (3 + 4 * u22) a3 = h25 at j26 f28 ⊢
  refine x_retV (np := 51) (x := 0) (by decide +kernel) (by decide +kernel) ⟨rfl, ?_⟩
  exact ⟨j26, f28⟩
set_option maxHeartbeats 0 in
/-- LentNames$TownReader.readInto(LLentNames$Table;IIII)Z -/
theorem c102_61_T7_c3 {sc : Nat × Nat} {d ra1 a2 a4 a5 : Nat} {h : xh} (hJ : J h) (ta1 : tw ra1) (ba2 : 2147483647 ≤ a2 ∧ a2 ≤ 2147483657) (ba4 : 0 ≤ a4 ∧ a4 ≤ 4294967295) (ba5 : 2147483659 ≤ a5 ∧ a5 ≤ 2147483659) : X sc 102 (d + 2) (xI fun r h' => J h' ∧ Fr 161 h h' ∧ (2147483648 ≤ r ∧ r ≤ 2147483649)) 0 0 0 [x_r 61, x_r (ra1 + 7), iv_c a2, iv_c 2147483651, iv_c a4, iv_c a5, 147573952589676412928] [] h := by
  have la2 : a2 < 4294967296 := by omega
  have la4 : a4 < 4294967296 := by omega
  have la5 : a5 < 4294967296 := by omega
  have hF := Fr.refl 161 h
  refine x_aload (np := 1) (x := 0) (by decide +kernel) rfl (x_nc_le (by decide)) ?_
  have q1 : h 61 0 = 1 := by have z := jB (e := 0) 0 hJ rg_61_0_0_1 (by decide) (by decide); omega
  refine x_getR (np := 4) (x := 576) (f := 0) (q := 1) (by decide +kernel) (by decide) (by decide +kernel) q1 ?_
  refine x_iload (np := 6) (x := 4) (by decide +kernel) rfl la4 ?_
  refine x_iload (np := 8) (x := 5) (by decide +kernel) rfl la5 ?_
  refine x_cI (t := 6) (mj := 79) (n := 3) (rc := 8) (ml := 5) (nr := 0) (np := 11) (as := [x_r 1, iv_c a4, iv_c a5]) (rest := []) (lo1 := [x_r 1, iv_c a4, iv_c a5, 147573952589676412928, 147573952589676412928]) (by decide +kernel) (by decide) (by decide +kernel) (x_rb_of (by decide +kernel)) rfl rfl (x_wr (by decide) (x_wi la4 (x_wi la5 x_wn))) x_wn (by decide) rfl (c79_1 hJ  (by omega) (by omega)) (fun v2 h5 l3 q4 => ?_)
  obtain ⟨j6, f7, b8, c9⟩ := q4
  have f10 := Fr.trans hF f7 (by decide)
  refine x_istore (np := 13) (x := 6) (lo' := [x_r 61, x_r (ra1 + 7), iv_c a2, iv_c 2147483651, iv_c a4, iv_c a5, iv_c v2]) (by decide +kernel) l3 (Nat.le_of_ble_eq_true rfl) rfl ?_
  refine x_iload (np := 15) (x := 6) (by decide +kernel) rfl l3 ?_
  refine x_const (np := 16) (x := 9223372034707292159) (a := 2147483647) (by decide +kernel) (by decide) (by decide) ?_
  refine x_icmp (k := 1) (tg := 21) (np := 19) (by decide +kernel) (by decide) l3 (by decide) (fun q11 => ?_) (fun q12 => ?_)
  · have q11 : v2 ≠ 2147483647 := q11
    refine x_aload (np := 22) (x := 1) (by decide +kernel) rfl (x_nc_le (tn_7 ta1)) ?_
    refine x_iload (np := 23) (x := 2) (by decide +kernel) rfl la2 ?_
    refine x_iload (np := 24) (x := 3) (by decide +kernel) rfl (by decide) ?_
    refine x_iload (np := 26) (x := 6) (by decide +kernel) rfl l3 ?_
    refine x_cV (t := 6) (mj := 69) (n := 4) (rc := 7) (ml := 5) (nr := 0) (np := 29) (as := [x_r (ra1 + 7), iv_c a2, iv_c 2147483651, iv_c v2]) (rest := []) (lo1 := [x_r (ra1 + 7), iv_c a2, iv_c 2147483651, iv_c v2, 147573952589676412928]) (by decide +kernel) (by decide) (by decide +kernel) (x_rb_of (tr_7_7 ta1)) rfl rfl (x_wr (tn_7 ta1) (x_wi la2 (x_wi (by decide) (x_wi l3 x_wn)))) x_wn (by decide) rfl (c69_T7_c3 j6 ta1 (by omega)  (by omega)) (fun h16 q15 => ?_)
    obtain ⟨j17, f18⟩ := q15
    have f21 := Fr.trans f10 f18 (by decide)
    refine x_const (np := 30) (x := 9223372043297226753) (a := 2147483649) (by decide +kernel) (by decide) (by decide) ?_
    refine x_retI (np := 31) (x := 0) (by decide +kernel) (by decide) (Or.inr ⟨by decide +kernel, by omega, by omega⟩) ⟨_, rfl, (by decide), ?_⟩
    exact ⟨j17, f21, (by omega)⟩
  have q12 : ¬ (v2 ≠ 2147483647) := q12
  refine x_const (np := 20) (x := 9223372039002259456) (a := 2147483648) (by decide +kernel) (by decide) (by decide) ?_
  refine x_retI (np := 21) (x := 0) (by decide +kernel) (by decide) (Or.inr ⟨by decide +kernel, by omega, by omega⟩) ⟨_, rfl, (by decide), ?_⟩
  exact ⟨j6, f10, (by omega)⟩
