/-! ===== methods ===== -/
set_option maxHeartbeats 0 in
/-- LentNames$Tape.moveTo(I)V -/
theorem c80_1 {sc : Nat × Nat} {d a1 : Nat} {h : xh} {tB : Nat → Nat} {tN : Nat} (hJ : J h) (ba1 : 2147483648 ≤ a1 ∧ a1 ≤ 2147484048) (hT : Tp tB tN h) : X sc 80 d (xV fun h' => J h' ∧ Fr 33 h h' ∧ (a1 ≤ h' 1 2) ∧ h' 1 2 = sk tB tN a1) 0 0 0 [x_r 1, iv_c a1] [] h := by
  have la1 : a1 < 4294967296 := by first | decide | omega
  have hF := Fr.refl 33 h
  refine x_aload (np := 1) (x := 0) (by decide +kernel) rfl (x_nc_le (by decide)) ?_
  refine x_iload (np := 2) (x := 1) (by decide +kernel) rfl la1 ?_
  refine x_putI (np := 5) (x := 450) (f := 2) (by decide +kernel) (by decide +kernel) la1 (Or.inl (by decide)) ?_
  have j2 := jU (e := 2) (v := a1) 0 hJ rg_1_2_0_1 (by first | decide | omega) (by first | decide | omega) (by first | decide | omega)
  have f4 := jF (e := 2) (v := a1) 0 hF rg_1_2_0_1 (by first | decide | omega) (by first | decide | omega) (by decide)
  generalize e3 : x_up h 1 2 a1 = h1 at j2 f4 ⊢
  have p57 : ∀ (n : Nat) (h54 : xh), 4294967296 - h54 1 2 < n → a1 ≤ h54 1 2 → J h54 → Fr 32 h1 h54 → sk tB tN a1 = sk tB tN (h54 1 2) → X sc 80 d (xV fun h' => J h' ∧ Fr 33 h h' ∧ (a1 ≤ h' 1 2) ∧ h' 1 2 = sk tB tN a1) 0 0 5 [x_r 1, iv_c a1] [] h54 := by
    intro n
    induction n with
    | zero => intro h54 q60; exact absurd q60 (Nat.not_lt_zero _)
    | succ n i61 =>
      intro h54 q60 b58 j56 f55 m59
      have f62 := Fr.trans f4 f55 (by decide)
      refine x_aload (np := 6) (x := 0) (by decide +kernel) rfl (x_nc_le (by decide)) ?_
      have b63 := jB (e := 2) 0 j56 rg_1_2_0_1 (by first | decide | omega) (by first | decide | omega)
      refine x_getC (np := 9) (x := 450) (f := 2) (q := (h54 1 2)) (by decide +kernel) (by decide) (by decide +kernel) rfl (fun l64 => ?_)
      refine x_aload (np := 10) (x := 0) (by decide +kernel) rfl (x_nc_le (by decide)) ?_
      have q65 : h54 1 1 = h1 1 1 := jK 0 f55 rg_1_1_0_1 (by first | decide | omega) (by first | decide | omega) (by decide)
      have q66 : h1 1 1 = h 1 1 := by rw [← e3]; exact x_up_i (by first | decide | omega)
      have b67 := jB (e := 1) 0 hJ rg_1_1_0_1 (by first | decide | omega) (by first | decide | omega)
      refine x_getC (np := 13) (x := 449) (f := 1) (q := (h 1 1)) (by decide +kernel) (by decide) (by decide +kernel) (q65.trans q66) (fun l68 => ?_)
      refine x_icmp (k := 3) (tg := 43) (np := 16) (by decide +kernel) (by decide) l64 l68 (fun q69 => ?_) (fun q70 => ?_)
      · have q69 : (h 1 1) ≤ (h54 1 2) := q69
        have q71 : h54 1 1 = h1 1 1 := jK 0 f55 rg_1_1_0_1 (by first | decide | omega) (by first | decide | omega) (by decide)
        have q72 : h1 1 1 = h 1 1 := by rw [← e3]; exact x_up_i (by first | decide | omega)
        have m75 : Tp tB tN h1 := by rw [← e3]; exact Tp.oth hT (by decide) (by decide)
        have m74 := Tp.fr m75 f55 (by decide) (by decide)
        have z73 := m74.1
        refine x_retV (np := 44) (x := 0) (by decide +kernel) (by decide +kernel) ⟨rfl, ?_⟩
        exact ⟨j56, f62, (by first | decide | omega), ((m59.trans (sk_stop (by first | decide | omega))).symm)⟩
      have q70 : ¬ ((h 1 1) ≤ (h54 1 2)) := q70
      refine x_aload (np := 17) (x := 0) (by decide +kernel) rfl (x_nc_le (by decide)) ?_
      have q76 : h54 1 0 = 2 := by have z := jB (e := 0) 0 j56 rg_1_0_0_1 (by decide) (by decide); omega
      refine x_getR (np := 20) (x := 448) (f := 0) (q := 2) (by decide +kernel) (by decide) (by decide +kernel) q76 ?_
      refine x_aload (np := 21) (x := 0) (by decide +kernel) rfl (x_nc_le (by decide)) ?_
      refine x_getC (np := 24) (x := 450) (f := 2) (q := (h54 1 2)) (by decide +kernel) (by decide) (by decide +kernel) rfl (fun l77 => ?_)
      obtain ⟨u78, q79⟩ : ∃ z, (h54 1 2) = 2147483648 + z := ⟨(h54 1 2) - 2147483648, by first | decide | omega⟩
      have q80 : h54 2 u78 = h1 2 u78 := jK u78 f55 rg_2_0_1_400 (by first | decide | omega) (by first | decide | omega) (by decide)
      have q81 : h1 2 u78 = h 2 u78 := by rw [← e3]; exact x_up_k (by decide)
      refine x_aldC (np := 25) (x := 0) (n := 400) (i := u78) (q := (h 2 u78)) (by decide +kernel) (by decide +kernel) (by first | decide | omega) (by first | decide | omega) (by decide) (q80.trans q81) (fun l82 => ?_)
      refine x_const (np := 27) (x := 9223372176441212960) (a := 2147483680) (by decide +kernel) (by decide) (by decide) ?_
      refine x_icmp (k := 1) (tg := 43) (np := 30) (by decide +kernel) (by decide) l82 (by decide) (fun q83 => ?_) (fun q84 => ?_)
      · have q83 : (h 2 u78) ≠ 2147483680 := q83
        have q85 : h54 1 1 = h1 1 1 := jK 0 f55 rg_1_1_0_1 (by first | decide | omega) (by first | decide | omega) (by decide)
        have q86 : h1 1 1 = h 1 1 := by rw [← e3]; exact x_up_i (by first | decide | omega)
        have m89 : Tp tB tN h1 := by rw [← e3]; exact Tp.oth hT (by decide) (by decide)
        have m88 := Tp.fr m89 f55 (by decide) (by decide)
        have z87 := m88.1
        have q90 : h54 2 u78 = h1 2 u78 := jK u78 f55 rg_2_0_1_400 (by first | decide | omega) (by first | decide | omega) (by decide)
        have q91 : h1 2 u78 = h 2 u78 := by rw [← e3]; exact x_up_k (by decide)
        have z92 := Tp.at (p := (h54 1 2)) (u := u78) m88 (by first | decide | omega) (by first | decide | omega)
        refine x_retV (np := 44) (x := 0) (by decide +kernel) (by decide +kernel) ⟨rfl, ?_⟩
        exact ⟨j56, f62, (by first | decide | omega), ((m59.trans (sk_stop (by first | decide | omega))).symm)⟩
      have q84 : ¬ ((h 2 u78) ≠ 2147483680) := q84
      refine x_aload (np := 31) (x := 0) (by decide +kernel) rfl (x_nc_le (by decide)) ?_
      refine x_dup (np := 32) (x := 0) (by decide +kernel) (by have z := x_nc_le (k := 1) (by decide); unfold x_r; omega) ?_
      refine x_getC (np := 35) (x := 450) (f := 2) (q := (h54 1 2)) (by decide +kernel) (by decide) (by decide +kernel) rfl (fun l93 => ?_)
      refine x_const (np := 36) (x := 9223372043297226753) (a := 2147483649) (by decide +kernel) (by decide) (by decide) ?_
      refine x_iadd (np := 37) (x := 0) (v := (1 + (h54 1 2))) (by decide +kernel) l64 (by decide) (by first | decide | omega) (by first | decide | omega) ?_
      refine x_putI (np := 40) (x := 450) (f := 2) (by decide +kernel) (by decide +kernel) (by first | decide | omega) (Or.inl (by decide)) ?_
      have j95 := jU (e := 2) (v := (1 + (h54 1 2))) 0 j56 rg_1_2_0_1 (by first | decide | omega) (by first | decide | omega) (by first | decide | omega)
      have f97 := jF (e := 2) (v := (1 + (h54 1 2))) 0 f62 rg_1_2_0_1 (by first | decide | omega) (by first | decide | omega) (by decide)
      have f98 := jF (e := 2) (v := (1 + (h54 1 2))) 0 f55 rg_1_2_0_1 (by first | decide | omega) (by first | decide | omega) (by decide)
      generalize e96 : x_up h54 1 2 (1 + (h54 1 2)) = h94 at j95 f97 f98 ⊢
      refine x_goto (np := 43) (x := 5) (by decide +kernel) ?_
      have q99 : h94 1 2 = (1 + (h54 1 2)) := by rw [← e96]; exact x_up_at
      have q100 : h94 1 2 = (1 + (h54 1 2)) := by rw [← e96]; exact x_up_at
      have q101 : h54 1 1 = h1 1 1 := jK 0 f55 rg_1_1_0_1 (by first | decide | omega) (by first | decide | omega) (by decide)
      have q102 : h1 1 1 = h 1 1 := by rw [← e3]; exact x_up_i (by first | decide | omega)
      have m105 : Tp tB tN h1 := by rw [← e3]; exact Tp.oth hT (by decide) (by decide)
      have m104 := Tp.fr m105 f55 (by decide) (by decide)
      have z103 := m104.1
      have q106 : h54 2 u78 = h1 2 u78 := jK u78 f55 rg_2_0_1_400 (by first | decide | omega) (by first | decide | omega) (by decide)
      have q107 : h1 2 u78 = h 2 u78 := by rw [← e3]; exact x_up_k (by decide)
      have z108 := Tp.at (p := (h54 1 2)) (u := u78) m104 (by first | decide | omega) (by first | decide | omega)
      have q109 : h94 1 2 = (1 + (h54 1 2)) := by rw [← e96]; exact x_up_at
      exact i61  h94 (by first | decide | omega) (by first | decide | omega) j95 f98 (m59.trans ((sk_step (by first | decide | omega) (by first | decide | omega)).trans (congrArg (sk tB tN) (show h54 1 2 + 1 = h94 1 2 by first | decide | omega))))
  have q110 : h1 1 2 = a1 := by rw [← e3]; exact x_up_at
  have q111 : h1 1 2 = a1 := by rw [← e3]; exact x_up_at
  exact p57 _  h1 (Nat.lt_succ_self _) (by first | decide | omega) j2 (Fr.refl _ _) (congrArg (sk tB tN) (show a1 = h1 1 2 by first | decide | omega))
set_option maxHeartbeats 0 in
/-- LentNames$Tape.isWord(Ljava/lang/String;)Z -/
theorem c77_1_S0 {sc : Nat × Nat} {d ia1 : Nat} {h : xh} {tB : Nat → Nat} {tN : Nat} (hJ : J h) (hia1 : ia1 < 32) (hT : Tp tB tN h) : X sc 77 (d + 4) (xI fun r h' => h' = h ∧ (2147483648 ≤ r ∧ r ≤ 2147483649) ∧ (r = 2147483649 → h 1 2 + iv_tl ia1 ≤ 2147484048) ∧ Is (Wd tB tN ia1 (h 1 2)) r) 0 0 0 [x_r 1, x_b (ia1 + 1), 147573952589676412928, 147573952589676412928] [] h := by
  refine x_aload (np := 1) (x := 0) (by decide +kernel) rfl (x_nc_le (by decide)) ?_
  have b1 := jB (e := 2) 0 hJ rg_1_2_0_1 (by first | decide | omega) (by first | decide | omega)
  refine x_getC (np := 4) (x := 450) (f := 2) (q := (h 1 2)) (by decide +kernel) (by decide) (by decide +kernel) rfl (fun l2 => ?_)
  refine x_aloadB (i := ia1) (k4 := 1) rfl hia1 (by rw [tb_b77]; decide +kernel) ?_
  have b3 := (iv_tl_lt ia1 hia1).1
  have b4 := iv_tl_ge ia1 hia1
  refine x_len (by decide +kernel) (by rw [tb_y77]; exact sl_Tl) hia1 (by rw [tb_b77]; decide +kernel) (Nat.le_trans (x_wi l2 x_wn) (by decide)) ?_
  refine x_iadd (np := 9) (x := 0) (v := ((h 1 2) + (iv_tl ia1))) (by decide +kernel) l2 (by first | decide | omega) (by first | decide | omega) (by first | decide | omega) ?_
  refine x_istore (np := 10) (x := 2) (lo' := [x_r 1, x_b (ia1 + 1), iv_c ((h 1 2) + (iv_tl ia1)), 147573952589676412928]) (by decide +kernel) (by first | decide | omega) (Nat.le_of_ble_eq_true rfl) rfl ?_
  refine x_iload (np := 11) (x := 2) (by decide +kernel) rfl (by first | decide | omega) ?_
  refine x_aload (np := 12) (x := 0) (by decide +kernel) rfl (x_nc_le (by decide)) ?_
  have b5 := jB (e := 1) 0 hJ rg_1_1_0_1 (by first | decide | omega) (by first | decide | omega)
  refine x_getC (np := 15) (x := 449) (f := 1) (q := (h 1 1)) (by decide +kernel) (by decide) (by decide +kernel) rfl (fun l6 => ?_)
  refine x_icmp (k := 5) (tg := 20) (np := 18) (by decide +kernel) (by decide) (by first | decide | omega) l6 (fun q7 => ?_) (fun q8 => ?_)
  · have q7 : ((h 1 2) + (iv_tl ia1)) ≤ (h 1 1) := q7
    refine x_aload (np := 21) (x := 0) (by decide +kernel) rfl (x_nc_le (by decide)) ?_
    refine x_getC (np := 24) (x := 450) (f := 2) (q := (h 1 2)) (by decide +kernel) (by decide) (by decide +kernel) rfl (fun l9 => ?_)
    refine x_istore (np := 25) (x := 3) (lo' := [x_r 1, x_b (ia1 + 1), iv_c ((h 1 2) + (iv_tl ia1)), iv_c (h 1 2)]) (by decide +kernel) l2 (Nat.le_of_ble_eq_true rfl) rfl ?_
    have p76 : ∀ (n : Nat) (v74 : Nat), 4294967296 - v74 < n → (2147483648 ≤ v74 ∧ v74 ≤ 2147484479) → (h 1 2) ≤ v74 → (∀ j, j < v74 - h 1 2 → tB (h 1 2 + j) = 2147483648 + iv_tc ia1 j) → X sc 77 (d + 4) (xI fun r h' => h' = h ∧ (2147483648 ≤ r ∧ r ≤ 2147483649) ∧ (r = 2147483649 → h 1 2 + iv_tl ia1 ≤ 2147484048) ∧ Is (Wd tB tN ia1 (h 1 2)) r) 0 0 25 [x_r 1, x_b (ia1 + 1), iv_c ((h 1 2) + (iv_tl ia1)), iv_c v74] [] h := by
      intro n
      induction n with
      | zero => intro v74 q79; exact absurd q79 (Nat.not_lt_zero _)
      | succ n i80 =>
        intro v74 q79 b75 b77 m78
        refine x_iload (np := 26) (x := 3) (by decide +kernel) rfl (by first | decide | omega) ?_
        refine x_iload (np := 27) (x := 2) (by decide +kernel) rfl (by first | decide | omega) ?_
        refine x_icmp (k := 3) (tg := 57) (np := 30) (by decide +kernel) (by decide) (by first | decide | omega) (by first | decide | omega) (fun q81 => ?_) (fun q82 => ?_)
        · have q81 : ((h 1 2) + (iv_tl ia1)) ≤ v74 := q81
          refine x_iload (np := 58) (x := 2) (by decide +kernel) rfl (by first | decide | omega) ?_
          refine x_aload (np := 59) (x := 0) (by decide +kernel) rfl (x_nc_le (by decide)) ?_
          refine x_getC (np := 62) (x := 449) (f := 1) (q := (h 1 1)) (by decide +kernel) (by decide) (by decide +kernel) rfl (fun l83 => ?_)
          refine x_icmp (k := 0) (tg := 87) (np := 65) (by decide +kernel) (by decide) (by first | decide | omega) l6 (fun q84 => ?_) (fun q85 => ?_)
          · have q84 : ((h 1 2) + (iv_tl ia1)) = (h 1 1) := q84
            refine x_const (np := 88) (x := 9223372043297226753) (a := 2147483649) (by decide +kernel) (by decide) (by decide) ?_
            refine x_goto (np := 91) (x := 92) (by decide +kernel) ?_
            have z86 := hT.1
            refine x_retI (np := 93) (x := 0) (by decide +kernel) (by decide) (Or.inr ⟨by decide +kernel, by first | decide | omega, by first | decide | omega⟩) ⟨_, rfl, (by decide), ?_⟩
            exact ⟨rfl, (by first | decide | omega), (fun z => by first | decide | omega), (Is.mk1 (by first | decide | omega) ⟨by first | decide | omega, fun j hj => m78 j (by first | decide | omega), fun z => by have z1 := z.1; have z2 := z.2.1; have z3 := z.2.2; omega⟩)⟩
          have q85 : ¬ (((h 1 2) + (iv_tl ia1)) = (h 1 1)) := q85
          refine x_aload (np := 66) (x := 0) (by decide +kernel) rfl (x_nc_le (by decide)) ?_
          have q87 : h 1 0 = 2 := by have z := jB (e := 0) 0 hJ rg_1_0_0_1 (by decide) (by decide); omega
          refine x_getR (np := 69) (x := 448) (f := 0) (q := 2) (by decide +kernel) (by decide) (by decide +kernel) q87 ?_
          refine x_iload (np := 70) (x := 2) (by decide +kernel) rfl (by first | decide | omega) ?_
          obtain ⟨u88, q89⟩ : ∃ z, (h 1 2) = 2147483648 + z := ⟨(h 1 2) - 2147483648, by first | decide | omega⟩
          refine x_aldC (np := 71) (x := 0) (n := 400) (i := ((iv_tl ia1) + u88)) (q := (h 2 ((iv_tl ia1) + u88))) (by decide +kernel) (by decide +kernel) (by first | decide | omega) (by first | decide | omega) (by decide) rfl (fun l90 => ?_)
          refine x_const (np := 73) (x := 9223372455614087265) (a := 2147483745) (by decide +kernel) (by decide) (by decide) ?_
          refine x_icmp (k := 2) (tg := 87) (np := 76) (by decide +kernel) (by decide) l90 (by decide) (fun q91 => ?_) (fun q92 => ?_)
          · have q91 : (h 2 ((iv_tl ia1) + u88)) < 2147483745 := q91
            refine x_const (np := 88) (x := 9223372043297226753) (a := 2147483649) (by decide +kernel) (by decide) (by decide) ?_
            refine x_goto (np := 91) (x := 92) (by decide +kernel) ?_
            have z93 := hT.1
            have z94 := Tp.at (p := (h 1 2 + iv_tl ia1)) (u := ((iv_tl ia1) + u88)) hT (by first | decide | omega) (by first | decide | omega)
            refine x_retI (np := 93) (x := 0) (by decide +kernel) (by decide) (Or.inr ⟨by decide +kernel, by first | decide | omega, by first | decide | omega⟩) ⟨_, rfl, (by decide), ?_⟩
            exact ⟨rfl, (by first | decide | omega), (fun z => by first | decide | omega), (Is.mk1 (by first | decide | omega) ⟨by first | decide | omega, fun j hj => m78 j (by first | decide | omega), fun z => by have z1 := z.1; have z2 := z.2.1; have z3 := z.2.2; omega⟩)⟩
          have q92 : ¬ ((h 2 ((iv_tl ia1) + u88)) < 2147483745) := q92
          refine x_aload (np := 77) (x := 0) (by decide +kernel) rfl (x_nc_le (by decide)) ?_
          have q95 : h 1 0 = 2 := by have z := jB (e := 0) 0 hJ rg_1_0_0_1 (by decide) (by decide); omega
          refine x_getR (np := 80) (x := 448) (f := 0) (q := 2) (by decide +kernel) (by decide) (by decide +kernel) q95 ?_
          refine x_iload (np := 81) (x := 2) (by decide +kernel) rfl (by first | decide | omega) ?_
          refine x_aldC (np := 82) (x := 0) (n := 400) (i := ((iv_tl ia1) + u88)) (q := (h 2 ((iv_tl ia1) + u88))) (by decide +kernel) (by decide +kernel) (by first | decide | omega) (by first | decide | omega) (by decide) rfl (fun l96 => ?_)
          refine x_const (np := 84) (x := 9223372562988269690) (a := 2147483770) (by decide +kernel) (by decide) (by decide) ?_
          refine x_icmp (k := 5) (tg := 91) (np := 87) (by decide +kernel) (by decide) l90 (by decide) (fun q97 => ?_) (fun q98 => ?_)
          · have q97 : (h 2 ((iv_tl ia1) + u88)) ≤ 2147483770 := q97
            refine x_const (np := 92) (x := 9223372039002259456) (a := 2147483648) (by decide +kernel) (by decide) (by decide) ?_
            have z99 := hT.1
            have z100 := Tp.at (p := (h 1 2 + iv_tl ia1)) (u := ((iv_tl ia1) + u88)) hT (by first | decide | omega) (by first | decide | omega)
            refine x_retI (np := 93) (x := 0) (by decide +kernel) (by decide) (Or.inr ⟨by decide +kernel, by first | decide | omega, by first | decide | omega⟩) ⟨_, rfl, (by decide), ?_⟩
            exact ⟨rfl, (by first | decide | omega), (fun z => by first | decide | omega), (Is.mk0 (by first | decide | omega) (fun z => z.2.2 ⟨by first | decide | omega, by first | decide | omega, by first | decide | omega⟩))⟩
          have q98 : ¬ ((h 2 ((iv_tl ia1) + u88)) ≤ 2147483770) := q98
          refine x_const (np := 88) (x := 9223372043297226753) (a := 2147483649) (by decide +kernel) (by decide) (by decide) ?_
          refine x_goto (np := 91) (x := 92) (by decide +kernel) ?_
          have z101 := hT.1
          have z102 := Tp.at (p := (h 1 2 + iv_tl ia1)) (u := ((iv_tl ia1) + u88)) hT (by first | decide | omega) (by first | decide | omega)
          refine x_retI (np := 93) (x := 0) (by decide +kernel) (by decide) (Or.inr ⟨by decide +kernel, by first | decide | omega, by first | decide | omega⟩) ⟨_, rfl, (by decide), ?_⟩
          exact ⟨rfl, (by first | decide | omega), (fun z => by first | decide | omega), (Is.mk1 (by first | decide | omega) ⟨by first | decide | omega, fun j hj => m78 j (by first | decide | omega), fun z => by have z1 := z.1; have z2 := z.2.1; have z3 := z.2.2; omega⟩)⟩
        have q82 : ¬ (((h 1 2) + (iv_tl ia1)) ≤ v74) := q82
        refine x_aload (np := 31) (x := 0) (by decide +kernel) rfl (x_nc_le (by decide)) ?_
        have q103 : h 1 0 = 2 := by have z := jB (e := 0) 0 hJ rg_1_0_0_1 (by decide) (by decide); omega
        refine x_getR (np := 34) (x := 448) (f := 0) (q := 2) (by decide +kernel) (by decide) (by decide +kernel) q103 ?_
        refine x_iload (np := 35) (x := 3) (by decide +kernel) rfl (by first | decide | omega) ?_
        obtain ⟨u104, q105⟩ : ∃ z, v74 = 2147483648 + z := ⟨v74 - 2147483648, by first | decide | omega⟩
        refine x_aldC (np := 36) (x := 0) (n := 400) (i := u104) (q := (h 2 u104)) (by decide +kernel) (by decide +kernel) (by first | decide | omega) (by first | decide | omega) (by decide) rfl (fun l106 => ?_)
        refine x_aloadB (i := ia1) (k4 := 1) rfl hia1 (by rw [tb_b77]; decide +kernel) ?_
        refine x_iload (np := 38) (x := 3) (by decide +kernel) rfl (by first | decide | omega) ?_
        refine x_aload (np := 39) (x := 0) (by decide +kernel) rfl (x_nc_le (by decide)) ?_
        refine x_getC (np := 42) (x := 450) (f := 2) (q := (h 1 2)) (by decide +kernel) (by decide) (by decide +kernel) rfl (fun l107 => ?_)
        obtain ⟨v108, q109⟩ : ∃ z, z + (h 1 2) = v74 + 2147483648 := ⟨v74 + 2147483648 - (h 1 2), by first | decide | omega⟩
        refine x_isub (np := 43) (x := 0) (v := v108) (by decide +kernel) (by first | decide | omega) l2 (by first | decide | omega) (by first | decide | omega) ?_
        obtain ⟨u111, q112⟩ : ∃ z, v108 = 2147483648 + z := ⟨v108 - 2147483648, by first | decide | omega⟩
        have b110 := (iv_tl_lt ia1 hia1).2 u111 (by first | decide | omega)
        refine x_chr (j := u111) (by decide +kernel) (by rw [tb_y77]; exact sl_Tc) hia1 (by first | decide | omega) (by first | decide | omega) (by rw [tb_b77]; decide +kernel) (Nat.le_trans (x_wi l106 x_wn) (by decide)) ?_
        refine x_icmp (k := 0) (tg := 51) (np := 49) (by decide +kernel) (by decide) l106 (by first | decide | omega) (fun q113 => ?_) (fun q114 => ?_)
        · have q113 : (h 2 u104) = (2147483648 + (iv_tc ia1 u111)) := q113
          refine x_iinc (np := 54) (i := 3) (j := 2147483649) (v := (1 + v74)) (lo' := [x_r 1, x_b (ia1 + 1), iv_c ((h 1 2) + (iv_tl ia1)), iv_c (1 + v74)]) (by decide +kernel) (by decide) (by decide) rfl (by first | decide | omega) (by first | decide | omega) (by first | decide | omega) rfl ?_
          refine x_goto (np := 57) (x := 25) (by decide +kernel) ?_
          have z115 := Tp.at (p := (h 1 2 + u111)) (u := u104) hT (by first | decide | omega) (by first | decide | omega)
          exact i80 (1 + v74) (by first | decide | omega) (by first | decide | omega) (by first | decide | omega) (wIn_st (x := u111) m78 (by first | decide | omega) (by first | decide | omega) (by first | decide | omega))
        have q114 : ¬ ((h 2 u104) = (2147483648 + (iv_tc ia1 u111))) := q114
        refine x_const (np := 50) (x := 9223372039002259456) (a := 2147483648) (by decide +kernel) (by decide) (by decide) ?_
        have z116 := hT.1
        have z117 := Tp.at (p := (h 1 2 + u111)) (u := u104) hT (by first | decide | omega) (by first | decide | omega)
        refine x_retI (np := 51) (x := 0) (by decide +kernel) (by decide) (Or.inr ⟨by decide +kernel, by first | decide | omega, by first | decide | omega⟩) ⟨_, rfl, (by decide), ?_⟩
        exact ⟨rfl, (by first | decide | omega), (fun z => by first | decide | omega), (Is.mk0 (by first | decide | omega) (fun z => by have z1 := z.2.1 u111 (by first | decide | omega); omega))⟩
    exact p76 _ (h 1 2) (Nat.lt_succ_self _) (by first | decide | omega) (by first | decide | omega) (fun j hj => absurd hj (by first | decide | omega))
  have q8 : ¬ (((h 1 2) + (iv_tl ia1)) ≤ (h 1 1)) := q8
  refine x_const (np := 19) (x := 9223372039002259456) (a := 2147483648) (by decide +kernel) (by decide) (by decide) ?_
  have z118 := hT.1
  refine x_retI (np := 20) (x := 0) (by decide +kernel) (by decide) (Or.inr ⟨by decide +kernel, by first | decide | omega, by first | decide | omega⟩) ⟨_, rfl, (by decide), ?_⟩
  exact ⟨rfl, (by first | decide | omega), (fun z => by first | decide | omega), (Is.mk0 (by first | decide | omega) (fun z => by have z1 := z.1; omega))⟩
set_option maxHeartbeats 0 in
/-- LentNames$Tape.takesWord(Ljava/lang/String;)Z -/
theorem c78_1_S0 {sc : Nat × Nat} {d ia1 : Nat} {h : xh} {tB : Nat → Nat} {tN : Nat} (hJ : J h) (hia1 : ia1 < 32) (hT : Tp tB tN h) : X sc 78 (d + 5) (xI fun r h' => J h' ∧ Fr 33 h h' ∧ (2147483648 ≤ r ∧ r ≤ 2147483649) ∧ (r = 2147483649 → h 1 2 + iv_tl ia1 ≤ h' 1 2) ∧ (r = 2147483648 → h' 1 2 = h 1 2) ∧ Tk (Wd tB tN ia1 (h 1 2)) tB tN (h 1 2) (iv_tl ia1) r (h' 1 2)) 0 0 0 [x_r 1, x_b (ia1 + 1)] [] h := by
  have hF := Fr.refl 33 h
  refine x_aload (np := 1) (x := 0) (by decide +kernel) rfl (x_nc_le (by decide)) ?_
  refine x_aloadB (i := ia1) (k4 := 1) rfl hia1 (by rw [tb_b78]; decide +kernel) ?_
  refine x_cP (t := 6) (mj := 77) (n := 2) (rc := 8) (ml := 4) (nr := 0) (np := 5) (as := [x_r 1, x_b (ia1 + 1)]) (rest := []) (lo1 := [x_r 1, x_b (ia1 + 1), 147573952589676412928, 147573952589676412928]) (by decide +kernel) (by decide) (by decide +kernel) (x_rb_of (by decide +kernel)) rfl rfl (x_wr (by decide) (x_wB hia1 x_wn)) x_wn (by decide) rfl (c77_1_S0 hJ  hia1 hT) (fun v1 l2 q3 => ?_)
  obtain ⟨b6, c4, c5⟩ := q3
  have b7 := jB (e := 2) 0 hJ rg_1_2_0_1 (by first | decide | omega) (by first | decide | omega)
  refine x_ifz (k := 1) (tg := 10) (np := 8) (by decide +kernel) (by decide) l2 (fun q8 => ?_) (fun q9 => ?_)
  · have q8 : v1 ≠ 2147483648 := q8
    have b10 := c4 (by first | decide | omega)
    refine x_aload (np := 11) (x := 0) (by decide +kernel) rfl (x_nc_le (by decide)) ?_
    refine x_aload (np := 12) (x := 0) (by decide +kernel) rfl (x_nc_le (by decide)) ?_
    refine x_getC (np := 15) (x := 450) (f := 2) (q := (h 1 2)) (by decide +kernel) (by decide) (by decide +kernel) rfl (fun l11 => ?_)
    refine x_aloadB (i := ia1) (k4 := 1) rfl hia1 (by rw [tb_b78]; decide +kernel) ?_
    have b12 := (iv_tl_lt ia1 hia1).1
    have b13 := iv_tl_ge ia1 hia1
    refine x_len (by decide +kernel) (by rw [tb_y78]; exact sl_Tl) hia1 (by rw [tb_b78]; decide +kernel) (Nat.le_trans (x_wi l11 (x_wr (by decide) x_wn)) (by decide)) ?_
    refine x_iadd (np := 20) (x := 0) (v := ((h 1 2) + (iv_tl ia1))) (by decide +kernel) l11 (by first | decide | omega) (by first | decide | omega) (by first | decide | omega) ?_
    refine x_cV (t := 6) (mj := 80) (n := 2) (rc := 8) (ml := 2) (nr := 0) (np := 23) (as := [x_r 1, iv_c ((h 1 2) + (iv_tl ia1))]) (rest := []) (lo1 := [x_r 1, iv_c ((h 1 2) + (iv_tl ia1))]) (by decide +kernel) (by decide) (by decide +kernel) (x_rb_of (by decide +kernel)) rfl rfl (x_wr (by decide) (x_wi (by first | decide | omega) x_wn)) x_wn (by decide) rfl (c80_1 hJ  (by first | decide | omega) hT) (fun h17 q16 => ?_)
    obtain ⟨j18, f19, c22, c23⟩ := q16
    have f24 := Fr.trans hF f19 (by decide)
    have b25 := jB (e := 2) 0 j18 rg_1_2_0_1 (by first | decide | omega) (by first | decide | omega)
    refine x_const (np := 24) (x := 9223372043297226753) (a := 2147483649) (by decide +kernel) (by decide) (by decide) ?_
    have b26 := iv_tl_ge ia1 hia1
    refine x_retI (np := 25) (x := 0) (by decide +kernel) (by decide) (Or.inr ⟨by decide +kernel, by first | decide | omega, by first | decide | omega⟩) ⟨_, rfl, (by decide), ?_⟩
    exact ⟨j18, f24, (by first | decide | omega), (fun z => by first | decide | omega), (fun z => by first | decide | omega), (Tk.mk1 (by first | decide | omega) (Is.yes c5 (by first | decide | omega)) c23 (by first | decide | omega))⟩
  have q9 : ¬ (v1 ≠ 2147483648) := q9
  refine x_const (np := 9) (x := 9223372039002259456) (a := 2147483648) (by decide +kernel) (by decide) (by decide) ?_
  have b27 := iv_tl_ge ia1 hia1
  refine x_retI (np := 10) (x := 0) (by decide +kernel) (by decide) (Or.inr ⟨by decide +kernel, by first | decide | omega, by first | decide | omega⟩) ⟨_, rfl, (by decide), ?_⟩
  exact ⟨hJ, hF, (by first | decide | omega), (fun z => by first | decide | omega), (fun z => by first | decide | omega), (Tk.mk0 (by first | decide | omega) (Is.no c5 (by first | decide | omega)) rfl)⟩
set_option maxHeartbeats 0 in
/-- LentNames$Tape.takesNumber(II)I -/
theorem c79_1_c0 {sc : Nat × Nat} {d a2 : Nat} {h : xh} {tB : Nat → Nat} {tN : Nat} (hJ : J h) (ba2 : 2147483647 ≤ a2 ∧ a2 ≤ 2147484769) (hT : Tp tB tN h) : X sc 79 (d + 1) (xI fun r h' => J h' ∧ Fr 33 h h' ∧ (2147483647 ≤ r ∧ r ≤ 2147484647) ∧ (r ≤ a2) ∧ (2147483648 ≤ r → h 1 2 + 1 ≤ h' 1 2) ∧ (r = 2147483647 → h' 1 2 = h 1 2) ∧ Nr tB tN 2147483648 a2 (h 1 2) r (h' 1 2)) 0 0 0 [x_r 1, iv_c 2147483648, iv_c a2, 147573952589676412928, 147573952589676412928] [] h := by
  have la2 : a2 < 4294967296 := by first | decide | omega
  have hF := Fr.refl 33 h
  refine x_const (np := 1) (x := 9223372039002259456) (a := 2147483648) (by decide +kernel) (by decide) (by decide) ?_
  refine x_istore (np := 2) (x := 3) (lo' := [x_r 1, iv_c 2147483648, iv_c a2, iv_c 2147483648, 147573952589676412928]) (by decide +kernel) (by decide) (Nat.le_of_ble_eq_true rfl) rfl ?_
  refine x_const (np := 3) (x := 9223372039002259456) (a := 2147483648) (by decide +kernel) (by decide) (by decide) ?_
  refine x_istore (np := 5) (x := 4) (lo' := [x_r 1, iv_c 2147483648, iv_c a2, iv_c 2147483648, iv_c 2147483648]) (by decide +kernel) (by decide) (Nat.le_of_ble_eq_true rfl) rfl ?_
  refine x_iload (np := 7) (x := 4) (by decide +kernel) rfl (by decide) ?_
  refine x_const (np := 8) (x := 9223372051887161347) (a := 2147483651) (by decide +kernel) (by decide) (by decide) ?_
  refine x_icmp (k := 4) (tg := 54) (np := 11) (by decide +kernel) (by decide) (by decide) (by decide) (fun q1 => ?_) (fun q2 => ?_)
  · have q1 : 2147483651 < 2147483648 := q1
    exfalso; omega
  have q2 : ¬ (2147483651 < 2147483648) := q2
  refine x_aload (np := 12) (x := 0) (by decide +kernel) rfl (x_nc_le (by decide)) ?_
  refine x_aload (np := 13) (x := 0) (by decide +kernel) rfl (x_nc_le (by decide)) ?_
  have b3 := jB (e := 2) 0 hJ rg_1_2_0_1 (by first | decide | omega) (by first | decide | omega)
  refine x_getC (np := 16) (x := 450) (f := 2) (q := (h 1 2)) (by decide +kernel) (by decide) (by decide +kernel) rfl (fun l4 => ?_)
  refine x_iload (np := 18) (x := 4) (by decide +kernel) rfl (by decide) ?_
  refine x_iadd (np := 19) (x := 0) (v := (h 1 2)) (by decide +kernel) l4 (by decide) (by first | decide | omega) (by first | decide | omega) ?_
  refine x_nI (t := 6) (mj := 81) (n := 2) (rc := 8) (ml := 2) (nr := 0) (np := 22) (as := [x_r 1, iv_c (h 1 2)]) (rest := []) (lo1 := [x_r 1, iv_c (h 1 2)]) (by decide +kernel) (by decide) (by decide +kernel) (x_rb_of (by decide +kernel)) rfl rfl (x_wr (by decide) (x_wi l4 x_wn)) x_wn (by decide) rfl ?_
  refine x_iload (np := 1) (x := 1) (by decide +kernel) rfl l4 ?_
  refine x_aload (np := 2) (x := 0) (by decide +kernel) rfl (x_nc_le (by decide)) ?_
  have b5 := jB (e := 1) 0 hJ rg_1_1_0_1 (by first | decide | omega) (by first | decide | omega)
  refine x_getC (np := 5) (x := 449) (f := 1) (q := (h 1 1)) (by decide +kernel) (by decide) (by decide +kernel) rfl (fun l6 => ?_)
  refine x_icmp (k := 3) (tg := 17) (np := 8) (by decide +kernel) (by decide) l4 l6 (fun q7 => ?_) (fun q8 => ?_)
  · have q7 : (h 1 1) ≤ (h 1 2) := q7
    refine x_const (np := 18) (x := 9223372034707292159) (a := 2147483647) (by decide +kernel) (by decide) (by decide) ?_
    refine x_retI (np := 19) (x := 0) (by decide +kernel) (by decide) (Or.inl (by decide +kernel)) ⟨_, rfl, (by decide), ?_⟩
    refine x_nI (t := 0) (mj := 82) (n := 1) (rc := 0) (ml := 1) (nr := 0) (np := 25) (as := [iv_c 2147483647]) (rest := []) (lo1 := [iv_c 2147483647]) (by decide +kernel) (by decide) (by decide +kernel) (Or.inl rfl) rfl rfl (x_wi (by decide) x_wn) x_wn (by decide) rfl ?_
    refine x_iload (np := 1) (x := 0) (by decide +kernel) rfl (by decide) ?_
    refine x_const (np := 3) (x := 9223372245160689712) (a := 2147483696) (by decide +kernel) (by decide) (by decide) ?_
    refine x_icmp (k := 2) (tg := 16) (np := 6) (by decide +kernel) (by decide) (by decide) (by decide) (fun q9 => ?_) (fun q10 => ?_)
    · have q9 : 2147483647 < 2147483696 := q9
      refine x_const (np := 17) (x := 9223372039002259456) (a := 2147483648) (by decide +kernel) (by decide) (by decide) ?_
      refine x_retI (np := 18) (x := 0) (by decide +kernel) (by decide) (Or.inr ⟨by decide +kernel, by first | decide | omega, by first | decide | omega⟩) ⟨_, rfl, (by decide), ?_⟩
      refine x_ifz (k := 0) (tg := 54) (np := 28) (by decide +kernel) (by decide) (by decide) (fun q11 => ?_) (fun q12 => ?_)
      · have q11 : 2147483648 = 2147483648 := q11
        refine x_iload (np := 56) (x := 4) (by decide +kernel) rfl (by decide) ?_
        refine x_ifz (k := 0) (tg := 75) (np := 59) (by decide +kernel) (by decide) (by decide) (fun q13 => ?_) (fun q14 => ?_)
        · have q13 : 2147483648 = 2147483648 := q13
          refine x_const (np := 76) (x := 9223372034707292159) (a := 2147483647) (by decide +kernel) (by decide) (by decide) ?_
          have z15 := hT.1
          have z16 := hT.1
          have g17 : ¬ Dg tB tN (h 1 2 + 0) := fun z => by have z1 := z.1; have z2 := z.2.1; have z3 := z.2.2; omega
          refine x_retI (np := 77) (x := 0) (by decide +kernel) (by decide) (Or.inl (by decide +kernel)) ⟨_, rfl, (by decide), ?_⟩
          exact ⟨hJ, hF, (by first | decide | omega), (by first | decide | omega), (fun z => by first | decide | omega), (fun z => by first | decide | omega), (Nr.nob (by first | decide | omega) (Nb.mk0 g17))⟩
        have q14 : ¬ (2147483648 = 2147483648) := q14
        exfalso; omega
      have q12 : ¬ (2147483648 = 2147483648) := q12
      exfalso; omega
    have q10 : ¬ (2147483647 < 2147483696) := q10
    exfalso; omega
  have q8 : ¬ ((h 1 1) ≤ (h 1 2)) := q8
  refine x_aload (np := 9) (x := 0) (by decide +kernel) rfl (x_nc_le (by decide)) ?_
  have q18 : h 1 0 = 2 := by have z := jB (e := 0) 0 hJ rg_1_0_0_1 (by decide) (by decide); omega
  refine x_getR (np := 12) (x := 448) (f := 0) (q := 2) (by decide +kernel) (by decide) (by decide +kernel) q18 ?_
  refine x_iload (np := 13) (x := 1) (by decide +kernel) rfl l4 ?_
  obtain ⟨u19, q20⟩ : ∃ z, (h 1 2) = 2147483648 + z := ⟨(h 1 2) - 2147483648, by first | decide | omega⟩
  refine x_aldC (np := 14) (x := 0) (n := 400) (i := u19) (q := (h 2 u19)) (by decide +kernel) (by decide +kernel) (by first | decide | omega) (by first | decide | omega) (by decide) rfl (fun l21 => ?_)
  refine x_goto (np := 17) (x := 18) (by decide +kernel) ?_
  refine x_retI (np := 19) (x := 0) (by decide +kernel) l21 (Or.inl (by decide +kernel)) ⟨_, rfl, l21, ?_⟩
  refine x_nI (t := 0) (mj := 82) (n := 1) (rc := 0) (ml := 1) (nr := 0) (np := 25) (as := [iv_c (h 2 u19)]) (rest := []) (lo1 := [iv_c (h 2 u19)]) (by decide +kernel) (by decide) (by decide +kernel) (Or.inl rfl) rfl rfl (x_wi l21 x_wn) x_wn (by decide) rfl ?_
  refine x_iload (np := 1) (x := 0) (by decide +kernel) rfl l21 ?_
  refine x_const (np := 3) (x := 9223372245160689712) (a := 2147483696) (by decide +kernel) (by decide) (by decide) ?_
  refine x_icmp (k := 2) (tg := 16) (np := 6) (by decide +kernel) (by decide) l21 (by decide) (fun q22 => ?_) (fun q23 => ?_)
  · have q22 : (h 2 u19) < 2147483696 := q22
    refine x_const (np := 17) (x := 9223372039002259456) (a := 2147483648) (by decide +kernel) (by decide) (by decide) ?_
    refine x_retI (np := 18) (x := 0) (by decide +kernel) (by decide) (Or.inr ⟨by decide +kernel, by first | decide | omega, by first | decide | omega⟩) ⟨_, rfl, (by decide), ?_⟩
    refine x_ifz (k := 0) (tg := 54) (np := 28) (by decide +kernel) (by decide) (by decide) (fun q24 => ?_) (fun q25 => ?_)
    · have q24 : 2147483648 = 2147483648 := q24
      refine x_iload (np := 56) (x := 4) (by decide +kernel) rfl (by decide) ?_
      refine x_ifz (k := 0) (tg := 75) (np := 59) (by decide +kernel) (by decide) (by decide) (fun q26 => ?_) (fun q27 => ?_)
      · have q26 : 2147483648 = 2147483648 := q26
        refine x_const (np := 76) (x := 9223372034707292159) (a := 2147483647) (by decide +kernel) (by decide) (by decide) ?_
        have z28 := hT.1
        have z29 := hT.1
        have z30 := Tp.at (p := (h 1 2 + 0)) (u := u19) hT (by first | decide | omega) (by first | decide | omega)
        have g31 : ¬ Dg tB tN (h 1 2 + 0) := fun z => by have z1 := z.1; have z2 := z.2.1; have z3 := z.2.2; omega
        refine x_retI (np := 77) (x := 0) (by decide +kernel) (by decide) (Or.inl (by decide +kernel)) ⟨_, rfl, (by decide), ?_⟩
        exact ⟨hJ, hF, (by first | decide | omega), (by first | decide | omega), (fun z => by first | decide | omega), (fun z => by first | decide | omega), (Nr.nob (by first | decide | omega) (Nb.mk0 g31))⟩
      have q27 : ¬ (2147483648 = 2147483648) := q27
      exfalso; omega
    have q25 : ¬ (2147483648 = 2147483648) := q25
    exfalso; omega
  have q23 : ¬ ((h 2 u19) < 2147483696) := q23
  refine x_iload (np := 7) (x := 0) (by decide +kernel) rfl l21 ?_
  refine x_const (np := 9) (x := 9223372283815395385) (a := 2147483705) (by decide +kernel) (by decide) (by decide) ?_
  refine x_icmp (k := 4) (tg := 16) (np := 12) (by decide +kernel) (by decide) l21 (by decide) (fun q32 => ?_) (fun q33 => ?_)
  · have q32 : 2147483705 < (h 2 u19) := q32
    refine x_const (np := 17) (x := 9223372039002259456) (a := 2147483648) (by decide +kernel) (by decide) (by decide) ?_
    refine x_retI (np := 18) (x := 0) (by decide +kernel) (by decide) (Or.inr ⟨by decide +kernel, by first | decide | omega, by first | decide | omega⟩) ⟨_, rfl, (by decide), ?_⟩
    refine x_ifz (k := 0) (tg := 54) (np := 28) (by decide +kernel) (by decide) (by decide) (fun q34 => ?_) (fun q35 => ?_)
    · have q34 : 2147483648 = 2147483648 := q34
      refine x_iload (np := 56) (x := 4) (by decide +kernel) rfl (by decide) ?_
      refine x_ifz (k := 0) (tg := 75) (np := 59) (by decide +kernel) (by decide) (by decide) (fun q36 => ?_) (fun q37 => ?_)
      · have q36 : 2147483648 = 2147483648 := q36
        refine x_const (np := 76) (x := 9223372034707292159) (a := 2147483647) (by decide +kernel) (by decide) (by decide) ?_
        have z38 := hT.1
        have z39 := hT.1
        have z40 := Tp.at (p := (h 1 2 + 0)) (u := u19) hT (by first | decide | omega) (by first | decide | omega)
        have g41 : ¬ Dg tB tN (h 1 2 + 0) := fun z => by have z1 := z.1; have z2 := z.2.1; have z3 := z.2.2; omega
        refine x_retI (np := 77) (x := 0) (by decide +kernel) (by decide) (Or.inl (by decide +kernel)) ⟨_, rfl, (by decide), ?_⟩
        exact ⟨hJ, hF, (by first | decide | omega), (by first | decide | omega), (fun z => by first | decide | omega), (fun z => by first | decide | omega), (Nr.nob (by first | decide | omega) (Nb.mk0 g41))⟩
      have q37 : ¬ (2147483648 = 2147483648) := q37
      exfalso; omega
    have q35 : ¬ (2147483648 = 2147483648) := q35
    exfalso; omega
  have q33 : ¬ (2147483705 < (h 2 u19)) := q33
  refine x_const (np := 13) (x := 9223372043297226753) (a := 2147483649) (by decide +kernel) (by decide) (by decide) ?_
  refine x_goto (np := 16) (x := 17) (by decide +kernel) ?_
  refine x_retI (np := 18) (x := 0) (by decide +kernel) (by decide) (Or.inr ⟨by decide +kernel, by first | decide | omega, by first | decide | omega⟩) ⟨_, rfl, (by decide), ?_⟩
  refine x_ifz (k := 0) (tg := 54) (np := 28) (by decide +kernel) (by decide) (by decide) (fun q42 => ?_) (fun q43 => ?_)
  · have q42 : 2147483649 = 2147483648 := q42
    exfalso; omega
  have q43 : ¬ (2147483649 = 2147483648) := q43
  refine x_iload (np := 29) (x := 3) (by decide +kernel) rfl (by decide) ?_
  refine x_const (np := 31) (x := 9223372081951932426) (a := 2147483658) (by decide +kernel) (by decide) (by decide) ?_
  refine x_imul (np := 32) (x := 0) (i := 0) (j := 10) (v := 2147483648) (by decide +kernel) (by first | decide | omega) (by first | decide | omega) (by first | decide | omega) (by first | decide | omega) (by decide) (by decide) ?_
  refine x_aload (np := 33) (x := 0) (by decide +kernel) rfl (x_nc_le (by decide)) ?_
  refine x_aload (np := 34) (x := 0) (by decide +kernel) rfl (x_nc_le (by decide)) ?_
  refine x_getC (np := 37) (x := 450) (f := 2) (q := (h 1 2)) (by decide +kernel) (by decide) (by decide +kernel) rfl (fun l45 => ?_)
  refine x_iload (np := 39) (x := 4) (by decide +kernel) rfl (by decide) ?_
  refine x_iadd (np := 40) (x := 0) (v := (h 1 2)) (by decide +kernel) l4 (by decide) (by first | decide | omega) (by first | decide | omega) ?_
  refine x_nI (t := 6) (mj := 81) (n := 2) (rc := 8) (ml := 2) (nr := 1) (np := 43) (as := [x_r 1, iv_c (h 1 2)]) (rest := [iv_c 2147483648]) (lo1 := [x_r 1, iv_c (h 1 2)]) (by decide +kernel) (by decide) (by decide +kernel) (x_rb_of (by decide +kernel)) rfl rfl (x_wr (by decide) (x_wi l4 x_wn)) (x_wi (by decide) x_wn) (by decide) rfl ?_
  refine x_iload (np := 1) (x := 1) (by decide +kernel) rfl l4 ?_
  refine x_aload (np := 2) (x := 0) (by decide +kernel) rfl (x_nc_le (by decide)) ?_
  refine x_getC (np := 5) (x := 449) (f := 1) (q := (h 1 1)) (by decide +kernel) (by decide) (by decide +kernel) rfl (fun l46 => ?_)
  refine x_icmp (k := 3) (tg := 17) (np := 8) (by decide +kernel) (by decide) l4 l6 (fun q47 => ?_) (fun q48 => ?_)
  · have q47 : (h 1 1) ≤ (h 1 2) := q47
    exfalso; omega
  have q48 : ¬ ((h 1 1) ≤ (h 1 2)) := q48
  refine x_aload (np := 9) (x := 0) (by decide +kernel) rfl (x_nc_le (by decide)) ?_
  have q49 : h 1 0 = 2 := by have z := jB (e := 0) 0 hJ rg_1_0_0_1 (by decide) (by decide); omega
  refine x_getR (np := 12) (x := 448) (f := 0) (q := 2) (by decide +kernel) (by decide) (by decide +kernel) q49 ?_
  refine x_iload (np := 13) (x := 1) (by decide +kernel) rfl l4 ?_
  refine x_aldC (np := 14) (x := 0) (n := 400) (i := u19) (q := (h 2 u19)) (by decide +kernel) (by decide +kernel) (by first | decide | omega) (by first | decide | omega) (by decide) rfl (fun l50 => ?_)
  refine x_goto (np := 17) (x := 18) (by decide +kernel) ?_
  refine x_retI (np := 19) (x := 0) (by decide +kernel) l21 (Or.inl (by decide +kernel)) ⟨_, rfl, l21, ?_⟩
  refine x_iadd (np := 44) (x := 0) (v := (h 2 u19)) (by decide +kernel) (by decide) l21 (by first | decide | omega) (by first | decide | omega) ?_
  refine x_const (np := 46) (x := 9223372245160689712) (a := 2147483696) (by decide +kernel) (by decide) (by decide) ?_
  obtain ⟨v51, q52⟩ : ∃ z, z + 2147483696 = (h 2 u19) + 2147483648 := ⟨(h 2 u19) + 2147483648 - 2147483696, by first | decide | omega⟩
  refine x_isub (np := 47) (x := 0) (v := v51) (by decide +kernel) l21 (by decide) (by first | decide | omega) (by first | decide | omega) ?_
  refine x_istore (np := 48) (x := 3) (lo' := [x_r 1, iv_c 2147483648, iv_c a2, iv_c v51, iv_c 2147483648]) (by decide +kernel) (by first | decide | omega) (Nat.le_of_ble_eq_true rfl) rfl ?_
  refine x_iinc (np := 51) (i := 4) (j := 2147483649) (v := 2147483649) (lo' := [x_r 1, iv_c 2147483648, iv_c a2, iv_c v51, iv_c 2147483649]) (by decide +kernel) (by decide) (by decide) rfl (by decide) (by first | decide | omega) (by first | decide | omega) rfl ?_
  refine x_goto (np := 54) (x := 5) (by decide +kernel) ?_
  refine x_iload (np := 7) (x := 4) (by decide +kernel) rfl (by decide) ?_
  refine x_const (np := 8) (x := 9223372051887161347) (a := 2147483651) (by decide +kernel) (by decide) (by decide) ?_
  refine x_icmp (k := 4) (tg := 54) (np := 11) (by decide +kernel) (by decide) (by decide) (by decide) (fun q53 => ?_) (fun q54 => ?_)
  · have q53 : 2147483651 < 2147483649 := q53
    exfalso; omega
  have q54 : ¬ (2147483651 < 2147483649) := q54
  refine x_aload (np := 12) (x := 0) (by decide +kernel) rfl (x_nc_le (by decide)) ?_
  refine x_aload (np := 13) (x := 0) (by decide +kernel) rfl (x_nc_le (by decide)) ?_
  refine x_getC (np := 16) (x := 450) (f := 2) (q := (h 1 2)) (by decide +kernel) (by decide) (by decide +kernel) rfl (fun l55 => ?_)
  refine x_iload (np := 18) (x := 4) (by decide +kernel) rfl (by decide) ?_
  refine x_iadd (np := 19) (x := 0) (v := (1 + (h 1 2))) (by decide +kernel) l4 (by decide) (by first | decide | omega) (by first | decide | omega) ?_
  refine x_nI (t := 6) (mj := 81) (n := 2) (rc := 8) (ml := 2) (nr := 0) (np := 22) (as := [x_r 1, iv_c (1 + (h 1 2))]) (rest := []) (lo1 := [x_r 1, iv_c (1 + (h 1 2))]) (by decide +kernel) (by decide) (by decide +kernel) (x_rb_of (by decide +kernel)) rfl rfl (x_wr (by decide) (x_wi (by first | decide | omega) x_wn)) x_wn (by decide) rfl ?_
  refine x_iload (np := 1) (x := 1) (by decide +kernel) rfl (by first | decide | omega) ?_
  refine x_aload (np := 2) (x := 0) (by decide +kernel) rfl (x_nc_le (by decide)) ?_
  refine x_getC (np := 5) (x := 449) (f := 1) (q := (h 1 1)) (by decide +kernel) (by decide) (by decide +kernel) rfl (fun l56 => ?_)
  refine x_icmp (k := 3) (tg := 17) (np := 8) (by decide +kernel) (by decide) (by first | decide | omega) l6 (fun q57 => ?_) (fun q58 => ?_)
  · have q57 : (h 1 1) ≤ (1 + (h 1 2)) := q57
    refine x_const (np := 18) (x := 9223372034707292159) (a := 2147483647) (by decide +kernel) (by decide) (by decide) ?_
    refine x_retI (np := 19) (x := 0) (by decide +kernel) (by decide) (Or.inl (by decide +kernel)) ⟨_, rfl, (by decide), ?_⟩
    refine x_nI (t := 0) (mj := 82) (n := 1) (rc := 0) (ml := 1) (nr := 0) (np := 25) (as := [iv_c 2147483647]) (rest := []) (lo1 := [iv_c 2147483647]) (by decide +kernel) (by decide) (by decide +kernel) (Or.inl rfl) rfl rfl (x_wi (by decide) x_wn) x_wn (by decide) rfl ?_
    refine x_iload (np := 1) (x := 0) (by decide +kernel) rfl (by decide) ?_
    refine x_const (np := 3) (x := 9223372245160689712) (a := 2147483696) (by decide +kernel) (by decide) (by decide) ?_
    refine x_icmp (k := 2) (tg := 16) (np := 6) (by decide +kernel) (by decide) (by decide) (by decide) (fun q59 => ?_) (fun q60 => ?_)
    · have q59 : 2147483647 < 2147483696 := q59
      refine x_const (np := 17) (x := 9223372039002259456) (a := 2147483648) (by decide +kernel) (by decide) (by decide) ?_
      refine x_retI (np := 18) (x := 0) (by decide +kernel) (by decide) (Or.inr ⟨by decide +kernel, by first | decide | omega, by first | decide | omega⟩) ⟨_, rfl, (by decide), ?_⟩
      refine x_ifz (k := 0) (tg := 54) (np := 28) (by decide +kernel) (by decide) (by decide) (fun q61 => ?_) (fun q62 => ?_)
      · have q61 : 2147483648 = 2147483648 := q61
        refine x_iload (np := 56) (x := 4) (by decide +kernel) rfl (by decide) ?_
        refine x_ifz (k := 0) (tg := 75) (np := 59) (by decide +kernel) (by decide) (by decide) (fun q63 => ?_) (fun q64 => ?_)
        · have q63 : 2147483649 = 2147483648 := q63
          exfalso; omega
        have q64 : ¬ (2147483649 = 2147483648) := q64
        refine x_iload (np := 61) (x := 4) (by decide +kernel) rfl (by decide) ?_
        refine x_const (np := 62) (x := 9223372051887161347) (a := 2147483651) (by decide +kernel) (by decide) (by decide) ?_
        refine x_icmp (k := 4) (tg := 75) (np := 65) (by decide +kernel) (by decide) (by decide) (by decide) (fun q65 => ?_) (fun q66 => ?_)
        · have q65 : 2147483651 < 2147483649 := q65
          exfalso; omega
        have q66 : ¬ (2147483651 < 2147483649) := q66
        refine x_iload (np := 66) (x := 3) (by decide +kernel) rfl (by first | decide | omega) ?_
        refine x_iload (np := 67) (x := 1) (by decide +kernel) rfl (by decide) ?_
        refine x_icmp (k := 2) (tg := 75) (np := 70) (by decide +kernel) (by decide) (by first | decide | omega) (by decide) (fun q67 => ?_) (fun q68 => ?_)
        · have q67 : v51 < 2147483648 := q67
          exfalso; omega
        have q68 : ¬ (v51 < 2147483648) := q68
        refine x_iload (np := 71) (x := 3) (by decide +kernel) rfl (by first | decide | omega) ?_
        refine x_iload (np := 72) (x := 2) (by decide +kernel) rfl la2 ?_
        refine x_icmp (k := 5) (tg := 77) (np := 75) (by decide +kernel) (by decide) (by first | decide | omega) la2 (fun q69 => ?_) (fun q70 => ?_)
        · have q69 : v51 ≤ a2 := q69
          refine x_aload (np := 78) (x := 0) (by decide +kernel) rfl (x_nc_le (by decide)) ?_
          refine x_aload (np := 79) (x := 0) (by decide +kernel) rfl (x_nc_le (by decide)) ?_
          refine x_getC (np := 82) (x := 450) (f := 2) (q := (h 1 2)) (by decide +kernel) (by decide) (by decide +kernel) rfl (fun l71 => ?_)
          refine x_iload (np := 84) (x := 4) (by decide +kernel) rfl (by decide) ?_
          refine x_iadd (np := 85) (x := 0) (v := (1 + (h 1 2))) (by decide +kernel) l4 (by decide) (by first | decide | omega) (by first | decide | omega) ?_
          refine x_cV (t := 6) (mj := 80) (n := 2) (rc := 8) (ml := 2) (nr := 0) (np := 88) (as := [x_r 1, iv_c (1 + (h 1 2))]) (rest := []) (lo1 := [x_r 1, iv_c (1 + (h 1 2))]) (by decide +kernel) (by decide) (by decide +kernel) (x_rb_of (by decide +kernel)) rfl rfl (x_wr (by decide) (x_wi (by first | decide | omega) x_wn)) x_wn (by decide) rfl (c80_1 hJ  (by first | decide | omega) hT) (fun h75 q74 => ?_)
          obtain ⟨j76, f77, c80, c81⟩ := q74
          have f82 := Fr.trans hF f77 (by decide)
          have b83 := jB (e := 2) 0 j76 rg_1_2_0_1 (by first | decide | omega) (by first | decide | omega)
          refine x_iload (np := 89) (x := 3) (by decide +kernel) rfl (by first | decide | omega) ?_
          have z84 := hT.1
          have z85 := Tp.at (p := (h 1 2 + 0)) (u := u19) hT (by first | decide | omega) (by first | decide | omega)
          have g86 : Dg tB tN (h 1 2 + 0) := ⟨by first | decide | omega, by first | decide | omega, by first | decide | omega⟩
          have z87 := hT.1
          have g88 : ¬ Dg tB tN (h 1 2 + 1) := fun z => by have z1 := z.1; have z2 := z.2.1; have z3 := z.2.2; omega
          have z89 := nv1 (B := tB) (p := h 1 2)
          refine x_retI (np := 90) (x := 0) (by decide +kernel) (by first | decide | omega) (Or.inl (by decide +kernel)) ⟨_, rfl, (by first | decide | omega), ?_⟩
          exact ⟨j76, f82, (by first | decide | omega), (by first | decide | omega), (fun z => by first | decide | omega), (fun z => by first | decide | omega), (Nr.yes (Nu.mk1 g86 g88) (by first | decide | omega) (by first | decide | omega) (by first | decide | omega) c81 (by first | decide | omega))⟩
        have q70 : ¬ (v51 ≤ a2) := q70
        refine x_const (np := 76) (x := 9223372034707292159) (a := 2147483647) (by decide +kernel) (by decide) (by decide) ?_
        have z90 := hT.1
        have z91 := Tp.at (p := (h 1 2 + 0)) (u := u19) hT (by first | decide | omega) (by first | decide | omega)
        have g92 : Dg tB tN (h 1 2 + 0) := ⟨by first | decide | omega, by first | decide | omega, by first | decide | omega⟩
        have z93 := hT.1
        have g94 : ¬ Dg tB tN (h 1 2 + 1) := fun z => by have z1 := z.1; have z2 := z.2.1; have z3 := z.2.2; omega
        have z95 := nv1 (B := tB) (p := h 1 2)
        refine x_retI (np := 77) (x := 0) (by decide +kernel) (by decide) (Or.inl (by decide +kernel)) ⟨_, rfl, (by decide), ?_⟩
        exact ⟨hJ, hF, (by first | decide | omega), (by first | decide | omega), (fun z => by first | decide | omega), (fun z => by first | decide | omega), (Nr.nor (by first | decide | omega) (Nu.mk1 g92 g94) (by first | decide | omega))⟩
      have q62 : ¬ (2147483648 = 2147483648) := q62
      exfalso; omega
    have q60 : ¬ (2147483647 < 2147483696) := q60
    exfalso; omega
  have q58 : ¬ ((h 1 1) ≤ (1 + (h 1 2))) := q58
  refine x_aload (np := 9) (x := 0) (by decide +kernel) rfl (x_nc_le (by decide)) ?_
  have q96 : h 1 0 = 2 := by have z := jB (e := 0) 0 hJ rg_1_0_0_1 (by decide) (by decide); omega
  refine x_getR (np := 12) (x := 448) (f := 0) (q := 2) (by decide +kernel) (by decide) (by decide +kernel) q96 ?_
  refine x_iload (np := 13) (x := 1) (by decide +kernel) rfl (by first | decide | omega) ?_
  refine x_aldC (np := 14) (x := 0) (n := 400) (i := (1 + u19)) (q := (h 2 (1 + u19))) (by decide +kernel) (by decide +kernel) (by first | decide | omega) (by first | decide | omega) (by decide) rfl (fun l97 => ?_)
  refine x_goto (np := 17) (x := 18) (by decide +kernel) ?_
  refine x_retI (np := 19) (x := 0) (by decide +kernel) l97 (Or.inl (by decide +kernel)) ⟨_, rfl, l97, ?_⟩
  refine x_nI (t := 0) (mj := 82) (n := 1) (rc := 0) (ml := 1) (nr := 0) (np := 25) (as := [iv_c (h 2 (1 + u19))]) (rest := []) (lo1 := [iv_c (h 2 (1 + u19))]) (by decide +kernel) (by decide) (by decide +kernel) (Or.inl rfl) rfl rfl (x_wi l97 x_wn) x_wn (by decide) rfl ?_
  refine x_iload (np := 1) (x := 0) (by decide +kernel) rfl l97 ?_
  refine x_const (np := 3) (x := 9223372245160689712) (a := 2147483696) (by decide +kernel) (by decide) (by decide) ?_
  refine x_icmp (k := 2) (tg := 16) (np := 6) (by decide +kernel) (by decide) l97 (by decide) (fun q98 => ?_) (fun q99 => ?_)
  · have q98 : (h 2 (1 + u19)) < 2147483696 := q98
    refine x_const (np := 17) (x := 9223372039002259456) (a := 2147483648) (by decide +kernel) (by decide) (by decide) ?_
    refine x_retI (np := 18) (x := 0) (by decide +kernel) (by decide) (Or.inr ⟨by decide +kernel, by first | decide | omega, by first | decide | omega⟩) ⟨_, rfl, (by decide), ?_⟩
    refine x_ifz (k := 0) (tg := 54) (np := 28) (by decide +kernel) (by decide) (by decide) (fun q100 => ?_) (fun q101 => ?_)
    · have q100 : 2147483648 = 2147483648 := q100
      refine x_iload (np := 56) (x := 4) (by decide +kernel) rfl (by decide) ?_
      refine x_ifz (k := 0) (tg := 75) (np := 59) (by decide +kernel) (by decide) (by decide) (fun q102 => ?_) (fun q103 => ?_)
      · have q102 : 2147483649 = 2147483648 := q102
        exfalso; omega
      have q103 : ¬ (2147483649 = 2147483648) := q103
      refine x_iload (np := 61) (x := 4) (by decide +kernel) rfl (by decide) ?_
      refine x_const (np := 62) (x := 9223372051887161347) (a := 2147483651) (by decide +kernel) (by decide) (by decide) ?_
      refine x_icmp (k := 4) (tg := 75) (np := 65) (by decide +kernel) (by decide) (by decide) (by decide) (fun q104 => ?_) (fun q105 => ?_)
      · have q104 : 2147483651 < 2147483649 := q104
        exfalso; omega
      have q105 : ¬ (2147483651 < 2147483649) := q105
      refine x_iload (np := 66) (x := 3) (by decide +kernel) rfl (by first | decide | omega) ?_
      refine x_iload (np := 67) (x := 1) (by decide +kernel) rfl (by decide) ?_
      refine x_icmp (k := 2) (tg := 75) (np := 70) (by decide +kernel) (by decide) (by first | decide | omega) (by decide) (fun q106 => ?_) (fun q107 => ?_)
      · have q106 : v51 < 2147483648 := q106
        exfalso; omega
      have q107 : ¬ (v51 < 2147483648) := q107
      refine x_iload (np := 71) (x := 3) (by decide +kernel) rfl (by first | decide | omega) ?_
      refine x_iload (np := 72) (x := 2) (by decide +kernel) rfl la2 ?_
      refine x_icmp (k := 5) (tg := 77) (np := 75) (by decide +kernel) (by decide) (by first | decide | omega) la2 (fun q108 => ?_) (fun q109 => ?_)
      · have q108 : v51 ≤ a2 := q108
        refine x_aload (np := 78) (x := 0) (by decide +kernel) rfl (x_nc_le (by decide)) ?_
        refine x_aload (np := 79) (x := 0) (by decide +kernel) rfl (x_nc_le (by decide)) ?_
        refine x_getC (np := 82) (x := 450) (f := 2) (q := (h 1 2)) (by decide +kernel) (by decide) (by decide +kernel) rfl (fun l110 => ?_)
        refine x_iload (np := 84) (x := 4) (by decide +kernel) rfl (by decide) ?_
        refine x_iadd (np := 85) (x := 0) (v := (1 + (h 1 2))) (by decide +kernel) l4 (by decide) (by first | decide | omega) (by first | decide | omega) ?_
        refine x_cV (t := 6) (mj := 80) (n := 2) (rc := 8) (ml := 2) (nr := 0) (np := 88) (as := [x_r 1, iv_c (1 + (h 1 2))]) (rest := []) (lo1 := [x_r 1, iv_c (1 + (h 1 2))]) (by decide +kernel) (by decide) (by decide +kernel) (x_rb_of (by decide +kernel)) rfl rfl (x_wr (by decide) (x_wi (by first | decide | omega) x_wn)) x_wn (by decide) rfl (c80_1 hJ  (by first | decide | omega) hT) (fun h114 q113 => ?_)
        obtain ⟨j115, f116, c119, c120⟩ := q113
        have f121 := Fr.trans hF f116 (by decide)
        have b122 := jB (e := 2) 0 j115 rg_1_2_0_1 (by first | decide | omega) (by first | decide | omega)
        refine x_iload (np := 89) (x := 3) (by decide +kernel) rfl (by first | decide | omega) ?_
        have z123 := hT.1
        have z124 := Tp.at (p := (h 1 2 + 0)) (u := u19) hT (by first | decide | omega) (by first | decide | omega)
        have g125 : Dg tB tN (h 1 2 + 0) := ⟨by first | decide | omega, by first | decide | omega, by first | decide | omega⟩
        have z126 := hT.1
        have z127 := Tp.at (p := (h 1 2 + 1)) (u := (1 + u19)) hT (by first | decide | omega) (by first | decide | omega)
        have g128 : ¬ Dg tB tN (h 1 2 + 1) := fun z => by have z1 := z.1; have z2 := z.2.1; have z3 := z.2.2; omega
        have z129 := nv1 (B := tB) (p := h 1 2)
        refine x_retI (np := 90) (x := 0) (by decide +kernel) (by first | decide | omega) (Or.inl (by decide +kernel)) ⟨_, rfl, (by first | decide | omega), ?_⟩
        exact ⟨j115, f121, (by first | decide | omega), (by first | decide | omega), (fun z => by first | decide | omega), (fun z => by first | decide | omega), (Nr.yes (Nu.mk1 g125 g128) (by first | decide | omega) (by first | decide | omega) (by first | decide | omega) c120 (by first | decide | omega))⟩
      have q109 : ¬ (v51 ≤ a2) := q109
      refine x_const (np := 76) (x := 9223372034707292159) (a := 2147483647) (by decide +kernel) (by decide) (by decide) ?_
      have z130 := hT.1
      have z131 := Tp.at (p := (h 1 2 + 0)) (u := u19) hT (by first | decide | omega) (by first | decide | omega)
      have g132 : Dg tB tN (h 1 2 + 0) := ⟨by first | decide | omega, by first | decide | omega, by first | decide | omega⟩
      have z133 := hT.1
      have z134 := Tp.at (p := (h 1 2 + 1)) (u := (1 + u19)) hT (by first | decide | omega) (by first | decide | omega)
      have g135 : ¬ Dg tB tN (h 1 2 + 1) := fun z => by have z1 := z.1; have z2 := z.2.1; have z3 := z.2.2; omega
      have z136 := nv1 (B := tB) (p := h 1 2)
      refine x_retI (np := 77) (x := 0) (by decide +kernel) (by decide) (Or.inl (by decide +kernel)) ⟨_, rfl, (by decide), ?_⟩
      exact ⟨hJ, hF, (by first | decide | omega), (by first | decide | omega), (fun z => by first | decide | omega), (fun z => by first | decide | omega), (Nr.nor (by first | decide | omega) (Nu.mk1 g132 g135) (by first | decide | omega))⟩
    have q101 : ¬ (2147483648 = 2147483648) := q101
    exfalso; omega
  have q99 : ¬ ((h 2 (1 + u19)) < 2147483696) := q99
  refine x_iload (np := 7) (x := 0) (by decide +kernel) rfl l97 ?_
  refine x_const (np := 9) (x := 9223372283815395385) (a := 2147483705) (by decide +kernel) (by decide) (by decide) ?_
  refine x_icmp (k := 4) (tg := 16) (np := 12) (by decide +kernel) (by decide) l97 (by decide) (fun q137 => ?_) (fun q138 => ?_)
  · have q137 : 2147483705 < (h 2 (1 + u19)) := q137
    refine x_const (np := 17) (x := 9223372039002259456) (a := 2147483648) (by decide +kernel) (by decide) (by decide) ?_
    refine x_retI (np := 18) (x := 0) (by decide +kernel) (by decide) (Or.inr ⟨by decide +kernel, by first | decide | omega, by first | decide | omega⟩) ⟨_, rfl, (by decide), ?_⟩
    refine x_ifz (k := 0) (tg := 54) (np := 28) (by decide +kernel) (by decide) (by decide) (fun q139 => ?_) (fun q140 => ?_)
    · have q139 : 2147483648 = 2147483648 := q139
      refine x_iload (np := 56) (x := 4) (by decide +kernel) rfl (by decide) ?_
      refine x_ifz (k := 0) (tg := 75) (np := 59) (by decide +kernel) (by decide) (by decide) (fun q141 => ?_) (fun q142 => ?_)
      · have q141 : 2147483649 = 2147483648 := q141
        exfalso; omega
      have q142 : ¬ (2147483649 = 2147483648) := q142
      refine x_iload (np := 61) (x := 4) (by decide +kernel) rfl (by decide) ?_
      refine x_const (np := 62) (x := 9223372051887161347) (a := 2147483651) (by decide +kernel) (by decide) (by decide) ?_
      refine x_icmp (k := 4) (tg := 75) (np := 65) (by decide +kernel) (by decide) (by decide) (by decide) (fun q143 => ?_) (fun q144 => ?_)
      · have q143 : 2147483651 < 2147483649 := q143
        exfalso; omega
      have q144 : ¬ (2147483651 < 2147483649) := q144
      refine x_iload (np := 66) (x := 3) (by decide +kernel) rfl (by first | decide | omega) ?_
      refine x_iload (np := 67) (x := 1) (by decide +kernel) rfl (by decide) ?_
      refine x_icmp (k := 2) (tg := 75) (np := 70) (by decide +kernel) (by decide) (by first | decide | omega) (by decide) (fun q145 => ?_) (fun q146 => ?_)
      · have q145 : v51 < 2147483648 := q145
        exfalso; omega
      have q146 : ¬ (v51 < 2147483648) := q146
      refine x_iload (np := 71) (x := 3) (by decide +kernel) rfl (by first | decide | omega) ?_
      refine x_iload (np := 72) (x := 2) (by decide +kernel) rfl la2 ?_
      refine x_icmp (k := 5) (tg := 77) (np := 75) (by decide +kernel) (by decide) (by first | decide | omega) la2 (fun q147 => ?_) (fun q148 => ?_)
      · have q147 : v51 ≤ a2 := q147
        refine x_aload (np := 78) (x := 0) (by decide +kernel) rfl (x_nc_le (by decide)) ?_
        refine x_aload (np := 79) (x := 0) (by decide +kernel) rfl (x_nc_le (by decide)) ?_
        refine x_getC (np := 82) (x := 450) (f := 2) (q := (h 1 2)) (by decide +kernel) (by decide) (by decide +kernel) rfl (fun l149 => ?_)
        refine x_iload (np := 84) (x := 4) (by decide +kernel) rfl (by decide) ?_
        refine x_iadd (np := 85) (x := 0) (v := (1 + (h 1 2))) (by decide +kernel) l4 (by decide) (by first | decide | omega) (by first | decide | omega) ?_
        refine x_cV (t := 6) (mj := 80) (n := 2) (rc := 8) (ml := 2) (nr := 0) (np := 88) (as := [x_r 1, iv_c (1 + (h 1 2))]) (rest := []) (lo1 := [x_r 1, iv_c (1 + (h 1 2))]) (by decide +kernel) (by decide) (by decide +kernel) (x_rb_of (by decide +kernel)) rfl rfl (x_wr (by decide) (x_wi (by first | decide | omega) x_wn)) x_wn (by decide) rfl (c80_1 hJ  (by first | decide | omega) hT) (fun h153 q152 => ?_)
        obtain ⟨j154, f155, c158, c159⟩ := q152
        have f160 := Fr.trans hF f155 (by decide)
        have b161 := jB (e := 2) 0 j154 rg_1_2_0_1 (by first | decide | omega) (by first | decide | omega)
        refine x_iload (np := 89) (x := 3) (by decide +kernel) rfl (by first | decide | omega) ?_
        have z162 := hT.1
        have z163 := Tp.at (p := (h 1 2 + 0)) (u := u19) hT (by first | decide | omega) (by first | decide | omega)
        have g164 : Dg tB tN (h 1 2 + 0) := ⟨by first | decide | omega, by first | decide | omega, by first | decide | omega⟩
        have z165 := hT.1
        have z166 := Tp.at (p := (h 1 2 + 1)) (u := (1 + u19)) hT (by first | decide | omega) (by first | decide | omega)
        have g167 : ¬ Dg tB tN (h 1 2 + 1) := fun z => by have z1 := z.1; have z2 := z.2.1; have z3 := z.2.2; omega
        have z168 := nv1 (B := tB) (p := h 1 2)
        refine x_retI (np := 90) (x := 0) (by decide +kernel) (by first | decide | omega) (Or.inl (by decide +kernel)) ⟨_, rfl, (by first | decide | omega), ?_⟩
        exact ⟨j154, f160, (by first | decide | omega), (by first | decide | omega), (fun z => by first | decide | omega), (fun z => by first | decide | omega), (Nr.yes (Nu.mk1 g164 g167) (by first | decide | omega) (by first | decide | omega) (by first | decide | omega) c159 (by first | decide | omega))⟩
      have q148 : ¬ (v51 ≤ a2) := q148
      refine x_const (np := 76) (x := 9223372034707292159) (a := 2147483647) (by decide +kernel) (by decide) (by decide) ?_
      have z169 := hT.1
      have z170 := Tp.at (p := (h 1 2 + 0)) (u := u19) hT (by first | decide | omega) (by first | decide | omega)
      have g171 : Dg tB tN (h 1 2 + 0) := ⟨by first | decide | omega, by first | decide | omega, by first | decide | omega⟩
      have z172 := hT.1
      have z173 := Tp.at (p := (h 1 2 + 1)) (u := (1 + u19)) hT (by first | decide | omega) (by first | decide | omega)
      have g174 : ¬ Dg tB tN (h 1 2 + 1) := fun z => by have z1 := z.1; have z2 := z.2.1; have z3 := z.2.2; omega
      have z175 := nv1 (B := tB) (p := h 1 2)
      refine x_retI (np := 77) (x := 0) (by decide +kernel) (by decide) (Or.inl (by decide +kernel)) ⟨_, rfl, (by decide), ?_⟩
      exact ⟨hJ, hF, (by first | decide | omega), (by first | decide | omega), (fun z => by first | decide | omega), (fun z => by first | decide | omega), (Nr.nor (by first | decide | omega) (Nu.mk1 g171 g174) (by first | decide | omega))⟩
    have q140 : ¬ (2147483648 = 2147483648) := q140
    exfalso; omega
  have q138 : ¬ (2147483705 < (h 2 (1 + u19))) := q138
  refine x_const (np := 13) (x := 9223372043297226753) (a := 2147483649) (by decide +kernel) (by decide) (by decide) ?_
  refine x_goto (np := 16) (x := 17) (by decide +kernel) ?_
  refine x_retI (np := 18) (x := 0) (by decide +kernel) (by decide) (Or.inr ⟨by decide +kernel, by first | decide | omega, by first | decide | omega⟩) ⟨_, rfl, (by decide), ?_⟩
  refine x_ifz (k := 0) (tg := 54) (np := 28) (by decide +kernel) (by decide) (by decide) (fun q176 => ?_) (fun q177 => ?_)
  · have q176 : 2147483649 = 2147483648 := q176
    exfalso; omega
  have q177 : ¬ (2147483649 = 2147483648) := q177
  refine x_iload (np := 29) (x := 3) (by decide +kernel) rfl (by first | decide | omega) ?_
  refine x_const (np := 31) (x := 9223372081951932426) (a := 2147483658) (by decide +kernel) (by decide) (by decide) ?_
  obtain ⟨u178, q179⟩ : ∃ z, v51 = 2147483648 + z := ⟨v51 - 2147483648, by first | decide | omega⟩
  refine x_imul (np := 32) (x := 0) (i := u178) (j := 10) (v := (2147483648 + 10 * u178)) (by decide +kernel) (by first | decide | omega) (by first | decide | omega) (by first | decide | omega) (by first | decide | omega) (by first | decide | omega) (by decide) ?_
  refine x_aload (np := 33) (x := 0) (by decide +kernel) rfl (x_nc_le (by decide)) ?_
  refine x_aload (np := 34) (x := 0) (by decide +kernel) rfl (x_nc_le (by decide)) ?_
  refine x_getC (np := 37) (x := 450) (f := 2) (q := (h 1 2)) (by decide +kernel) (by decide) (by decide +kernel) rfl (fun l181 => ?_)
  refine x_iload (np := 39) (x := 4) (by decide +kernel) rfl (by decide) ?_
  refine x_iadd (np := 40) (x := 0) (v := (1 + (h 1 2))) (by decide +kernel) l4 (by decide) (by first | decide | omega) (by first | decide | omega) ?_
  refine x_nI (t := 6) (mj := 81) (n := 2) (rc := 8) (ml := 2) (nr := 1) (np := 43) (as := [x_r 1, iv_c (1 + (h 1 2))]) (rest := [iv_c (2147483648 + 10 * u178)]) (lo1 := [x_r 1, iv_c (1 + (h 1 2))]) (by decide +kernel) (by decide) (by decide +kernel) (x_rb_of (by decide +kernel)) rfl rfl (x_wr (by decide) (x_wi (by first | decide | omega) x_wn)) (x_wi (by first | decide | omega) x_wn) (by decide) rfl ?_
  refine x_iload (np := 1) (x := 1) (by decide +kernel) rfl (by first | decide | omega) ?_
  refine x_aload (np := 2) (x := 0) (by decide +kernel) rfl (x_nc_le (by decide)) ?_
  refine x_getC (np := 5) (x := 449) (f := 1) (q := (h 1 1)) (by decide +kernel) (by decide) (by decide +kernel) rfl (fun l182 => ?_)
  refine x_icmp (k := 3) (tg := 17) (np := 8) (by decide +kernel) (by decide) (by first | decide | omega) l6 (fun q183 => ?_) (fun q184 => ?_)
  · have q183 : (h 1 1) ≤ (1 + (h 1 2)) := q183
    exfalso; omega
  have q184 : ¬ ((h 1 1) ≤ (1 + (h 1 2))) := q184
  refine x_aload (np := 9) (x := 0) (by decide +kernel) rfl (x_nc_le (by decide)) ?_
  have q185 : h 1 0 = 2 := by have z := jB (e := 0) 0 hJ rg_1_0_0_1 (by decide) (by decide); omega
  refine x_getR (np := 12) (x := 448) (f := 0) (q := 2) (by decide +kernel) (by decide) (by decide +kernel) q185 ?_
  refine x_iload (np := 13) (x := 1) (by decide +kernel) rfl (by first | decide | omega) ?_
  refine x_aldC (np := 14) (x := 0) (n := 400) (i := (1 + u19)) (q := (h 2 (1 + u19))) (by decide +kernel) (by decide +kernel) (by first | decide | omega) (by first | decide | omega) (by decide) rfl (fun l186 => ?_)
  refine x_goto (np := 17) (x := 18) (by decide +kernel) ?_
  refine x_retI (np := 19) (x := 0) (by decide +kernel) l97 (Or.inl (by decide +kernel)) ⟨_, rfl, l97, ?_⟩
  refine x_iadd (np := 44) (x := 0) (v := (10 * u178 + (h 2 (1 + u19)))) (by decide +kernel) (by first | decide | omega) l97 (by first | decide | omega) (by first | decide | omega) ?_
  refine x_const (np := 46) (x := 9223372245160689712) (a := 2147483696) (by decide +kernel) (by decide) (by decide) ?_
  obtain ⟨v187, q188⟩ : ∃ z, z + 2147483696 = (10 * u178 + (h 2 (1 + u19))) + 2147483648 := ⟨(10 * u178 + (h 2 (1 + u19))) + 2147483648 - 2147483696, by first | decide | omega⟩
  refine x_isub (np := 47) (x := 0) (v := v187) (by decide +kernel) (by first | decide | omega) (by decide) (by first | decide | omega) (by first | decide | omega) ?_
  refine x_istore (np := 48) (x := 3) (lo' := [x_r 1, iv_c 2147483648, iv_c a2, iv_c v187, iv_c 2147483649]) (by decide +kernel) (by first | decide | omega) (Nat.le_of_ble_eq_true rfl) rfl ?_
  refine x_iinc (np := 51) (i := 4) (j := 2147483649) (v := 2147483650) (lo' := [x_r 1, iv_c 2147483648, iv_c a2, iv_c v187, iv_c 2147483650]) (by decide +kernel) (by decide) (by decide) rfl (by decide) (by first | decide | omega) (by first | decide | omega) rfl ?_
  refine x_goto (np := 54) (x := 5) (by decide +kernel) ?_
  refine x_iload (np := 7) (x := 4) (by decide +kernel) rfl (by decide) ?_
  refine x_const (np := 8) (x := 9223372051887161347) (a := 2147483651) (by decide +kernel) (by decide) (by decide) ?_
  refine x_icmp (k := 4) (tg := 54) (np := 11) (by decide +kernel) (by decide) (by decide) (by decide) (fun q189 => ?_) (fun q190 => ?_)
  · have q189 : 2147483651 < 2147483650 := q189
    exfalso; omega
  have q190 : ¬ (2147483651 < 2147483650) := q190
  refine x_aload (np := 12) (x := 0) (by decide +kernel) rfl (x_nc_le (by decide)) ?_
  refine x_aload (np := 13) (x := 0) (by decide +kernel) rfl (x_nc_le (by decide)) ?_
  refine x_getC (np := 16) (x := 450) (f := 2) (q := (h 1 2)) (by decide +kernel) (by decide) (by decide +kernel) rfl (fun l191 => ?_)
  refine x_iload (np := 18) (x := 4) (by decide +kernel) rfl (by decide) ?_
  refine x_iadd (np := 19) (x := 0) (v := (2 + (h 1 2))) (by decide +kernel) l4 (by decide) (by first | decide | omega) (by first | decide | omega) ?_
  refine x_nI (t := 6) (mj := 81) (n := 2) (rc := 8) (ml := 2) (nr := 0) (np := 22) (as := [x_r 1, iv_c (2 + (h 1 2))]) (rest := []) (lo1 := [x_r 1, iv_c (2 + (h 1 2))]) (by decide +kernel) (by decide) (by decide +kernel) (x_rb_of (by decide +kernel)) rfl rfl (x_wr (by decide) (x_wi (by first | decide | omega) x_wn)) x_wn (by decide) rfl ?_
  refine x_iload (np := 1) (x := 1) (by decide +kernel) rfl (by first | decide | omega) ?_
  refine x_aload (np := 2) (x := 0) (by decide +kernel) rfl (x_nc_le (by decide)) ?_
  refine x_getC (np := 5) (x := 449) (f := 1) (q := (h 1 1)) (by decide +kernel) (by decide) (by decide +kernel) rfl (fun l192 => ?_)
  refine x_icmp (k := 3) (tg := 17) (np := 8) (by decide +kernel) (by decide) (by first | decide | omega) l6 (fun q193 => ?_) (fun q194 => ?_)
  · have q193 : (h 1 1) ≤ (2 + (h 1 2)) := q193
    refine x_const (np := 18) (x := 9223372034707292159) (a := 2147483647) (by decide +kernel) (by decide) (by decide) ?_
    refine x_retI (np := 19) (x := 0) (by decide +kernel) (by decide) (Or.inl (by decide +kernel)) ⟨_, rfl, (by decide), ?_⟩
    refine x_nI (t := 0) (mj := 82) (n := 1) (rc := 0) (ml := 1) (nr := 0) (np := 25) (as := [iv_c 2147483647]) (rest := []) (lo1 := [iv_c 2147483647]) (by decide +kernel) (by decide) (by decide +kernel) (Or.inl rfl) rfl rfl (x_wi (by decide) x_wn) x_wn (by decide) rfl ?_
    refine x_iload (np := 1) (x := 0) (by decide +kernel) rfl (by decide) ?_
    refine x_const (np := 3) (x := 9223372245160689712) (a := 2147483696) (by decide +kernel) (by decide) (by decide) ?_
    refine x_icmp (k := 2) (tg := 16) (np := 6) (by decide +kernel) (by decide) (by decide) (by decide) (fun q195 => ?_) (fun q196 => ?_)
    · have q195 : 2147483647 < 2147483696 := q195
      refine x_const (np := 17) (x := 9223372039002259456) (a := 2147483648) (by decide +kernel) (by decide) (by decide) ?_
      refine x_retI (np := 18) (x := 0) (by decide +kernel) (by decide) (Or.inr ⟨by decide +kernel, by first | decide | omega, by first | decide | omega⟩) ⟨_, rfl, (by decide), ?_⟩
      refine x_ifz (k := 0) (tg := 54) (np := 28) (by decide +kernel) (by decide) (by decide) (fun q197 => ?_) (fun q198 => ?_)
      · have q197 : 2147483648 = 2147483648 := q197
        refine x_iload (np := 56) (x := 4) (by decide +kernel) rfl (by decide) ?_
        refine x_ifz (k := 0) (tg := 75) (np := 59) (by decide +kernel) (by decide) (by decide) (fun q199 => ?_) (fun q200 => ?_)
        · have q199 : 2147483650 = 2147483648 := q199
          exfalso; omega
        have q200 : ¬ (2147483650 = 2147483648) := q200
        refine x_iload (np := 61) (x := 4) (by decide +kernel) rfl (by decide) ?_
        refine x_const (np := 62) (x := 9223372051887161347) (a := 2147483651) (by decide +kernel) (by decide) (by decide) ?_
        refine x_icmp (k := 4) (tg := 75) (np := 65) (by decide +kernel) (by decide) (by decide) (by decide) (fun q201 => ?_) (fun q202 => ?_)
        · have q201 : 2147483651 < 2147483650 := q201
          exfalso; omega
        have q202 : ¬ (2147483651 < 2147483650) := q202
        refine x_iload (np := 66) (x := 3) (by decide +kernel) rfl (by first | decide | omega) ?_
        refine x_iload (np := 67) (x := 1) (by decide +kernel) rfl (by decide) ?_
        refine x_icmp (k := 2) (tg := 75) (np := 70) (by decide +kernel) (by decide) (by first | decide | omega) (by decide) (fun q203 => ?_) (fun q204 => ?_)
        · have q203 : v187 < 2147483648 := q203
          exfalso; omega
        have q204 : ¬ (v187 < 2147483648) := q204
        refine x_iload (np := 71) (x := 3) (by decide +kernel) rfl (by first | decide | omega) ?_
        refine x_iload (np := 72) (x := 2) (by decide +kernel) rfl la2 ?_
        refine x_icmp (k := 5) (tg := 77) (np := 75) (by decide +kernel) (by decide) (by first | decide | omega) la2 (fun q205 => ?_) (fun q206 => ?_)
        · have q205 : v187 ≤ a2 := q205
          refine x_aload (np := 78) (x := 0) (by decide +kernel) rfl (x_nc_le (by decide)) ?_
          refine x_aload (np := 79) (x := 0) (by decide +kernel) rfl (x_nc_le (by decide)) ?_
          refine x_getC (np := 82) (x := 450) (f := 2) (q := (h 1 2)) (by decide +kernel) (by decide) (by decide +kernel) rfl (fun l207 => ?_)
          refine x_iload (np := 84) (x := 4) (by decide +kernel) rfl (by decide) ?_
          refine x_iadd (np := 85) (x := 0) (v := (2 + (h 1 2))) (by decide +kernel) l4 (by decide) (by first | decide | omega) (by first | decide | omega) ?_
          refine x_cV (t := 6) (mj := 80) (n := 2) (rc := 8) (ml := 2) (nr := 0) (np := 88) (as := [x_r 1, iv_c (2 + (h 1 2))]) (rest := []) (lo1 := [x_r 1, iv_c (2 + (h 1 2))]) (by decide +kernel) (by decide) (by decide +kernel) (x_rb_of (by decide +kernel)) rfl rfl (x_wr (by decide) (x_wi (by first | decide | omega) x_wn)) x_wn (by decide) rfl (c80_1 hJ  (by first | decide | omega) hT) (fun h211 q210 => ?_)
          obtain ⟨j212, f213, c216, c217⟩ := q210
          have f218 := Fr.trans hF f213 (by decide)
          have b219 := jB (e := 2) 0 j212 rg_1_2_0_1 (by first | decide | omega) (by first | decide | omega)
          refine x_iload (np := 89) (x := 3) (by decide +kernel) rfl (by first | decide | omega) ?_
          have z220 := hT.1
          have z221 := Tp.at (p := (h 1 2 + 0)) (u := u19) hT (by first | decide | omega) (by first | decide | omega)
          have g222 : Dg tB tN (h 1 2 + 0) := ⟨by first | decide | omega, by first | decide | omega, by first | decide | omega⟩
          have z223 := Tp.at (p := (h 1 2 + 1)) (u := (1 + u19)) hT (by first | decide | omega) (by first | decide | omega)
          have g224 : Dg tB tN (h 1 2 + 1) := ⟨by first | decide | omega, by first | decide | omega, by first | decide | omega⟩
          have z225 := hT.1
          have g226 : ¬ Dg tB tN (h 1 2 + 2) := fun z => by have z1 := z.1; have z2 := z.2.1; have z3 := z.2.2; omega
          have z227 := nv2 (B := tB) (p := h 1 2)
          refine x_retI (np := 90) (x := 0) (by decide +kernel) (by first | decide | omega) (Or.inl (by decide +kernel)) ⟨_, rfl, (by first | decide | omega), ?_⟩
          exact ⟨j212, f218, (by first | decide | omega), (by first | decide | omega), (fun z => by first | decide | omega), (fun z => by first | decide | omega), (Nr.yes (Nu.mk2 g222 g224 g226) (by first | decide | omega) (by first | decide | omega) (by first | decide | omega) c217 (by first | decide | omega))⟩
        have q206 : ¬ (v187 ≤ a2) := q206
        refine x_const (np := 76) (x := 9223372034707292159) (a := 2147483647) (by decide +kernel) (by decide) (by decide) ?_
        have z228 := hT.1
        have z229 := Tp.at (p := (h 1 2 + 0)) (u := u19) hT (by first | decide | omega) (by first | decide | omega)
        have g230 : Dg tB tN (h 1 2 + 0) := ⟨by first | decide | omega, by first | decide | omega, by first | decide | omega⟩
        have z231 := Tp.at (p := (h 1 2 + 1)) (u := (1 + u19)) hT (by first | decide | omega) (by first | decide | omega)
        have g232 : Dg tB tN (h 1 2 + 1) := ⟨by first | decide | omega, by first | decide | omega, by first | decide | omega⟩
        have z233 := hT.1
        have g234 : ¬ Dg tB tN (h 1 2 + 2) := fun z => by have z1 := z.1; have z2 := z.2.1; have z3 := z.2.2; omega
        have z235 := nv2 (B := tB) (p := h 1 2)
        refine x_retI (np := 77) (x := 0) (by decide +kernel) (by decide) (Or.inl (by decide +kernel)) ⟨_, rfl, (by decide), ?_⟩
        exact ⟨hJ, hF, (by first | decide | omega), (by first | decide | omega), (fun z => by first | decide | omega), (fun z => by first | decide | omega), (Nr.nor (by first | decide | omega) (Nu.mk2 g230 g232 g234) (by first | decide | omega))⟩
      have q198 : ¬ (2147483648 = 2147483648) := q198
      exfalso; omega
    have q196 : ¬ (2147483647 < 2147483696) := q196
    exfalso; omega
  have q194 : ¬ ((h 1 1) ≤ (2 + (h 1 2))) := q194
  refine x_aload (np := 9) (x := 0) (by decide +kernel) rfl (x_nc_le (by decide)) ?_
  have q236 : h 1 0 = 2 := by have z := jB (e := 0) 0 hJ rg_1_0_0_1 (by decide) (by decide); omega
  refine x_getR (np := 12) (x := 448) (f := 0) (q := 2) (by decide +kernel) (by decide) (by decide +kernel) q236 ?_
  refine x_iload (np := 13) (x := 1) (by decide +kernel) rfl (by first | decide | omega) ?_
  refine x_aldC (np := 14) (x := 0) (n := 400) (i := (2 + u19)) (q := (h 2 (2 + u19))) (by decide +kernel) (by decide +kernel) (by first | decide | omega) (by first | decide | omega) (by decide) rfl (fun l237 => ?_)
  refine x_goto (np := 17) (x := 18) (by decide +kernel) ?_
  refine x_retI (np := 19) (x := 0) (by decide +kernel) l237 (Or.inl (by decide +kernel)) ⟨_, rfl, l237, ?_⟩
  refine x_nI (t := 0) (mj := 82) (n := 1) (rc := 0) (ml := 1) (nr := 0) (np := 25) (as := [iv_c (h 2 (2 + u19))]) (rest := []) (lo1 := [iv_c (h 2 (2 + u19))]) (by decide +kernel) (by decide) (by decide +kernel) (Or.inl rfl) rfl rfl (x_wi l237 x_wn) x_wn (by decide) rfl ?_
  refine x_iload (np := 1) (x := 0) (by decide +kernel) rfl l237 ?_
  refine x_const (np := 3) (x := 9223372245160689712) (a := 2147483696) (by decide +kernel) (by decide) (by decide) ?_
  refine x_icmp (k := 2) (tg := 16) (np := 6) (by decide +kernel) (by decide) l237 (by decide) (fun q238 => ?_) (fun q239 => ?_)
  · have q238 : (h 2 (2 + u19)) < 2147483696 := q238
    refine x_const (np := 17) (x := 9223372039002259456) (a := 2147483648) (by decide +kernel) (by decide) (by decide) ?_
    refine x_retI (np := 18) (x := 0) (by decide +kernel) (by decide) (Or.inr ⟨by decide +kernel, by first | decide | omega, by first | decide | omega⟩) ⟨_, rfl, (by decide), ?_⟩
    refine x_ifz (k := 0) (tg := 54) (np := 28) (by decide +kernel) (by decide) (by decide) (fun q240 => ?_) (fun q241 => ?_)
    · have q240 : 2147483648 = 2147483648 := q240
      refine x_iload (np := 56) (x := 4) (by decide +kernel) rfl (by decide) ?_
      refine x_ifz (k := 0) (tg := 75) (np := 59) (by decide +kernel) (by decide) (by decide) (fun q242 => ?_) (fun q243 => ?_)
      · have q242 : 2147483650 = 2147483648 := q242
        exfalso; omega
      have q243 : ¬ (2147483650 = 2147483648) := q243
      refine x_iload (np := 61) (x := 4) (by decide +kernel) rfl (by decide) ?_
      refine x_const (np := 62) (x := 9223372051887161347) (a := 2147483651) (by decide +kernel) (by decide) (by decide) ?_
      refine x_icmp (k := 4) (tg := 75) (np := 65) (by decide +kernel) (by decide) (by decide) (by decide) (fun q244 => ?_) (fun q245 => ?_)
      · have q244 : 2147483651 < 2147483650 := q244
        exfalso; omega
      have q245 : ¬ (2147483651 < 2147483650) := q245
      refine x_iload (np := 66) (x := 3) (by decide +kernel) rfl (by first | decide | omega) ?_
      refine x_iload (np := 67) (x := 1) (by decide +kernel) rfl (by decide) ?_
      refine x_icmp (k := 2) (tg := 75) (np := 70) (by decide +kernel) (by decide) (by first | decide | omega) (by decide) (fun q246 => ?_) (fun q247 => ?_)
      · have q246 : v187 < 2147483648 := q246
        exfalso; omega
      have q247 : ¬ (v187 < 2147483648) := q247
      refine x_iload (np := 71) (x := 3) (by decide +kernel) rfl (by first | decide | omega) ?_
      refine x_iload (np := 72) (x := 2) (by decide +kernel) rfl la2 ?_
      refine x_icmp (k := 5) (tg := 77) (np := 75) (by decide +kernel) (by decide) (by first | decide | omega) la2 (fun q248 => ?_) (fun q249 => ?_)
      · have q248 : v187 ≤ a2 := q248
        refine x_aload (np := 78) (x := 0) (by decide +kernel) rfl (x_nc_le (by decide)) ?_
        refine x_aload (np := 79) (x := 0) (by decide +kernel) rfl (x_nc_le (by decide)) ?_
        refine x_getC (np := 82) (x := 450) (f := 2) (q := (h 1 2)) (by decide +kernel) (by decide) (by decide +kernel) rfl (fun l250 => ?_)
        refine x_iload (np := 84) (x := 4) (by decide +kernel) rfl (by decide) ?_
        refine x_iadd (np := 85) (x := 0) (v := (2 + (h 1 2))) (by decide +kernel) l4 (by decide) (by first | decide | omega) (by first | decide | omega) ?_
        refine x_cV (t := 6) (mj := 80) (n := 2) (rc := 8) (ml := 2) (nr := 0) (np := 88) (as := [x_r 1, iv_c (2 + (h 1 2))]) (rest := []) (lo1 := [x_r 1, iv_c (2 + (h 1 2))]) (by decide +kernel) (by decide) (by decide +kernel) (x_rb_of (by decide +kernel)) rfl rfl (x_wr (by decide) (x_wi (by first | decide | omega) x_wn)) x_wn (by decide) rfl (c80_1 hJ  (by first | decide | omega) hT) (fun h254 q253 => ?_)
        obtain ⟨j255, f256, c259, c260⟩ := q253
        have f261 := Fr.trans hF f256 (by decide)
        have b262 := jB (e := 2) 0 j255 rg_1_2_0_1 (by first | decide | omega) (by first | decide | omega)
        refine x_iload (np := 89) (x := 3) (by decide +kernel) rfl (by first | decide | omega) ?_
        have z263 := hT.1
        have z264 := Tp.at (p := (h 1 2 + 0)) (u := u19) hT (by first | decide | omega) (by first | decide | omega)
        have g265 : Dg tB tN (h 1 2 + 0) := ⟨by first | decide | omega, by first | decide | omega, by first | decide | omega⟩
        have z266 := Tp.at (p := (h 1 2 + 1)) (u := (1 + u19)) hT (by first | decide | omega) (by first | decide | omega)
        have g267 : Dg tB tN (h 1 2 + 1) := ⟨by first | decide | omega, by first | decide | omega, by first | decide | omega⟩
        have z268 := hT.1
        have z269 := Tp.at (p := (h 1 2 + 2)) (u := (2 + u19)) hT (by first | decide | omega) (by first | decide | omega)
        have g270 : ¬ Dg tB tN (h 1 2 + 2) := fun z => by have z1 := z.1; have z2 := z.2.1; have z3 := z.2.2; omega
        have z271 := nv2 (B := tB) (p := h 1 2)
        refine x_retI (np := 90) (x := 0) (by decide +kernel) (by first | decide | omega) (Or.inl (by decide +kernel)) ⟨_, rfl, (by first | decide | omega), ?_⟩
        exact ⟨j255, f261, (by first | decide | omega), (by first | decide | omega), (fun z => by first | decide | omega), (fun z => by first | decide | omega), (Nr.yes (Nu.mk2 g265 g267 g270) (by first | decide | omega) (by first | decide | omega) (by first | decide | omega) c260 (by first | decide | omega))⟩
      have q249 : ¬ (v187 ≤ a2) := q249
      refine x_const (np := 76) (x := 9223372034707292159) (a := 2147483647) (by decide +kernel) (by decide) (by decide) ?_
      have z272 := hT.1
      have z273 := Tp.at (p := (h 1 2 + 0)) (u := u19) hT (by first | decide | omega) (by first | decide | omega)
      have g274 : Dg tB tN (h 1 2 + 0) := ⟨by first | decide | omega, by first | decide | omega, by first | decide | omega⟩
      have z275 := Tp.at (p := (h 1 2 + 1)) (u := (1 + u19)) hT (by first | decide | omega) (by first | decide | omega)
      have g276 : Dg tB tN (h 1 2 + 1) := ⟨by first | decide | omega, by first | decide | omega, by first | decide | omega⟩
      have z277 := hT.1
      have z278 := Tp.at (p := (h 1 2 + 2)) (u := (2 + u19)) hT (by first | decide | omega) (by first | decide | omega)
      have g279 : ¬ Dg tB tN (h 1 2 + 2) := fun z => by have z1 := z.1; have z2 := z.2.1; have z3 := z.2.2; omega
      have z280 := nv2 (B := tB) (p := h 1 2)
      refine x_retI (np := 77) (x := 0) (by decide +kernel) (by decide) (Or.inl (by decide +kernel)) ⟨_, rfl, (by decide), ?_⟩
      exact ⟨hJ, hF, (by first | decide | omega), (by first | decide | omega), (fun z => by first | decide | omega), (fun z => by first | decide | omega), (Nr.nor (by first | decide | omega) (Nu.mk2 g274 g276 g279) (by first | decide | omega))⟩
    have q241 : ¬ (2147483648 = 2147483648) := q241
    exfalso; omega
  have q239 : ¬ ((h 2 (2 + u19)) < 2147483696) := q239
  refine x_iload (np := 7) (x := 0) (by decide +kernel) rfl l237 ?_
  refine x_const (np := 9) (x := 9223372283815395385) (a := 2147483705) (by decide +kernel) (by decide) (by decide) ?_
  refine x_icmp (k := 4) (tg := 16) (np := 12) (by decide +kernel) (by decide) l237 (by decide) (fun q281 => ?_) (fun q282 => ?_)
  · have q281 : 2147483705 < (h 2 (2 + u19)) := q281
    refine x_const (np := 17) (x := 9223372039002259456) (a := 2147483648) (by decide +kernel) (by decide) (by decide) ?_
    refine x_retI (np := 18) (x := 0) (by decide +kernel) (by decide) (Or.inr ⟨by decide +kernel, by first | decide | omega, by first | decide | omega⟩) ⟨_, rfl, (by decide), ?_⟩
    refine x_ifz (k := 0) (tg := 54) (np := 28) (by decide +kernel) (by decide) (by decide) (fun q283 => ?_) (fun q284 => ?_)
    · have q283 : 2147483648 = 2147483648 := q283
      refine x_iload (np := 56) (x := 4) (by decide +kernel) rfl (by decide) ?_
      refine x_ifz (k := 0) (tg := 75) (np := 59) (by decide +kernel) (by decide) (by decide) (fun q285 => ?_) (fun q286 => ?_)
      · have q285 : 2147483650 = 2147483648 := q285
        exfalso; omega
      have q286 : ¬ (2147483650 = 2147483648) := q286
      refine x_iload (np := 61) (x := 4) (by decide +kernel) rfl (by decide) ?_
      refine x_const (np := 62) (x := 9223372051887161347) (a := 2147483651) (by decide +kernel) (by decide) (by decide) ?_
      refine x_icmp (k := 4) (tg := 75) (np := 65) (by decide +kernel) (by decide) (by decide) (by decide) (fun q287 => ?_) (fun q288 => ?_)
      · have q287 : 2147483651 < 2147483650 := q287
        exfalso; omega
      have q288 : ¬ (2147483651 < 2147483650) := q288
      refine x_iload (np := 66) (x := 3) (by decide +kernel) rfl (by first | decide | omega) ?_
      refine x_iload (np := 67) (x := 1) (by decide +kernel) rfl (by decide) ?_
      refine x_icmp (k := 2) (tg := 75) (np := 70) (by decide +kernel) (by decide) (by first | decide | omega) (by decide) (fun q289 => ?_) (fun q290 => ?_)
      · have q289 : v187 < 2147483648 := q289
        exfalso; omega
      have q290 : ¬ (v187 < 2147483648) := q290
      refine x_iload (np := 71) (x := 3) (by decide +kernel) rfl (by first | decide | omega) ?_
      refine x_iload (np := 72) (x := 2) (by decide +kernel) rfl la2 ?_
      refine x_icmp (k := 5) (tg := 77) (np := 75) (by decide +kernel) (by decide) (by first | decide | omega) la2 (fun q291 => ?_) (fun q292 => ?_)
      · have q291 : v187 ≤ a2 := q291
        refine x_aload (np := 78) (x := 0) (by decide +kernel) rfl (x_nc_le (by decide)) ?_
        refine x_aload (np := 79) (x := 0) (by decide +kernel) rfl (x_nc_le (by decide)) ?_
        refine x_getC (np := 82) (x := 450) (f := 2) (q := (h 1 2)) (by decide +kernel) (by decide) (by decide +kernel) rfl (fun l293 => ?_)
        refine x_iload (np := 84) (x := 4) (by decide +kernel) rfl (by decide) ?_
        refine x_iadd (np := 85) (x := 0) (v := (2 + (h 1 2))) (by decide +kernel) l4 (by decide) (by first | decide | omega) (by first | decide | omega) ?_
        refine x_cV (t := 6) (mj := 80) (n := 2) (rc := 8) (ml := 2) (nr := 0) (np := 88) (as := [x_r 1, iv_c (2 + (h 1 2))]) (rest := []) (lo1 := [x_r 1, iv_c (2 + (h 1 2))]) (by decide +kernel) (by decide) (by decide +kernel) (x_rb_of (by decide +kernel)) rfl rfl (x_wr (by decide) (x_wi (by first | decide | omega) x_wn)) x_wn (by decide) rfl (c80_1 hJ  (by first | decide | omega) hT) (fun h297 q296 => ?_)
        obtain ⟨j298, f299, c302, c303⟩ := q296
        have f304 := Fr.trans hF f299 (by decide)
        have b305 := jB (e := 2) 0 j298 rg_1_2_0_1 (by first | decide | omega) (by first | decide | omega)
        refine x_iload (np := 89) (x := 3) (by decide +kernel) rfl (by first | decide | omega) ?_
        have z306 := hT.1
        have z307 := Tp.at (p := (h 1 2 + 0)) (u := u19) hT (by first | decide | omega) (by first | decide | omega)
        have g308 : Dg tB tN (h 1 2 + 0) := ⟨by first | decide | omega, by first | decide | omega, by first | decide | omega⟩
        have z309 := Tp.at (p := (h 1 2 + 1)) (u := (1 + u19)) hT (by first | decide | omega) (by first | decide | omega)
        have g310 : Dg tB tN (h 1 2 + 1) := ⟨by first | decide | omega, by first | decide | omega, by first | decide | omega⟩
        have z311 := hT.1
        have z312 := Tp.at (p := (h 1 2 + 2)) (u := (2 + u19)) hT (by first | decide | omega) (by first | decide | omega)
        have g313 : ¬ Dg tB tN (h 1 2 + 2) := fun z => by have z1 := z.1; have z2 := z.2.1; have z3 := z.2.2; omega
        have z314 := nv2 (B := tB) (p := h 1 2)
        refine x_retI (np := 90) (x := 0) (by decide +kernel) (by first | decide | omega) (Or.inl (by decide +kernel)) ⟨_, rfl, (by first | decide | omega), ?_⟩
        exact ⟨j298, f304, (by first | decide | omega), (by first | decide | omega), (fun z => by first | decide | omega), (fun z => by first | decide | omega), (Nr.yes (Nu.mk2 g308 g310 g313) (by first | decide | omega) (by first | decide | omega) (by first | decide | omega) c303 (by first | decide | omega))⟩
      have q292 : ¬ (v187 ≤ a2) := q292
      refine x_const (np := 76) (x := 9223372034707292159) (a := 2147483647) (by decide +kernel) (by decide) (by decide) ?_
      have z315 := hT.1
      have z316 := Tp.at (p := (h 1 2 + 0)) (u := u19) hT (by first | decide | omega) (by first | decide | omega)
      have g317 : Dg tB tN (h 1 2 + 0) := ⟨by first | decide | omega, by first | decide | omega, by first | decide | omega⟩
      have z318 := Tp.at (p := (h 1 2 + 1)) (u := (1 + u19)) hT (by first | decide | omega) (by first | decide | omega)
      have g319 : Dg tB tN (h 1 2 + 1) := ⟨by first | decide | omega, by first | decide | omega, by first | decide | omega⟩
      have z320 := hT.1
      have z321 := Tp.at (p := (h 1 2 + 2)) (u := (2 + u19)) hT (by first | decide | omega) (by first | decide | omega)
      have g322 : ¬ Dg tB tN (h 1 2 + 2) := fun z => by have z1 := z.1; have z2 := z.2.1; have z3 := z.2.2; omega
      have z323 := nv2 (B := tB) (p := h 1 2)
      refine x_retI (np := 77) (x := 0) (by decide +kernel) (by decide) (Or.inl (by decide +kernel)) ⟨_, rfl, (by decide), ?_⟩
      exact ⟨hJ, hF, (by first | decide | omega), (by first | decide | omega), (fun z => by first | decide | omega), (fun z => by first | decide | omega), (Nr.nor (by first | decide | omega) (Nu.mk2 g317 g319 g322) (by first | decide | omega))⟩
    have q284 : ¬ (2147483648 = 2147483648) := q284
    exfalso; omega
  have q282 : ¬ (2147483705 < (h 2 (2 + u19))) := q282
  refine x_const (np := 13) (x := 9223372043297226753) (a := 2147483649) (by decide +kernel) (by decide) (by decide) ?_
  refine x_goto (np := 16) (x := 17) (by decide +kernel) ?_
  refine x_retI (np := 18) (x := 0) (by decide +kernel) (by decide) (Or.inr ⟨by decide +kernel, by first | decide | omega, by first | decide | omega⟩) ⟨_, rfl, (by decide), ?_⟩
  refine x_ifz (k := 0) (tg := 54) (np := 28) (by decide +kernel) (by decide) (by decide) (fun q324 => ?_) (fun q325 => ?_)
  · have q324 : 2147483649 = 2147483648 := q324
    exfalso; omega
  have q325 : ¬ (2147483649 = 2147483648) := q325
  refine x_iload (np := 29) (x := 3) (by decide +kernel) rfl (by first | decide | omega) ?_
  refine x_const (np := 31) (x := 9223372081951932426) (a := 2147483658) (by decide +kernel) (by decide) (by decide) ?_
  obtain ⟨u326, q327⟩ : ∃ z, v187 = 2147483648 + z := ⟨v187 - 2147483648, by first | decide | omega⟩
  refine x_imul (np := 32) (x := 0) (i := u326) (j := 10) (v := (2147483648 + 10 * u326)) (by decide +kernel) (by first | decide | omega) (by first | decide | omega) (by first | decide | omega) (by first | decide | omega) (by first | decide | omega) (by decide) ?_
  refine x_aload (np := 33) (x := 0) (by decide +kernel) rfl (x_nc_le (by decide)) ?_
  refine x_aload (np := 34) (x := 0) (by decide +kernel) rfl (x_nc_le (by decide)) ?_
  refine x_getC (np := 37) (x := 450) (f := 2) (q := (h 1 2)) (by decide +kernel) (by decide) (by decide +kernel) rfl (fun l329 => ?_)
  refine x_iload (np := 39) (x := 4) (by decide +kernel) rfl (by decide) ?_
  refine x_iadd (np := 40) (x := 0) (v := (2 + (h 1 2))) (by decide +kernel) l4 (by decide) (by first | decide | omega) (by first | decide | omega) ?_
  refine x_nI (t := 6) (mj := 81) (n := 2) (rc := 8) (ml := 2) (nr := 1) (np := 43) (as := [x_r 1, iv_c (2 + (h 1 2))]) (rest := [iv_c (2147483648 + 10 * u326)]) (lo1 := [x_r 1, iv_c (2 + (h 1 2))]) (by decide +kernel) (by decide) (by decide +kernel) (x_rb_of (by decide +kernel)) rfl rfl (x_wr (by decide) (x_wi (by first | decide | omega) x_wn)) (x_wi (by first | decide | omega) x_wn) (by decide) rfl ?_
  refine x_iload (np := 1) (x := 1) (by decide +kernel) rfl (by first | decide | omega) ?_
  refine x_aload (np := 2) (x := 0) (by decide +kernel) rfl (x_nc_le (by decide)) ?_
  refine x_getC (np := 5) (x := 449) (f := 1) (q := (h 1 1)) (by decide +kernel) (by decide) (by decide +kernel) rfl (fun l330 => ?_)
  refine x_icmp (k := 3) (tg := 17) (np := 8) (by decide +kernel) (by decide) (by first | decide | omega) l6 (fun q331 => ?_) (fun q332 => ?_)
  · have q331 : (h 1 1) ≤ (2 + (h 1 2)) := q331
    exfalso; omega
  have q332 : ¬ ((h 1 1) ≤ (2 + (h 1 2))) := q332
  refine x_aload (np := 9) (x := 0) (by decide +kernel) rfl (x_nc_le (by decide)) ?_
  have q333 : h 1 0 = 2 := by have z := jB (e := 0) 0 hJ rg_1_0_0_1 (by decide) (by decide); omega
  refine x_getR (np := 12) (x := 448) (f := 0) (q := 2) (by decide +kernel) (by decide) (by decide +kernel) q333 ?_
  refine x_iload (np := 13) (x := 1) (by decide +kernel) rfl (by first | decide | omega) ?_
  refine x_aldC (np := 14) (x := 0) (n := 400) (i := (2 + u19)) (q := (h 2 (2 + u19))) (by decide +kernel) (by decide +kernel) (by first | decide | omega) (by first | decide | omega) (by decide) rfl (fun l334 => ?_)
  refine x_goto (np := 17) (x := 18) (by decide +kernel) ?_
  refine x_retI (np := 19) (x := 0) (by decide +kernel) l237 (Or.inl (by decide +kernel)) ⟨_, rfl, l237, ?_⟩
  refine x_iadd (np := 44) (x := 0) (v := (10 * u326 + (h 2 (2 + u19)))) (by decide +kernel) (by first | decide | omega) l237 (by first | decide | omega) (by first | decide | omega) ?_
  refine x_const (np := 46) (x := 9223372245160689712) (a := 2147483696) (by decide +kernel) (by decide) (by decide) ?_
  obtain ⟨v335, q336⟩ : ∃ z, z + 2147483696 = (10 * u326 + (h 2 (2 + u19))) + 2147483648 := ⟨(10 * u326 + (h 2 (2 + u19))) + 2147483648 - 2147483696, by first | decide | omega⟩
  refine x_isub (np := 47) (x := 0) (v := v335) (by decide +kernel) (by first | decide | omega) (by decide) (by first | decide | omega) (by first | decide | omega) ?_
  refine x_istore (np := 48) (x := 3) (lo' := [x_r 1, iv_c 2147483648, iv_c a2, iv_c v335, iv_c 2147483650]) (by decide +kernel) (by first | decide | omega) (Nat.le_of_ble_eq_true rfl) rfl ?_
  refine x_iinc (np := 51) (i := 4) (j := 2147483649) (v := 2147483651) (lo' := [x_r 1, iv_c 2147483648, iv_c a2, iv_c v335, iv_c 2147483651]) (by decide +kernel) (by decide) (by decide) rfl (by decide) (by first | decide | omega) (by first | decide | omega) rfl ?_
  refine x_goto (np := 54) (x := 5) (by decide +kernel) ?_
  refine x_iload (np := 7) (x := 4) (by decide +kernel) rfl (by decide) ?_
  refine x_const (np := 8) (x := 9223372051887161347) (a := 2147483651) (by decide +kernel) (by decide) (by decide) ?_
  refine x_icmp (k := 4) (tg := 54) (np := 11) (by decide +kernel) (by decide) (by decide) (by decide) (fun q337 => ?_) (fun q338 => ?_)
  · have q337 : 2147483651 < 2147483651 := q337
    exfalso; omega
  have q338 : ¬ (2147483651 < 2147483651) := q338
  refine x_aload (np := 12) (x := 0) (by decide +kernel) rfl (x_nc_le (by decide)) ?_
  refine x_aload (np := 13) (x := 0) (by decide +kernel) rfl (x_nc_le (by decide)) ?_
  refine x_getC (np := 16) (x := 450) (f := 2) (q := (h 1 2)) (by decide +kernel) (by decide) (by decide +kernel) rfl (fun l339 => ?_)
  refine x_iload (np := 18) (x := 4) (by decide +kernel) rfl (by decide) ?_
  refine x_iadd (np := 19) (x := 0) (v := (3 + (h 1 2))) (by decide +kernel) l4 (by decide) (by first | decide | omega) (by first | decide | omega) ?_
  refine x_nI (t := 6) (mj := 81) (n := 2) (rc := 8) (ml := 2) (nr := 0) (np := 22) (as := [x_r 1, iv_c (3 + (h 1 2))]) (rest := []) (lo1 := [x_r 1, iv_c (3 + (h 1 2))]) (by decide +kernel) (by decide) (by decide +kernel) (x_rb_of (by decide +kernel)) rfl rfl (x_wr (by decide) (x_wi (by first | decide | omega) x_wn)) x_wn (by decide) rfl ?_
  refine x_iload (np := 1) (x := 1) (by decide +kernel) rfl (by first | decide | omega) ?_
  refine x_aload (np := 2) (x := 0) (by decide +kernel) rfl (x_nc_le (by decide)) ?_
  refine x_getC (np := 5) (x := 449) (f := 1) (q := (h 1 1)) (by decide +kernel) (by decide) (by decide +kernel) rfl (fun l340 => ?_)
  refine x_icmp (k := 3) (tg := 17) (np := 8) (by decide +kernel) (by decide) (by first | decide | omega) l6 (fun q341 => ?_) (fun q342 => ?_)
  · have q341 : (h 1 1) ≤ (3 + (h 1 2)) := q341
    refine x_const (np := 18) (x := 9223372034707292159) (a := 2147483647) (by decide +kernel) (by decide) (by decide) ?_
    refine x_retI (np := 19) (x := 0) (by decide +kernel) (by decide) (Or.inl (by decide +kernel)) ⟨_, rfl, (by decide), ?_⟩
    refine x_nI (t := 0) (mj := 82) (n := 1) (rc := 0) (ml := 1) (nr := 0) (np := 25) (as := [iv_c 2147483647]) (rest := []) (lo1 := [iv_c 2147483647]) (by decide +kernel) (by decide) (by decide +kernel) (Or.inl rfl) rfl rfl (x_wi (by decide) x_wn) x_wn (by decide) rfl ?_
    refine x_iload (np := 1) (x := 0) (by decide +kernel) rfl (by decide) ?_
    refine x_const (np := 3) (x := 9223372245160689712) (a := 2147483696) (by decide +kernel) (by decide) (by decide) ?_
    refine x_icmp (k := 2) (tg := 16) (np := 6) (by decide +kernel) (by decide) (by decide) (by decide) (fun q343 => ?_) (fun q344 => ?_)
    · have q343 : 2147483647 < 2147483696 := q343
      refine x_const (np := 17) (x := 9223372039002259456) (a := 2147483648) (by decide +kernel) (by decide) (by decide) ?_
      refine x_retI (np := 18) (x := 0) (by decide +kernel) (by decide) (Or.inr ⟨by decide +kernel, by first | decide | omega, by first | decide | omega⟩) ⟨_, rfl, (by decide), ?_⟩
      refine x_ifz (k := 0) (tg := 54) (np := 28) (by decide +kernel) (by decide) (by decide) (fun q345 => ?_) (fun q346 => ?_)
      · have q345 : 2147483648 = 2147483648 := q345
        refine x_iload (np := 56) (x := 4) (by decide +kernel) rfl (by decide) ?_
        refine x_ifz (k := 0) (tg := 75) (np := 59) (by decide +kernel) (by decide) (by decide) (fun q347 => ?_) (fun q348 => ?_)
        · have q347 : 2147483651 = 2147483648 := q347
          exfalso; omega
        have q348 : ¬ (2147483651 = 2147483648) := q348
        refine x_iload (np := 61) (x := 4) (by decide +kernel) rfl (by decide) ?_
        refine x_const (np := 62) (x := 9223372051887161347) (a := 2147483651) (by decide +kernel) (by decide) (by decide) ?_
        refine x_icmp (k := 4) (tg := 75) (np := 65) (by decide +kernel) (by decide) (by decide) (by decide) (fun q349 => ?_) (fun q350 => ?_)
        · have q349 : 2147483651 < 2147483651 := q349
          exfalso; omega
        have q350 : ¬ (2147483651 < 2147483651) := q350
        refine x_iload (np := 66) (x := 3) (by decide +kernel) rfl (by first | decide | omega) ?_
        refine x_iload (np := 67) (x := 1) (by decide +kernel) rfl (by decide) ?_
        refine x_icmp (k := 2) (tg := 75) (np := 70) (by decide +kernel) (by decide) (by first | decide | omega) (by decide) (fun q351 => ?_) (fun q352 => ?_)
        · have q351 : v335 < 2147483648 := q351
          exfalso; omega
        have q352 : ¬ (v335 < 2147483648) := q352
        refine x_iload (np := 71) (x := 3) (by decide +kernel) rfl (by first | decide | omega) ?_
        refine x_iload (np := 72) (x := 2) (by decide +kernel) rfl la2 ?_
        refine x_icmp (k := 5) (tg := 77) (np := 75) (by decide +kernel) (by decide) (by first | decide | omega) la2 (fun q353 => ?_) (fun q354 => ?_)
        · have q353 : v335 ≤ a2 := q353
          refine x_aload (np := 78) (x := 0) (by decide +kernel) rfl (x_nc_le (by decide)) ?_
          refine x_aload (np := 79) (x := 0) (by decide +kernel) rfl (x_nc_le (by decide)) ?_
          refine x_getC (np := 82) (x := 450) (f := 2) (q := (h 1 2)) (by decide +kernel) (by decide) (by decide +kernel) rfl (fun l355 => ?_)
          refine x_iload (np := 84) (x := 4) (by decide +kernel) rfl (by decide) ?_
          refine x_iadd (np := 85) (x := 0) (v := (3 + (h 1 2))) (by decide +kernel) l4 (by decide) (by first | decide | omega) (by first | decide | omega) ?_
          refine x_cV (t := 6) (mj := 80) (n := 2) (rc := 8) (ml := 2) (nr := 0) (np := 88) (as := [x_r 1, iv_c (3 + (h 1 2))]) (rest := []) (lo1 := [x_r 1, iv_c (3 + (h 1 2))]) (by decide +kernel) (by decide) (by decide +kernel) (x_rb_of (by decide +kernel)) rfl rfl (x_wr (by decide) (x_wi (by first | decide | omega) x_wn)) x_wn (by decide) rfl (c80_1 hJ  (by first | decide | omega) hT) (fun h359 q358 => ?_)
          obtain ⟨j360, f361, c364, c365⟩ := q358
          have f366 := Fr.trans hF f361 (by decide)
          have b367 := jB (e := 2) 0 j360 rg_1_2_0_1 (by first | decide | omega) (by first | decide | omega)
          refine x_iload (np := 89) (x := 3) (by decide +kernel) rfl (by first | decide | omega) ?_
          have z368 := hT.1
          have z369 := Tp.at (p := (h 1 2 + 0)) (u := u19) hT (by first | decide | omega) (by first | decide | omega)
          have g370 : Dg tB tN (h 1 2 + 0) := ⟨by first | decide | omega, by first | decide | omega, by first | decide | omega⟩
          have z371 := Tp.at (p := (h 1 2 + 1)) (u := (1 + u19)) hT (by first | decide | omega) (by first | decide | omega)
          have g372 : Dg tB tN (h 1 2 + 1) := ⟨by first | decide | omega, by first | decide | omega, by first | decide | omega⟩
          have z373 := Tp.at (p := (h 1 2 + 2)) (u := (2 + u19)) hT (by first | decide | omega) (by first | decide | omega)
          have g374 : Dg tB tN (h 1 2 + 2) := ⟨by first | decide | omega, by first | decide | omega, by first | decide | omega⟩
          have z375 := hT.1
          have g376 : ¬ Dg tB tN (h 1 2 + 3) := fun z => by have z1 := z.1; have z2 := z.2.1; have z3 := z.2.2; omega
          have z377 := nv3 (B := tB) (p := h 1 2)
          refine x_retI (np := 90) (x := 0) (by decide +kernel) (by first | decide | omega) (Or.inl (by decide +kernel)) ⟨_, rfl, (by first | decide | omega), ?_⟩
          exact ⟨j360, f366, (by first | decide | omega), (by first | decide | omega), (fun z => by first | decide | omega), (fun z => by first | decide | omega), (Nr.yes (Nu.mk3 g370 g372 g374 g376) (by first | decide | omega) (by first | decide | omega) (by first | decide | omega) c365 (by first | decide | omega))⟩
        have q354 : ¬ (v335 ≤ a2) := q354
        refine x_const (np := 76) (x := 9223372034707292159) (a := 2147483647) (by decide +kernel) (by decide) (by decide) ?_
        have z378 := hT.1
        have z379 := Tp.at (p := (h 1 2 + 0)) (u := u19) hT (by first | decide | omega) (by first | decide | omega)
        have g380 : Dg tB tN (h 1 2 + 0) := ⟨by first | decide | omega, by first | decide | omega, by first | decide | omega⟩
        have z381 := Tp.at (p := (h 1 2 + 1)) (u := (1 + u19)) hT (by first | decide | omega) (by first | decide | omega)
        have g382 : Dg tB tN (h 1 2 + 1) := ⟨by first | decide | omega, by first | decide | omega, by first | decide | omega⟩
        have z383 := Tp.at (p := (h 1 2 + 2)) (u := (2 + u19)) hT (by first | decide | omega) (by first | decide | omega)
        have g384 : Dg tB tN (h 1 2 + 2) := ⟨by first | decide | omega, by first | decide | omega, by first | decide | omega⟩
        have z385 := hT.1
        have g386 : ¬ Dg tB tN (h 1 2 + 3) := fun z => by have z1 := z.1; have z2 := z.2.1; have z3 := z.2.2; omega
        have z387 := nv3 (B := tB) (p := h 1 2)
        refine x_retI (np := 77) (x := 0) (by decide +kernel) (by decide) (Or.inl (by decide +kernel)) ⟨_, rfl, (by decide), ?_⟩
        exact ⟨hJ, hF, (by first | decide | omega), (by first | decide | omega), (fun z => by first | decide | omega), (fun z => by first | decide | omega), (Nr.nor (by first | decide | omega) (Nu.mk3 g380 g382 g384 g386) (by first | decide | omega))⟩
      have q346 : ¬ (2147483648 = 2147483648) := q346
      exfalso; omega
    have q344 : ¬ (2147483647 < 2147483696) := q344
    exfalso; omega
  have q342 : ¬ ((h 1 1) ≤ (3 + (h 1 2))) := q342
  refine x_aload (np := 9) (x := 0) (by decide +kernel) rfl (x_nc_le (by decide)) ?_
  have q388 : h 1 0 = 2 := by have z := jB (e := 0) 0 hJ rg_1_0_0_1 (by decide) (by decide); omega
  refine x_getR (np := 12) (x := 448) (f := 0) (q := 2) (by decide +kernel) (by decide) (by decide +kernel) q388 ?_
  refine x_iload (np := 13) (x := 1) (by decide +kernel) rfl (by first | decide | omega) ?_
  refine x_aldC (np := 14) (x := 0) (n := 400) (i := (3 + u19)) (q := (h 2 (3 + u19))) (by decide +kernel) (by decide +kernel) (by first | decide | omega) (by first | decide | omega) (by decide) rfl (fun l389 => ?_)
  refine x_goto (np := 17) (x := 18) (by decide +kernel) ?_
  refine x_retI (np := 19) (x := 0) (by decide +kernel) l389 (Or.inl (by decide +kernel)) ⟨_, rfl, l389, ?_⟩
  refine x_nI (t := 0) (mj := 82) (n := 1) (rc := 0) (ml := 1) (nr := 0) (np := 25) (as := [iv_c (h 2 (3 + u19))]) (rest := []) (lo1 := [iv_c (h 2 (3 + u19))]) (by decide +kernel) (by decide) (by decide +kernel) (Or.inl rfl) rfl rfl (x_wi l389 x_wn) x_wn (by decide) rfl ?_
  refine x_iload (np := 1) (x := 0) (by decide +kernel) rfl l389 ?_
  refine x_const (np := 3) (x := 9223372245160689712) (a := 2147483696) (by decide +kernel) (by decide) (by decide) ?_
  refine x_icmp (k := 2) (tg := 16) (np := 6) (by decide +kernel) (by decide) l389 (by decide) (fun q390 => ?_) (fun q391 => ?_)
  · have q390 : (h 2 (3 + u19)) < 2147483696 := q390
    refine x_const (np := 17) (x := 9223372039002259456) (a := 2147483648) (by decide +kernel) (by decide) (by decide) ?_
    refine x_retI (np := 18) (x := 0) (by decide +kernel) (by decide) (Or.inr ⟨by decide +kernel, by first | decide | omega, by first | decide | omega⟩) ⟨_, rfl, (by decide), ?_⟩
    refine x_ifz (k := 0) (tg := 54) (np := 28) (by decide +kernel) (by decide) (by decide) (fun q392 => ?_) (fun q393 => ?_)
    · have q392 : 2147483648 = 2147483648 := q392
      refine x_iload (np := 56) (x := 4) (by decide +kernel) rfl (by decide) ?_
      refine x_ifz (k := 0) (tg := 75) (np := 59) (by decide +kernel) (by decide) (by decide) (fun q394 => ?_) (fun q395 => ?_)
      · have q394 : 2147483651 = 2147483648 := q394
        exfalso; omega
      have q395 : ¬ (2147483651 = 2147483648) := q395
      refine x_iload (np := 61) (x := 4) (by decide +kernel) rfl (by decide) ?_
      refine x_const (np := 62) (x := 9223372051887161347) (a := 2147483651) (by decide +kernel) (by decide) (by decide) ?_
      refine x_icmp (k := 4) (tg := 75) (np := 65) (by decide +kernel) (by decide) (by decide) (by decide) (fun q396 => ?_) (fun q397 => ?_)
      · have q396 : 2147483651 < 2147483651 := q396
        exfalso; omega
      have q397 : ¬ (2147483651 < 2147483651) := q397
      refine x_iload (np := 66) (x := 3) (by decide +kernel) rfl (by first | decide | omega) ?_
      refine x_iload (np := 67) (x := 1) (by decide +kernel) rfl (by decide) ?_
      refine x_icmp (k := 2) (tg := 75) (np := 70) (by decide +kernel) (by decide) (by first | decide | omega) (by decide) (fun q398 => ?_) (fun q399 => ?_)
      · have q398 : v335 < 2147483648 := q398
        exfalso; omega
      have q399 : ¬ (v335 < 2147483648) := q399
      refine x_iload (np := 71) (x := 3) (by decide +kernel) rfl (by first | decide | omega) ?_
      refine x_iload (np := 72) (x := 2) (by decide +kernel) rfl la2 ?_
      refine x_icmp (k := 5) (tg := 77) (np := 75) (by decide +kernel) (by decide) (by first | decide | omega) la2 (fun q400 => ?_) (fun q401 => ?_)
      · have q400 : v335 ≤ a2 := q400
        refine x_aload (np := 78) (x := 0) (by decide +kernel) rfl (x_nc_le (by decide)) ?_
        refine x_aload (np := 79) (x := 0) (by decide +kernel) rfl (x_nc_le (by decide)) ?_
        refine x_getC (np := 82) (x := 450) (f := 2) (q := (h 1 2)) (by decide +kernel) (by decide) (by decide +kernel) rfl (fun l402 => ?_)
        refine x_iload (np := 84) (x := 4) (by decide +kernel) rfl (by decide) ?_
        refine x_iadd (np := 85) (x := 0) (v := (3 + (h 1 2))) (by decide +kernel) l4 (by decide) (by first | decide | omega) (by first | decide | omega) ?_
        refine x_cV (t := 6) (mj := 80) (n := 2) (rc := 8) (ml := 2) (nr := 0) (np := 88) (as := [x_r 1, iv_c (3 + (h 1 2))]) (rest := []) (lo1 := [x_r 1, iv_c (3 + (h 1 2))]) (by decide +kernel) (by decide) (by decide +kernel) (x_rb_of (by decide +kernel)) rfl rfl (x_wr (by decide) (x_wi (by first | decide | omega) x_wn)) x_wn (by decide) rfl (c80_1 hJ  (by first | decide | omega) hT) (fun h406 q405 => ?_)
        obtain ⟨j407, f408, c411, c412⟩ := q405
        have f413 := Fr.trans hF f408 (by decide)
        have b414 := jB (e := 2) 0 j407 rg_1_2_0_1 (by first | decide | omega) (by first | decide | omega)
        refine x_iload (np := 89) (x := 3) (by decide +kernel) rfl (by first | decide | omega) ?_
        have z415 := hT.1
        have z416 := Tp.at (p := (h 1 2 + 0)) (u := u19) hT (by first | decide | omega) (by first | decide | omega)
        have g417 : Dg tB tN (h 1 2 + 0) := ⟨by first | decide | omega, by first | decide | omega, by first | decide | omega⟩
        have z418 := Tp.at (p := (h 1 2 + 1)) (u := (1 + u19)) hT (by first | decide | omega) (by first | decide | omega)
        have g419 : Dg tB tN (h 1 2 + 1) := ⟨by first | decide | omega, by first | decide | omega, by first | decide | omega⟩
        have z420 := Tp.at (p := (h 1 2 + 2)) (u := (2 + u19)) hT (by first | decide | omega) (by first | decide | omega)
        have g421 : Dg tB tN (h 1 2 + 2) := ⟨by first | decide | omega, by first | decide | omega, by first | decide | omega⟩
        have z422 := hT.1
        have z423 := Tp.at (p := (h 1 2 + 3)) (u := (3 + u19)) hT (by first | decide | omega) (by first | decide | omega)
        have g424 : ¬ Dg tB tN (h 1 2 + 3) := fun z => by have z1 := z.1; have z2 := z.2.1; have z3 := z.2.2; omega
        have z425 := nv3 (B := tB) (p := h 1 2)
        refine x_retI (np := 90) (x := 0) (by decide +kernel) (by first | decide | omega) (Or.inl (by decide +kernel)) ⟨_, rfl, (by first | decide | omega), ?_⟩
        exact ⟨j407, f413, (by first | decide | omega), (by first | decide | omega), (fun z => by first | decide | omega), (fun z => by first | decide | omega), (Nr.yes (Nu.mk3 g417 g419 g421 g424) (by first | decide | omega) (by first | decide | omega) (by first | decide | omega) c412 (by first | decide | omega))⟩
      have q401 : ¬ (v335 ≤ a2) := q401
      refine x_const (np := 76) (x := 9223372034707292159) (a := 2147483647) (by decide +kernel) (by decide) (by decide) ?_
      have z426 := hT.1
      have z427 := Tp.at (p := (h 1 2 + 0)) (u := u19) hT (by first | decide | omega) (by first | decide | omega)
      have g428 : Dg tB tN (h 1 2 + 0) := ⟨by first | decide | omega, by first | decide | omega, by first | decide | omega⟩
      have z429 := Tp.at (p := (h 1 2 + 1)) (u := (1 + u19)) hT (by first | decide | omega) (by first | decide | omega)
      have g430 : Dg tB tN (h 1 2 + 1) := ⟨by first | decide | omega, by first | decide | omega, by first | decide | omega⟩
      have z431 := Tp.at (p := (h 1 2 + 2)) (u := (2 + u19)) hT (by first | decide | omega) (by first | decide | omega)
      have g432 : Dg tB tN (h 1 2 + 2) := ⟨by first | decide | omega, by first | decide | omega, by first | decide | omega⟩
      have z433 := hT.1
      have z434 := Tp.at (p := (h 1 2 + 3)) (u := (3 + u19)) hT (by first | decide | omega) (by first | decide | omega)
      have g435 : ¬ Dg tB tN (h 1 2 + 3) := fun z => by have z1 := z.1; have z2 := z.2.1; have z3 := z.2.2; omega
      have z436 := nv3 (B := tB) (p := h 1 2)
      refine x_retI (np := 77) (x := 0) (by decide +kernel) (by decide) (Or.inl (by decide +kernel)) ⟨_, rfl, (by decide), ?_⟩
      exact ⟨hJ, hF, (by first | decide | omega), (by first | decide | omega), (fun z => by first | decide | omega), (fun z => by first | decide | omega), (Nr.nor (by first | decide | omega) (Nu.mk3 g428 g430 g432 g435) (by first | decide | omega))⟩
    have q393 : ¬ (2147483648 = 2147483648) := q393
    exfalso; omega
  have q391 : ¬ ((h 2 (3 + u19)) < 2147483696) := q391
  refine x_iload (np := 7) (x := 0) (by decide +kernel) rfl l389 ?_
  refine x_const (np := 9) (x := 9223372283815395385) (a := 2147483705) (by decide +kernel) (by decide) (by decide) ?_
  refine x_icmp (k := 4) (tg := 16) (np := 12) (by decide +kernel) (by decide) l389 (by decide) (fun q437 => ?_) (fun q438 => ?_)
  · have q437 : 2147483705 < (h 2 (3 + u19)) := q437
    refine x_const (np := 17) (x := 9223372039002259456) (a := 2147483648) (by decide +kernel) (by decide) (by decide) ?_
    refine x_retI (np := 18) (x := 0) (by decide +kernel) (by decide) (Or.inr ⟨by decide +kernel, by first | decide | omega, by first | decide | omega⟩) ⟨_, rfl, (by decide), ?_⟩
    refine x_ifz (k := 0) (tg := 54) (np := 28) (by decide +kernel) (by decide) (by decide) (fun q439 => ?_) (fun q440 => ?_)
    · have q439 : 2147483648 = 2147483648 := q439
      refine x_iload (np := 56) (x := 4) (by decide +kernel) rfl (by decide) ?_
      refine x_ifz (k := 0) (tg := 75) (np := 59) (by decide +kernel) (by decide) (by decide) (fun q441 => ?_) (fun q442 => ?_)
      · have q441 : 2147483651 = 2147483648 := q441
        exfalso; omega
      have q442 : ¬ (2147483651 = 2147483648) := q442
      refine x_iload (np := 61) (x := 4) (by decide +kernel) rfl (by decide) ?_
      refine x_const (np := 62) (x := 9223372051887161347) (a := 2147483651) (by decide +kernel) (by decide) (by decide) ?_
      refine x_icmp (k := 4) (tg := 75) (np := 65) (by decide +kernel) (by decide) (by decide) (by decide) (fun q443 => ?_) (fun q444 => ?_)
      · have q443 : 2147483651 < 2147483651 := q443
        exfalso; omega
      have q444 : ¬ (2147483651 < 2147483651) := q444
      refine x_iload (np := 66) (x := 3) (by decide +kernel) rfl (by first | decide | omega) ?_
      refine x_iload (np := 67) (x := 1) (by decide +kernel) rfl (by decide) ?_
      refine x_icmp (k := 2) (tg := 75) (np := 70) (by decide +kernel) (by decide) (by first | decide | omega) (by decide) (fun q445 => ?_) (fun q446 => ?_)
      · have q445 : v335 < 2147483648 := q445
        exfalso; omega
      have q446 : ¬ (v335 < 2147483648) := q446
      refine x_iload (np := 71) (x := 3) (by decide +kernel) rfl (by first | decide | omega) ?_
      refine x_iload (np := 72) (x := 2) (by decide +kernel) rfl la2 ?_
      refine x_icmp (k := 5) (tg := 77) (np := 75) (by decide +kernel) (by decide) (by first | decide | omega) la2 (fun q447 => ?_) (fun q448 => ?_)
      · have q447 : v335 ≤ a2 := q447
        refine x_aload (np := 78) (x := 0) (by decide +kernel) rfl (x_nc_le (by decide)) ?_
        refine x_aload (np := 79) (x := 0) (by decide +kernel) rfl (x_nc_le (by decide)) ?_
        refine x_getC (np := 82) (x := 450) (f := 2) (q := (h 1 2)) (by decide +kernel) (by decide) (by decide +kernel) rfl (fun l449 => ?_)
        refine x_iload (np := 84) (x := 4) (by decide +kernel) rfl (by decide) ?_
        refine x_iadd (np := 85) (x := 0) (v := (3 + (h 1 2))) (by decide +kernel) l4 (by decide) (by first | decide | omega) (by first | decide | omega) ?_
        refine x_cV (t := 6) (mj := 80) (n := 2) (rc := 8) (ml := 2) (nr := 0) (np := 88) (as := [x_r 1, iv_c (3 + (h 1 2))]) (rest := []) (lo1 := [x_r 1, iv_c (3 + (h 1 2))]) (by decide +kernel) (by decide) (by decide +kernel) (x_rb_of (by decide +kernel)) rfl rfl (x_wr (by decide) (x_wi (by first | decide | omega) x_wn)) x_wn (by decide) rfl (c80_1 hJ  (by first | decide | omega) hT) (fun h453 q452 => ?_)
        obtain ⟨j454, f455, c458, c459⟩ := q452
        have f460 := Fr.trans hF f455 (by decide)
        have b461 := jB (e := 2) 0 j454 rg_1_2_0_1 (by first | decide | omega) (by first | decide | omega)
        refine x_iload (np := 89) (x := 3) (by decide +kernel) rfl (by first | decide | omega) ?_
        have z462 := hT.1
        have z463 := Tp.at (p := (h 1 2 + 0)) (u := u19) hT (by first | decide | omega) (by first | decide | omega)
        have g464 : Dg tB tN (h 1 2 + 0) := ⟨by first | decide | omega, by first | decide | omega, by first | decide | omega⟩
        have z465 := Tp.at (p := (h 1 2 + 1)) (u := (1 + u19)) hT (by first | decide | omega) (by first | decide | omega)
        have g466 : Dg tB tN (h 1 2 + 1) := ⟨by first | decide | omega, by first | decide | omega, by first | decide | omega⟩
        have z467 := Tp.at (p := (h 1 2 + 2)) (u := (2 + u19)) hT (by first | decide | omega) (by first | decide | omega)
        have g468 : Dg tB tN (h 1 2 + 2) := ⟨by first | decide | omega, by first | decide | omega, by first | decide | omega⟩
        have z469 := hT.1
        have z470 := Tp.at (p := (h 1 2 + 3)) (u := (3 + u19)) hT (by first | decide | omega) (by first | decide | omega)
        have g471 : ¬ Dg tB tN (h 1 2 + 3) := fun z => by have z1 := z.1; have z2 := z.2.1; have z3 := z.2.2; omega
        have z472 := nv3 (B := tB) (p := h 1 2)
        refine x_retI (np := 90) (x := 0) (by decide +kernel) (by first | decide | omega) (Or.inl (by decide +kernel)) ⟨_, rfl, (by first | decide | omega), ?_⟩
        exact ⟨j454, f460, (by first | decide | omega), (by first | decide | omega), (fun z => by first | decide | omega), (fun z => by first | decide | omega), (Nr.yes (Nu.mk3 g464 g466 g468 g471) (by first | decide | omega) (by first | decide | omega) (by first | decide | omega) c459 (by first | decide | omega))⟩
      have q448 : ¬ (v335 ≤ a2) := q448
      refine x_const (np := 76) (x := 9223372034707292159) (a := 2147483647) (by decide +kernel) (by decide) (by decide) ?_
      have z473 := hT.1
      have z474 := Tp.at (p := (h 1 2 + 0)) (u := u19) hT (by first | decide | omega) (by first | decide | omega)
      have g475 : Dg tB tN (h 1 2 + 0) := ⟨by first | decide | omega, by first | decide | omega, by first | decide | omega⟩
      have z476 := Tp.at (p := (h 1 2 + 1)) (u := (1 + u19)) hT (by first | decide | omega) (by first | decide | omega)
      have g477 : Dg tB tN (h 1 2 + 1) := ⟨by first | decide | omega, by first | decide | omega, by first | decide | omega⟩
      have z478 := Tp.at (p := (h 1 2 + 2)) (u := (2 + u19)) hT (by first | decide | omega) (by first | decide | omega)
      have g479 : Dg tB tN (h 1 2 + 2) := ⟨by first | decide | omega, by first | decide | omega, by first | decide | omega⟩
      have z480 := hT.1
      have z481 := Tp.at (p := (h 1 2 + 3)) (u := (3 + u19)) hT (by first | decide | omega) (by first | decide | omega)
      have g482 : ¬ Dg tB tN (h 1 2 + 3) := fun z => by have z1 := z.1; have z2 := z.2.1; have z3 := z.2.2; omega
      have z483 := nv3 (B := tB) (p := h 1 2)
      refine x_retI (np := 77) (x := 0) (by decide +kernel) (by decide) (Or.inl (by decide +kernel)) ⟨_, rfl, (by decide), ?_⟩
      exact ⟨hJ, hF, (by first | decide | omega), (by first | decide | omega), (fun z => by first | decide | omega), (fun z => by first | decide | omega), (Nr.nor (by first | decide | omega) (Nu.mk3 g475 g477 g479 g482) (by first | decide | omega))⟩
    have q440 : ¬ (2147483648 = 2147483648) := q440
    exfalso; omega
  have q438 : ¬ (2147483705 < (h 2 (3 + u19))) := q438
  refine x_const (np := 13) (x := 9223372043297226753) (a := 2147483649) (by decide +kernel) (by decide) (by decide) ?_
  refine x_goto (np := 16) (x := 17) (by decide +kernel) ?_
  refine x_retI (np := 18) (x := 0) (by decide +kernel) (by decide) (Or.inr ⟨by decide +kernel, by first | decide | omega, by first | decide | omega⟩) ⟨_, rfl, (by decide), ?_⟩
  refine x_ifz (k := 0) (tg := 54) (np := 28) (by decide +kernel) (by decide) (by decide) (fun q484 => ?_) (fun q485 => ?_)
  · have q484 : 2147483649 = 2147483648 := q484
    exfalso; omega
  have q485 : ¬ (2147483649 = 2147483648) := q485
  refine x_iload (np := 29) (x := 3) (by decide +kernel) rfl (by first | decide | omega) ?_
  refine x_const (np := 31) (x := 9223372081951932426) (a := 2147483658) (by decide +kernel) (by decide) (by decide) ?_
  obtain ⟨u486, q487⟩ : ∃ z, v335 = 2147483648 + z := ⟨v335 - 2147483648, by first | decide | omega⟩
  refine x_imul (np := 32) (x := 0) (i := u486) (j := 10) (v := (2147483648 + 10 * u486)) (by decide +kernel) (by first | decide | omega) (by first | decide | omega) (by first | decide | omega) (by first | decide | omega) (by first | decide | omega) (by decide) ?_
  refine x_aload (np := 33) (x := 0) (by decide +kernel) rfl (x_nc_le (by decide)) ?_
  refine x_aload (np := 34) (x := 0) (by decide +kernel) rfl (x_nc_le (by decide)) ?_
  refine x_getC (np := 37) (x := 450) (f := 2) (q := (h 1 2)) (by decide +kernel) (by decide) (by decide +kernel) rfl (fun l489 => ?_)
  refine x_iload (np := 39) (x := 4) (by decide +kernel) rfl (by decide) ?_
  refine x_iadd (np := 40) (x := 0) (v := (3 + (h 1 2))) (by decide +kernel) l4 (by decide) (by first | decide | omega) (by first | decide | omega) ?_
  refine x_nI (t := 6) (mj := 81) (n := 2) (rc := 8) (ml := 2) (nr := 1) (np := 43) (as := [x_r 1, iv_c (3 + (h 1 2))]) (rest := [iv_c (2147483648 + 10 * u486)]) (lo1 := [x_r 1, iv_c (3 + (h 1 2))]) (by decide +kernel) (by decide) (by decide +kernel) (x_rb_of (by decide +kernel)) rfl rfl (x_wr (by decide) (x_wi (by first | decide | omega) x_wn)) (x_wi (by first | decide | omega) x_wn) (by decide) rfl ?_
  refine x_iload (np := 1) (x := 1) (by decide +kernel) rfl (by first | decide | omega) ?_
  refine x_aload (np := 2) (x := 0) (by decide +kernel) rfl (x_nc_le (by decide)) ?_
  refine x_getC (np := 5) (x := 449) (f := 1) (q := (h 1 1)) (by decide +kernel) (by decide) (by decide +kernel) rfl (fun l490 => ?_)
  refine x_icmp (k := 3) (tg := 17) (np := 8) (by decide +kernel) (by decide) (by first | decide | omega) l6 (fun q491 => ?_) (fun q492 => ?_)
  · have q491 : (h 1 1) ≤ (3 + (h 1 2)) := q491
    exfalso; omega
  have q492 : ¬ ((h 1 1) ≤ (3 + (h 1 2))) := q492
  refine x_aload (np := 9) (x := 0) (by decide +kernel) rfl (x_nc_le (by decide)) ?_
  have q493 : h 1 0 = 2 := by have z := jB (e := 0) 0 hJ rg_1_0_0_1 (by decide) (by decide); omega
  refine x_getR (np := 12) (x := 448) (f := 0) (q := 2) (by decide +kernel) (by decide) (by decide +kernel) q493 ?_
  refine x_iload (np := 13) (x := 1) (by decide +kernel) rfl (by first | decide | omega) ?_
  refine x_aldC (np := 14) (x := 0) (n := 400) (i := (3 + u19)) (q := (h 2 (3 + u19))) (by decide +kernel) (by decide +kernel) (by first | decide | omega) (by first | decide | omega) (by decide) rfl (fun l494 => ?_)
  refine x_goto (np := 17) (x := 18) (by decide +kernel) ?_
  refine x_retI (np := 19) (x := 0) (by decide +kernel) l389 (Or.inl (by decide +kernel)) ⟨_, rfl, l389, ?_⟩
  refine x_iadd (np := 44) (x := 0) (v := (10 * u486 + (h 2 (3 + u19)))) (by decide +kernel) (by first | decide | omega) l389 (by first | decide | omega) (by first | decide | omega) ?_
  refine x_const (np := 46) (x := 9223372245160689712) (a := 2147483696) (by decide +kernel) (by decide) (by decide) ?_
  obtain ⟨v495, q496⟩ : ∃ z, z + 2147483696 = (10 * u486 + (h 2 (3 + u19))) + 2147483648 := ⟨(10 * u486 + (h 2 (3 + u19))) + 2147483648 - 2147483696, by first | decide | omega⟩
  refine x_isub (np := 47) (x := 0) (v := v495) (by decide +kernel) (by first | decide | omega) (by decide) (by first | decide | omega) (by first | decide | omega) ?_
  refine x_istore (np := 48) (x := 3) (lo' := [x_r 1, iv_c 2147483648, iv_c a2, iv_c v495, iv_c 2147483651]) (by decide +kernel) (by first | decide | omega) (Nat.le_of_ble_eq_true rfl) rfl ?_
  refine x_iinc (np := 51) (i := 4) (j := 2147483649) (v := 2147483652) (lo' := [x_r 1, iv_c 2147483648, iv_c a2, iv_c v495, iv_c 2147483652]) (by decide +kernel) (by decide) (by decide) rfl (by decide) (by first | decide | omega) (by first | decide | omega) rfl ?_
  refine x_goto (np := 54) (x := 5) (by decide +kernel) ?_
  refine x_iload (np := 7) (x := 4) (by decide +kernel) rfl (by decide) ?_
  refine x_const (np := 8) (x := 9223372051887161347) (a := 2147483651) (by decide +kernel) (by decide) (by decide) ?_
  refine x_icmp (k := 4) (tg := 54) (np := 11) (by decide +kernel) (by decide) (by decide) (by decide) (fun q497 => ?_) (fun q498 => ?_)
  · have q497 : 2147483651 < 2147483652 := q497
    refine x_iload (np := 56) (x := 4) (by decide +kernel) rfl (by decide) ?_
    refine x_ifz (k := 0) (tg := 75) (np := 59) (by decide +kernel) (by decide) (by decide) (fun q499 => ?_) (fun q500 => ?_)
    · have q499 : 2147483652 = 2147483648 := q499
      exfalso; omega
    have q500 : ¬ (2147483652 = 2147483648) := q500
    refine x_iload (np := 61) (x := 4) (by decide +kernel) rfl (by decide) ?_
    refine x_const (np := 62) (x := 9223372051887161347) (a := 2147483651) (by decide +kernel) (by decide) (by decide) ?_
    refine x_icmp (k := 4) (tg := 75) (np := 65) (by decide +kernel) (by decide) (by decide) (by decide) (fun q501 => ?_) (fun q502 => ?_)
    · have q501 : 2147483651 < 2147483652 := q501
      refine x_const (np := 76) (x := 9223372034707292159) (a := 2147483647) (by decide +kernel) (by decide) (by decide) ?_
      have z503 := hT.1
      have z504 := Tp.at (p := (h 1 2 + 0)) (u := u19) hT (by first | decide | omega) (by first | decide | omega)
      have g505 : Dg tB tN (h 1 2 + 0) := ⟨by first | decide | omega, by first | decide | omega, by first | decide | omega⟩
      have z506 := Tp.at (p := (h 1 2 + 1)) (u := (1 + u19)) hT (by first | decide | omega) (by first | decide | omega)
      have g507 : Dg tB tN (h 1 2 + 1) := ⟨by first | decide | omega, by first | decide | omega, by first | decide | omega⟩
      have z508 := Tp.at (p := (h 1 2 + 2)) (u := (2 + u19)) hT (by first | decide | omega) (by first | decide | omega)
      have g509 : Dg tB tN (h 1 2 + 2) := ⟨by first | decide | omega, by first | decide | omega, by first | decide | omega⟩
      have z510 := Tp.at (p := (h 1 2 + 3)) (u := (3 + u19)) hT (by first | decide | omega) (by first | decide | omega)
      have g511 : Dg tB tN (h 1 2 + 3) := ⟨by first | decide | omega, by first | decide | omega, by first | decide | omega⟩
      refine x_retI (np := 77) (x := 0) (by decide +kernel) (by decide) (Or.inl (by decide +kernel)) ⟨_, rfl, (by decide), ?_⟩
      exact ⟨hJ, hF, (by first | decide | omega), (by first | decide | omega), (fun z => by first | decide | omega), (fun z => by first | decide | omega), (Nr.nob (by first | decide | omega) (Nb.mk4 g505 g507 g509 g511))⟩
    have q502 : ¬ (2147483651 < 2147483652) := q502
    exfalso; omega
  have q498 : ¬ (2147483651 < 2147483652) := q498
  exfalso; omega
set_option maxHeartbeats 0 in
/-- LentNames$TownReader.readCourt()Z -/
theorem c97_61 {sc : Nat × Nat} {d  : Nat} {h : xh} {tB : Nat → Nat} {tN : Nat} (hJ : J h) (hT : Tp tB tN h) : X sc 97 (d + 6) (xI fun r h' => J h' ∧ Fr 161 h h' ∧ (2147483648 ≤ r ∧ r ≤ 2147483649) ∧ court9 tB tN (h 1 2) (rs r (h' 1 2)) ∧ (r = 2147483648 → courtF tB tN (h 1 2) (h' 1 2))) 0 0 0 [x_r 61, 147573952589676412928] [] h := by
  have hF := Fr.refl 161 h
  refine x_aload (np := 1) (x := 0) (by decide +kernel) rfl (x_nc_le (by decide)) ?_
  have q1 : h 61 0 = 1 := by have z := jB (e := 0) 0 hJ rg_61_0_0_1 (by decide) (by decide); omega
  refine x_getR (np := 4) (x := 576) (f := 0) (q := 1) (by decide +kernel) (by decide) (by decide +kernel) q1 ?_
  refine x_ldcB (i := 2) (idx := 111) (tx := "day") (by rw [tb_y97]; exact List.mem_of_getElem? (i := 2) rfl) (by decide) (by rw [tb_b97]; decide +kernel) ?_
  refine x_cI (t := 6) (mj := 78) (n := 2) (rc := 8) (ml := 2) (nr := 0) (np := 9) (as := [x_r 1, x_b (2 + 1)]) (rest := []) (lo1 := [x_r 1, x_b (2 + 1)]) (by decide +kernel) (by decide) (by decide +kernel) (x_rb_of (by decide +kernel)) rfl rfl (x_wr (by decide) (x_wB (by decide) x_wn)) x_wn (by decide) rfl (c78_1_S0 hJ  (by decide) hT) (fun v2 h5 l3 q4 => ?_)
  obtain ⟨j6, f7, b8, c9, c10, c11⟩ := q4
  have f12 := Fr.trans hF f7 (by decide)
  have b13 := jB (e := 2) 0 hJ rg_1_2_0_1 (by first | decide | omega) (by first | decide | omega)
  have b14 := jB (e := 2) 0 j6 rg_1_2_0_1 (by first | decide | omega) (by first | decide | omega)
  have b15 : iv_tl 2 = 3 := by decide
  refine x_ifz (k := 1) (tg := 14) (np := 12) (by decide +kernel) (by decide) l3 (fun q16 => ?_) (fun q17 => ?_)
  · have q16 : v2 ≠ 2147483648 := q16
    have b18 := c9 (by first | decide | omega)
    refine x_aload (np := 15) (x := 0) (by decide +kernel) rfl (x_nc_le (by decide)) ?_
    have q19 : h5 61 0 = 1 := by have z := jB (e := 0) 0 j6 rg_61_0_0_1 (by decide) (by decide); omega
    refine x_getR (np := 18) (x := 576) (f := 0) (q := 1) (by decide +kernel) (by decide) (by decide +kernel) q19 ?_
    refine x_const (np := 19) (x := 9223372039002259456) (a := 2147483648) (by decide +kernel) (by decide) (by decide) ?_
    refine x_const (np := 21) (x := 9223372086246899723) (a := 2147483659) (by decide +kernel) (by decide) (by decide) ?_
    have m23 := Tp.fr hT f7 (by decide) (by decide)
    refine x_cI (t := 6) (mj := 79) (n := 3) (rc := 8) (ml := 5) (nr := 0) (np := 24) (as := [x_r 1, iv_c 2147483648, iv_c 2147483659]) (rest := []) (lo1 := [x_r 1, iv_c 2147483648, iv_c 2147483659, 147573952589676412928, 147573952589676412928]) (by decide +kernel) (by decide) (by decide +kernel) (x_rb_of (by decide +kernel)) rfl rfl (x_wr (by decide) (x_wi (by decide) (x_wi (by decide) x_wn))) x_wn (by decide) rfl (c79_1_c0 j6   (by first | decide | omega) m23) (fun v20 h24 l21 q22 => ?_)
    obtain ⟨j25, f26, b27, c28, c29, c30, c31⟩ := q22
    have f32 := Fr.trans f12 f26 (by decide)
    have b33 := jB (e := 2) 0 j25 rg_1_2_0_1 (by first | decide | omega) (by first | decide | omega)
    refine x_istore (np := 25) (x := 1) (lo' := [x_r 61, iv_c v20]) (by decide +kernel) l21 (Nat.le_of_ble_eq_true rfl) rfl ?_
    refine x_iload (np := 26) (x := 1) (by decide +kernel) rfl l21 ?_
    refine x_const (np := 27) (x := 9223372034707292159) (a := 2147483647) (by decide +kernel) (by decide) (by decide) ?_
    refine x_icmp (k := 1) (tg := 32) (np := 30) (by decide +kernel) (by decide) l21 (by decide) (fun q34 => ?_) (fun q35 => ?_)
    · have q34 : v20 ≠ 2147483647 := q34
      have b36 := c29 (by first | decide | omega)
      refine x_aload (np := 33) (x := 0) (by decide +kernel) rfl (x_nc_le (by decide)) ?_
      have q37 : h24 61 1 = h5 61 1 := f26 61 1 (by decide +kernel)
      have q38 : h5 61 1 = h 61 1 := f7 61 1 (by decide +kernel)
      have t39 : tw (h 61 1) := hJ.2.2.2.2.1
      refine x_getR (np := 36) (x := 577) (f := 1) (q := (h 61 1)) (by decide +kernel) (by decide) (by decide +kernel) (q37.trans q38) ?_
      refine x_dup (np := 37) (x := 0) (by decide +kernel) (by have z := x_nc_le (k := (h 61 1)) (tn_0 t39); unfold x_r; omega) ?_
      have q40 : h24 (h 61 1) 9 = h5 (h 61 1) 9 := jK 0 f26 (rg_T0_9_0_1 t39) (by first | decide | omega) (by first | decide | omega) (by decide)
      have q41 : h5 (h 61 1) 9 = h (h 61 1) 9 := jK 0 f7 (rg_T0_9_0_1 t39) (by first | decide | omega) (by first | decide | omega) (by decide)
      refine x_getC (np := 40) (x := 521) (f := 9) (q := (h (h 61 1) 9)) (by decide +kernel) (by decide) (tg_0_521_9_0 t39) (q40.trans q41) (fun l42 => ?_)
      refine x_const (np := 41) (x := 9223372043297226753) (a := 2147483649) (by decide +kernel) (by decide) (by decide) ?_
      refine x_iload (np := 42) (x := 1) (by decide +kernel) rfl l21 ?_
      refine x_any (np := 43) (k9 := 3) (by decide +kernel) (by decide) (by decide) l21 (fun v43 l44 => ?_)
      refine x_any (np := 44) (k9 := 1) (by decide +kernel) (by decide) l42 l44 (fun v45 l46 => ?_)
      refine x_putI (np := 47) (x := 521) (f := 9) (by decide +kernel) (tg_0_521_9_0 t39) l46 (Or.inl (by decide)) ?_
      have j48 := jU (e := 9) (v := v45) 0 j25 (rg_T0_9_0_1 t39) (by first | decide | omega) (by first | decide | omega) (by first | decide | omega)
      have f50 := jF (e := 9) (v := v45) 0 f32 (rg_T0_9_0_1 t39) (by first | decide | omega) (by first | decide | omega) (by decide)
      generalize e49 : x_up h24 (h 61 1) 9 v45 = h47 at j48 f50 ⊢
      refine x_const (np := 48) (x := 9223372043297226753) (a := 2147483649) (by decide +kernel) (by decide) (by decide) ?_
      obtain ⟨w51, e52⟩ := Tk.yes c11 (by first | decide | omega)
      have q53 : h47 1 2 = h24 1 2 := by rw [← e49]; exact x_up_k (Ne.symm (tne_0_1 t39))
      refine x_retI (np := 49) (x := 0) (by decide +kernel) (by decide) (Or.inr ⟨by decide +kernel, by first | decide | omega, by first | decide | omega⟩) ⟨_, rfl, (by decide), ?_⟩
      exact ⟨j48, f50, (by first | decide | omega), (wd9.y w51 rfl e52 rfl (nm9.y c31 (by first | decide | omega) (by first | decide | omega) rfl (by first | decide | omega) rfl (fin9.mk (by first | decide | omega) (show h24 1 2 = h47 1 2 by first | decide | omega)))), (fun z => absurd z (by first | decide | omega))⟩
    have q35 : ¬ (v20 ≠ 2147483647) := q35
    have b54 := c30 (by first | decide | omega)
    refine x_const (np := 31) (x := 9223372039002259456) (a := 2147483648) (by decide +kernel) (by decide) (by decide) ?_
    obtain ⟨w55, e56⟩ := Tk.yes c11 (by first | decide | omega)
    obtain ⟨w57, e58⟩ := Tk.yes c11 (by first | decide | omega)
    refine x_retI (np := 32) (x := 0) (by decide +kernel) (by decide) (Or.inr ⟨by decide +kernel, by first | decide | omega, by first | decide | omega⟩) ⟨_, rfl, (by decide), ?_⟩
    exact ⟨j25, f32, (by first | decide | omega), (wd9.y w55 rfl e56 rfl (nm9.f c31 (by first | decide | omega) (by first | decide | omega) rfl (by first | decide | omega) (by first | decide | omega))), (fun _ => (wF.y w57 rfl e58 rfl (mF.no c31 (by first | decide | omega) (by first | decide | omega) rfl (by first | decide | omega) (show h24 1 2 = h5 1 2 by first | decide | omega))))⟩
  have q17 : ¬ (v2 ≠ 2147483648) := q17
  have b59 := c10 (by first | decide | omega)
  refine x_const (np := 13) (x := 9223372039002259456) (a := 2147483648) (by decide +kernel) (by decide) (by decide) ?_
  obtain ⟨w60, e61⟩ := Tk.no c11 (by first | decide | omega)
  obtain ⟨w62, e63⟩ := Tk.no c11 (by first | decide | omega)
  refine x_retI (np := 14) (x := 0) (by decide +kernel) (by decide) (Or.inr ⟨by decide +kernel, by first | decide | omega, by first | decide | omega⟩) ⟨_, rfl, (by decide), ?_⟩
  exact ⟨j6, f12, (by first | decide | omega), (wd9.f w60 rfl (by first | decide | omega)), (fun _ => (wF.no w62 rfl (show h5 1 2 = h 1 2 by first | decide | omega)))⟩
set_option maxHeartbeats 0 in
/-- LentNames$TownReader.readDeath()Z -/
theorem c96_61 {sc : Nat × Nat} {d  : Nat} {h : xh} {tB : Nat → Nat} {tN : Nat} (hJ : J h) (hT : Tp tB tN h) : X sc 96 (d + 6) (xI fun r h' => J h' ∧ Fr 161 h h' ∧ (2147483648 ≤ r ∧ r ≤ 2147483649) ∧ dies9 tB tN (rv h 0) (h 1 2) (rs r (h' 1 2)) ∧ (r = 2147483648 → diesF tB tN (rv h 0) (h 1 2) (h' 1 2))) 0 0 0 [x_r 61, 147573952589676412928, 147573952589676412928] [] h := by
  have hF := Fr.refl 161 h
  refine x_aload (np := 1) (x := 0) (by decide +kernel) rfl (x_nc_le (by decide)) ?_
  have q1 : h 61 0 = 1 := by have z := jB (e := 0) 0 hJ rg_61_0_0_1 (by decide) (by decide); omega
  refine x_getR (np := 4) (x := 576) (f := 0) (q := 1) (by decide +kernel) (by decide) (by decide +kernel) q1 ?_
  refine x_const (np := 5) (x := 9223372039002259456) (a := 2147483648) (by decide +kernel) (by decide) (by decide) ?_
  refine x_aload (np := 6) (x := 0) (by decide +kernel) rfl (x_nc_le (by decide)) ?_
  have t2 : tw (h 61 1) := hJ.2.2.2.2.1
  refine x_getR (np := 9) (x := 577) (f := 1) (q := (h 61 1)) (by decide +kernel) (by decide) (by decide +kernel) rfl ?_
  have b3 := jB (e := 7) 0 hJ (rg_T0_7_0_1 t2) (by first | decide | omega) (by first | decide | omega)
  refine x_getC (np := 12) (x := 519) (f := 7) (q := (h (h 61 1) 7)) (by decide +kernel) (by decide) (tg_0_519_7_0 t2) rfl (fun l4 => ?_)
  refine x_const (np := 13) (x := 9223372043297226753) (a := 2147483649) (by decide +kernel) (by decide) (by decide) ?_
  obtain ⟨v5, q6⟩ : ∃ z, z + 2147483649 = (h (h 61 1) 7) + 2147483648 := ⟨(h (h 61 1) 7) + 2147483648 - 2147483649, by first | decide | omega⟩
  refine x_isub (np := 14) (x := 0) (v := v5) (by decide +kernel) l4 (by decide) (by first | decide | omega) (by first | decide | omega) ?_
  refine x_cI (t := 6) (mj := 79) (n := 3) (rc := 8) (ml := 5) (nr := 0) (np := 17) (as := [x_r 1, iv_c 2147483648, iv_c v5]) (rest := []) (lo1 := [x_r 1, iv_c 2147483648, iv_c v5, 147573952589676412928, 147573952589676412928]) (by decide +kernel) (by decide) (by decide +kernel) (x_rb_of (by decide +kernel)) rfl rfl (x_wr (by decide) (x_wi (by decide) (x_wi (by first | decide | omega) x_wn))) x_wn (by decide) rfl (c79_1_c0 hJ   (by first | decide | omega) hT) (fun v7 h10 l8 q9 => ?_)
  obtain ⟨j11, f12, b13, c14, c15, c16, c17⟩ := q9
  have f18 := Fr.trans hF f12 (by decide)
  have b19 := jB (e := 2) 0 hJ rg_1_2_0_1 (by first | decide | omega) (by first | decide | omega)
  have b20 := jB (e := 2) 0 j11 rg_1_2_0_1 (by first | decide | omega) (by first | decide | omega)
  refine x_istore (np := 18) (x := 1) (lo' := [x_r 61, iv_c v7, 147573952589676412928]) (by decide +kernel) l8 (Nat.le_of_ble_eq_true rfl) rfl ?_
  refine x_iload (np := 19) (x := 1) (by decide +kernel) rfl l8 ?_
  refine x_const (np := 20) (x := 9223372034707292159) (a := 2147483647) (by decide +kernel) (by decide) (by decide) ?_
  refine x_icmp (k := 0) (tg := 35) (np := 23) (by decide +kernel) (by decide) l8 (by decide) (fun q21 => ?_) (fun q22 => ?_)
  · have q21 : v7 = 2147483647 := q21
    have b23 := c16 (by first | decide | omega)
    refine x_const (np := 36) (x := 9223372039002259456) (a := 2147483648) (by decide +kernel) (by decide) (by decide) ?_
    have e24 : rv h 0 = (h (h 61 1) 7) := (congrArg (fun z => svq h z 0) rfl).trans rfl
    refine x_retI (np := 37) (x := 0) (by decide +kernel) (by decide) (Or.inr ⟨by decide +kernel, by first | decide | omega, by first | decide | omega⟩) ⟨_, rfl, (by decide), ?_⟩
    exact ⟨j11, f18, (by first | decide | omega), (nm9.f c17 (by first | decide | omega) (by first | decide | omega) rfl (by first | decide | omega) (by first | decide | omega)), (fun _ => (mF.no c17 (by first | decide | omega) (by first | decide | omega) rfl (by first | decide | omega) (show h10 1 2 = h 1 2 by first | decide | omega)))⟩
  have q22 : ¬ (v7 = 2147483647) := q22
  have b25 := c15 (by first | decide | omega)
  refine x_aload (np := 24) (x := 0) (by decide +kernel) rfl (x_nc_le (by decide)) ?_
  have q26 : h10 61 0 = 1 := by have z := jB (e := 0) 0 j11 rg_61_0_0_1 (by decide) (by decide); omega
  refine x_getR (np := 27) (x := 576) (f := 0) (q := 1) (by decide +kernel) (by decide) (by decide +kernel) q26 ?_
  refine x_ldcB (i := 2) (idx := 111) (tx := "day") (by rw [tb_y96]; exact List.mem_of_getElem? (i := 2) rfl) (by decide) (by rw [tb_b96]; decide +kernel) ?_
  have m30 := Tp.fr hT f12 (by decide) (by decide)
  refine x_cI (t := 6) (mj := 78) (n := 2) (rc := 8) (ml := 2) (nr := 0) (np := 32) (as := [x_r 1, x_b (2 + 1)]) (rest := []) (lo1 := [x_r 1, x_b (2 + 1)]) (by decide +kernel) (by decide) (by decide +kernel) (x_rb_of (by decide +kernel)) rfl rfl (x_wr (by decide) (x_wB (by decide) x_wn)) x_wn (by decide) rfl (c78_1_S0 j11  (by decide) m30) (fun v27 h31 l28 q29 => ?_)
  obtain ⟨j32, f33, b34, c35, c36, c37⟩ := q29
  have f38 := Fr.trans f18 f33 (by decide)
  have b39 := jB (e := 2) 0 j32 rg_1_2_0_1 (by first | decide | omega) (by first | decide | omega)
  have b40 : iv_tl 2 = 3 := by decide
  refine x_ifz (k := 1) (tg := 37) (np := 35) (by decide +kernel) (by decide) l28 (fun q41 => ?_) (fun q42 => ?_)
  · have q41 : v27 ≠ 2147483648 := q41
    have b43 := c35 (by first | decide | omega)
    refine x_aload (np := 38) (x := 0) (by decide +kernel) rfl (x_nc_le (by decide)) ?_
    have q44 : h31 61 0 = 1 := by have z := jB (e := 0) 0 j32 rg_61_0_0_1 (by decide) (by decide); omega
    refine x_getR (np := 41) (x := 576) (f := 0) (q := 1) (by decide +kernel) (by decide) (by decide +kernel) q44 ?_
    refine x_const (np := 42) (x := 9223372039002259456) (a := 2147483648) (by decide +kernel) (by decide) (by decide) ?_
    refine x_const (np := 44) (x := 9223372086246899723) (a := 2147483659) (by decide +kernel) (by decide) (by decide) ?_
    have m48 := Tp.fr m30 f33 (by decide) (by decide)
    refine x_cI (t := 6) (mj := 79) (n := 3) (rc := 8) (ml := 5) (nr := 0) (np := 47) (as := [x_r 1, iv_c 2147483648, iv_c 2147483659]) (rest := []) (lo1 := [x_r 1, iv_c 2147483648, iv_c 2147483659, 147573952589676412928, 147573952589676412928]) (by decide +kernel) (by decide) (by decide +kernel) (x_rb_of (by decide +kernel)) rfl rfl (x_wr (by decide) (x_wi (by decide) (x_wi (by decide) x_wn))) x_wn (by decide) rfl (c79_1_c0 j32   (by first | decide | omega) m48) (fun v45 h49 l46 q47 => ?_)
    obtain ⟨j50, f51, b52, c53, c54, c55, c56⟩ := q47
    have f57 := Fr.trans f38 f51 (by decide)
    have b58 := jB (e := 2) 0 j50 rg_1_2_0_1 (by first | decide | omega) (by first | decide | omega)
    refine x_istore (np := 48) (x := 2) (lo' := [x_r 61, iv_c v7, iv_c v45]) (by decide +kernel) l46 (Nat.le_of_ble_eq_true rfl) rfl ?_
    refine x_iload (np := 49) (x := 2) (by decide +kernel) rfl l46 ?_
    refine x_const (np := 50) (x := 9223372034707292159) (a := 2147483647) (by decide +kernel) (by decide) (by decide) ?_
    refine x_icmp (k := 1) (tg := 55) (np := 53) (by decide +kernel) (by decide) l46 (by decide) (fun q59 => ?_) (fun q60 => ?_)
    · have q59 : v45 ≠ 2147483647 := q59
      have b61 := c54 (by first | decide | omega)
      refine x_aload (np := 56) (x := 0) (by decide +kernel) rfl (x_nc_le (by decide)) ?_
      have q62 : h49 61 1 = h31 61 1 := f51 61 1 (by decide +kernel)
      have q63 : h31 61 1 = h10 61 1 := f33 61 1 (by decide +kernel)
      have q64 : h10 61 1 = h 61 1 := f12 61 1 (by decide +kernel)
      refine x_getR (np := 59) (x := 577) (f := 1) (q := (h 61 1)) (by decide +kernel) (by decide) (by decide +kernel) ((q62.trans q63).trans q64) ?_
      have q65 : h49 (h 61 1) 4 = ((h 61 1) + 9) := tf_0_4 j50 t2
      refine x_getR (np := 62) (x := 516) (f := 4) (q := ((h 61 1) + 9)) (by decide +kernel) (by decide) (tg_0_516_4_1 t2) q65 ?_
      refine x_iload (np := 63) (x := 1) (by decide +kernel) rfl l8 ?_
      refine x_aload (np := 64) (x := 0) (by decide +kernel) rfl (x_nc_le (by decide)) ?_
      have q66 : h49 61 1 = h31 61 1 := f51 61 1 (by decide +kernel)
      have q67 : h31 61 1 = h10 61 1 := f33 61 1 (by decide +kernel)
      have q68 : h10 61 1 = h 61 1 := f12 61 1 (by decide +kernel)
      refine x_getR (np := 67) (x := 577) (f := 1) (q := (h 61 1)) (by decide +kernel) (by decide) (by decide +kernel) ((q66.trans q67).trans q68) ?_
      have q69 : h49 (h 61 1) 4 = ((h 61 1) + 9) := tf_0_4 j50 t2
      refine x_getR (np := 70) (x := 516) (f := 4) (q := ((h 61 1) + 9)) (by decide +kernel) (by decide) (tg_0_516_4_1 t2) q69 ?_
      refine x_iload (np := 71) (x := 1) (by decide +kernel) rfl l8 ?_
      obtain ⟨u70, q71⟩ : ∃ z, v7 = 2147483648 + z := ⟨v7 - 2147483648, by first | decide | omega⟩
      have q72 : h49 ((h 61 1) + 9) u70 = h31 ((h 61 1) + 9) u70 := jK u70 f51 (rg_T9_0_1_6 t2) (by first | decide | omega) (by first | decide | omega) (by decide)
      have q73 : h31 ((h 61 1) + 9) u70 = h10 ((h 61 1) + 9) u70 := jK u70 f33 (rg_T9_0_1_6 t2) (by first | decide | omega) (by first | decide | omega) (by decide)
      have q74 : h10 ((h 61 1) + 9) u70 = h ((h 61 1) + 9) u70 := jK u70 f12 (rg_T9_0_1_6 t2) (by first | decide | omega) (by first | decide | omega) (by decide)
      refine x_aldC (np := 72) (x := 0) (n := 6) (i := u70) (q := (h ((h 61 1) + 9) u70)) (by decide +kernel) (ta_9_6 t2) (by first | decide | omega) (by first | decide | omega) (by decide) ((q72.trans q73).trans q74) (fun l75 => ?_)
      refine x_iload (np := 73) (x := 2) (by decide +kernel) rfl l46 ?_
      refine x_min (np := 76) (by decide +kernel) l75 l46 (Nat.le_trans (x_wi l46 (x_wi l75 (x_wi l8 (x_wr (tn_9 t2) x_wn)))) (by decide)) ?_
      obtain ⟨v76, q77⟩ : ∃ w, w = min (h ((h 61 1) + 9) u70) v45 := ⟨_, rfl⟩
      rw [← q77]
      have b78 : v76 ≤ (h ((h 61 1) + 9) u70) ∧ v76 ≤ v45 := by first | decide | omega
      refine x_ast (np := 77) (x := 0) (kd := 1) (n := 6) (i := u70) (by decide +kernel) (Or.inl rfl) (ta_9_6 t2) (by first | decide | omega) (by first | decide | omega) (by decide) (by first | decide | omega) (fun z => absurd z (by decide)) ?_
      have j80 := jU (e := u70) (v := v76) u70 j50 (rg_T9_0_1_6 t2) (by first | decide | omega) (by first | decide | omega) (by first | decide | omega)
      have f82 := jF (e := u70) (v := v76) u70 f57 (rg_T9_0_1_6 t2) (by first | decide | omega) (by first | decide | omega) (by decide)
      generalize e81 : x_up h49 ((h 61 1) + 9) u70 v76 = h79 at j80 f82 ⊢
      refine x_const (np := 78) (x := 9223372043297226753) (a := 2147483649) (by decide +kernel) (by decide) (by decide) ?_
      have e83 : rv h 0 = (h (h 61 1) 7) := (congrArg (fun z => svq h z 0) rfl).trans rfl
      obtain ⟨w84, e85⟩ := Tk.yes c37 (by first | decide | omega)
      have q86 : h79 1 2 = h49 1 2 := by rw [← e81]; exact x_up_k (Ne.symm (tne_9_1 t2))
      refine x_retI (np := 79) (x := 0) (by decide +kernel) (by decide) (Or.inr ⟨by decide +kernel, by first | decide | omega, by first | decide | omega⟩) ⟨_, rfl, (by decide), ?_⟩
      exact ⟨j80, f82, (by first | decide | omega), (nm9.y c17 (by first | decide | omega) (by first | decide | omega) rfl (by first | decide | omega) rfl (wd9.y w84 rfl e85 rfl (nm9.y c56 (by first | decide | omega) (by first | decide | omega) rfl (by first | decide | omega) rfl (fin9.mk (by first | decide | omega) (show h49 1 2 = h79 1 2 by first | decide | omega))))), (fun z => absurd z (by first | decide | omega))⟩
    have q60 : ¬ (v45 ≠ 2147483647) := q60
    have b87 := c55 (by first | decide | omega)
    refine x_const (np := 54) (x := 9223372039002259456) (a := 2147483648) (by decide +kernel) (by decide) (by decide) ?_
    have e88 : rv h 0 = (h (h 61 1) 7) := (congrArg (fun z => svq h z 0) rfl).trans rfl
    obtain ⟨w89, e90⟩ := Tk.yes c37 (by first | decide | omega)
    obtain ⟨w91, e92⟩ := Tk.yes c37 (by first | decide | omega)
    refine x_retI (np := 55) (x := 0) (by decide +kernel) (by decide) (Or.inr ⟨by decide +kernel, by first | decide | omega, by first | decide | omega⟩) ⟨_, rfl, (by decide), ?_⟩
    exact ⟨j50, f57, (by first | decide | omega), (nm9.y c17 (by first | decide | omega) (by first | decide | omega) rfl (by first | decide | omega) rfl (wd9.y w89 rfl e90 rfl (nm9.f c56 (by first | decide | omega) (by first | decide | omega) rfl (by first | decide | omega) (by first | decide | omega)))), (fun _ => (mF.y c17 (by first | decide | omega) (by first | decide | omega) rfl (by first | decide | omega) rfl (wF.y w91 rfl e92 rfl (mF.no c56 (by first | decide | omega) (by first | decide | omega) rfl (by first | decide | omega) (show h49 1 2 = h31 1 2 by first | decide | omega)))))⟩
  have q42 : ¬ (v27 ≠ 2147483648) := q42
  have b93 := c36 (by first | decide | omega)
  refine x_const (np := 36) (x := 9223372039002259456) (a := 2147483648) (by decide +kernel) (by decide) (by decide) ?_
  have e94 : rv h 0 = (h (h 61 1) 7) := (congrArg (fun z => svq h z 0) rfl).trans rfl
  obtain ⟨w95, e96⟩ := Tk.no c37 (by first | decide | omega)
  obtain ⟨w97, e98⟩ := Tk.no c37 (by first | decide | omega)
  refine x_retI (np := 37) (x := 0) (by decide +kernel) (by decide) (Or.inr ⟨by decide +kernel, by first | decide | omega, by first | decide | omega⟩) ⟨_, rfl, (by decide), ?_⟩
  exact ⟨j32, f38, (by first | decide | omega), (nm9.y c17 (by first | decide | omega) (by first | decide | omega) rfl (by first | decide | omega) rfl (wd9.f w95 rfl (by first | decide | omega))), (fun _ => (mF.y c17 (by first | decide | omega) (by first | decide | omega) rfl (by first | decide | omega) rfl (wF.no w97 rfl (show h31 1 2 = h10 1 2 by first | decide | omega))))⟩
set_option maxHeartbeats 0 in
/-- LentNames$Tape.takesNumber(II)I -/
theorem c79_1_c1 {sc : Nat × Nat} {d a2 : Nat} {h : xh} {tB : Nat → Nat} {tN : Nat} (hJ : J h) (ba2 : 2147483660 ≤ a2 ∧ a2 ≤ 2147483660) (hT : Tp tB tN h) : X sc 79 (d + 1) (xI fun r h' => J h' ∧ Fr 33 h h' ∧ (2147483647 ≤ r ∧ r ≤ 2147483660) ∧ (r ≤ a2) ∧ (2147483648 ≤ r → h 1 2 + 1 ≤ h' 1 2) ∧ (r = 2147483647 → h' 1 2 = h 1 2) ∧ Nr tB tN 2147483649 a2 (h 1 2) r (h' 1 2)) 0 0 0 [x_r 1, iv_c 2147483649, iv_c a2, 147573952589676412928, 147573952589676412928] [] h := by
  have la2 : a2 < 4294967296 := by first | decide | omega
  have hF := Fr.refl 33 h
  refine x_const (np := 1) (x := 9223372039002259456) (a := 2147483648) (by decide +kernel) (by decide) (by decide) ?_
  refine x_istore (np := 2) (x := 3) (lo' := [x_r 1, iv_c 2147483649, iv_c a2, iv_c 2147483648, 147573952589676412928]) (by decide +kernel) (by decide) (Nat.le_of_ble_eq_true rfl) rfl ?_
  refine x_const (np := 3) (x := 9223372039002259456) (a := 2147483648) (by decide +kernel) (by decide) (by decide) ?_
  refine x_istore (np := 5) (x := 4) (lo' := [x_r 1, iv_c 2147483649, iv_c a2, iv_c 2147483648, iv_c 2147483648]) (by decide +kernel) (by decide) (Nat.le_of_ble_eq_true rfl) rfl ?_
  refine x_iload (np := 7) (x := 4) (by decide +kernel) rfl (by decide) ?_
  refine x_const (np := 8) (x := 9223372051887161347) (a := 2147483651) (by decide +kernel) (by decide) (by decide) ?_
  refine x_icmp (k := 4) (tg := 54) (np := 11) (by decide +kernel) (by decide) (by decide) (by decide) (fun q1 => ?_) (fun q2 => ?_)
  · have q1 : 2147483651 < 2147483648 := q1
    exfalso; omega
  have q2 : ¬ (2147483651 < 2147483648) := q2
  refine x_aload (np := 12) (x := 0) (by decide +kernel) rfl (x_nc_le (by decide)) ?_
  refine x_aload (np := 13) (x := 0) (by decide +kernel) rfl (x_nc_le (by decide)) ?_
  have b3 := jB (e := 2) 0 hJ rg_1_2_0_1 (by first | decide | omega) (by first | decide | omega)
  refine x_getC (np := 16) (x := 450) (f := 2) (q := (h 1 2)) (by decide +kernel) (by decide) (by decide +kernel) rfl (fun l4 => ?_)
  refine x_iload (np := 18) (x := 4) (by decide +kernel) rfl (by decide) ?_
  refine x_iadd (np := 19) (x := 0) (v := (h 1 2)) (by decide +kernel) l4 (by decide) (by first | decide | omega) (by first | decide | omega) ?_
  refine x_nI (t := 6) (mj := 81) (n := 2) (rc := 8) (ml := 2) (nr := 0) (np := 22) (as := [x_r 1, iv_c (h 1 2)]) (rest := []) (lo1 := [x_r 1, iv_c (h 1 2)]) (by decide +kernel) (by decide) (by decide +kernel) (x_rb_of (by decide +kernel)) rfl rfl (x_wr (by decide) (x_wi l4 x_wn)) x_wn (by decide) rfl ?_
  refine x_iload (np := 1) (x := 1) (by decide +kernel) rfl l4 ?_
  refine x_aload (np := 2) (x := 0) (by decide +kernel) rfl (x_nc_le (by decide)) ?_
  have b5 := jB (e := 1) 0 hJ rg_1_1_0_1 (by first | decide | omega) (by first | decide | omega)
  refine x_getC (np := 5) (x := 449) (f := 1) (q := (h 1 1)) (by decide +kernel) (by decide) (by decide +kernel) rfl (fun l6 => ?_)
  refine x_icmp (k := 3) (tg := 17) (np := 8) (by decide +kernel) (by decide) l4 l6 (fun q7 => ?_) (fun q8 => ?_)
  · have q7 : (h 1 1) ≤ (h 1 2) := q7
    refine x_const (np := 18) (x := 9223372034707292159) (a := 2147483647) (by decide +kernel) (by decide) (by decide) ?_
    refine x_retI (np := 19) (x := 0) (by decide +kernel) (by decide) (Or.inl (by decide +kernel)) ⟨_, rfl, (by decide), ?_⟩
    refine x_nI (t := 0) (mj := 82) (n := 1) (rc := 0) (ml := 1) (nr := 0) (np := 25) (as := [iv_c 2147483647]) (rest := []) (lo1 := [iv_c 2147483647]) (by decide +kernel) (by decide) (by decide +kernel) (Or.inl rfl) rfl rfl (x_wi (by decide) x_wn) x_wn (by decide) rfl ?_
    refine x_iload (np := 1) (x := 0) (by decide +kernel) rfl (by decide) ?_
    refine x_const (np := 3) (x := 9223372245160689712) (a := 2147483696) (by decide +kernel) (by decide) (by decide) ?_
    refine x_icmp (k := 2) (tg := 16) (np := 6) (by decide +kernel) (by decide) (by decide) (by decide) (fun q9 => ?_) (fun q10 => ?_)
    · have q9 : 2147483647 < 2147483696 := q9
      refine x_const (np := 17) (x := 9223372039002259456) (a := 2147483648) (by decide +kernel) (by decide) (by decide) ?_
      refine x_retI (np := 18) (x := 0) (by decide +kernel) (by decide) (Or.inr ⟨by decide +kernel, by first | decide | omega, by first | decide | omega⟩) ⟨_, rfl, (by decide), ?_⟩
      refine x_ifz (k := 0) (tg := 54) (np := 28) (by decide +kernel) (by decide) (by decide) (fun q11 => ?_) (fun q12 => ?_)
      · have q11 : 2147483648 = 2147483648 := q11
        refine x_iload (np := 56) (x := 4) (by decide +kernel) rfl (by decide) ?_
        refine x_ifz (k := 0) (tg := 75) (np := 59) (by decide +kernel) (by decide) (by decide) (fun q13 => ?_) (fun q14 => ?_)
        · have q13 : 2147483648 = 2147483648 := q13
          refine x_const (np := 76) (x := 9223372034707292159) (a := 2147483647) (by decide +kernel) (by decide) (by decide) ?_
          have z15 := hT.1
          have z16 := hT.1
          have g17 : ¬ Dg tB tN (h 1 2 + 0) := fun z => by have z1 := z.1; have z2 := z.2.1; have z3 := z.2.2; omega
          refine x_retI (np := 77) (x := 0) (by decide +kernel) (by decide) (Or.inl (by decide +kernel)) ⟨_, rfl, (by decide), ?_⟩
          exact ⟨hJ, hF, (by first | decide | omega), (by first | decide | omega), (fun z => by first | decide | omega), (fun z => by first | decide | omega), (Nr.nob (by first | decide | omega) (Nb.mk0 g17))⟩
        have q14 : ¬ (2147483648 = 2147483648) := q14
        exfalso; omega
      have q12 : ¬ (2147483648 = 2147483648) := q12
      exfalso; omega
    have q10 : ¬ (2147483647 < 2147483696) := q10
    exfalso; omega
  have q8 : ¬ ((h 1 1) ≤ (h 1 2)) := q8
  refine x_aload (np := 9) (x := 0) (by decide +kernel) rfl (x_nc_le (by decide)) ?_
  have q18 : h 1 0 = 2 := by have z := jB (e := 0) 0 hJ rg_1_0_0_1 (by decide) (by decide); omega
  refine x_getR (np := 12) (x := 448) (f := 0) (q := 2) (by decide +kernel) (by decide) (by decide +kernel) q18 ?_
  refine x_iload (np := 13) (x := 1) (by decide +kernel) rfl l4 ?_
  obtain ⟨u19, q20⟩ : ∃ z, (h 1 2) = 2147483648 + z := ⟨(h 1 2) - 2147483648, by first | decide | omega⟩
  refine x_aldC (np := 14) (x := 0) (n := 400) (i := u19) (q := (h 2 u19)) (by decide +kernel) (by decide +kernel) (by first | decide | omega) (by first | decide | omega) (by decide) rfl (fun l21 => ?_)
  refine x_goto (np := 17) (x := 18) (by decide +kernel) ?_
  refine x_retI (np := 19) (x := 0) (by decide +kernel) l21 (Or.inl (by decide +kernel)) ⟨_, rfl, l21, ?_⟩
  refine x_nI (t := 0) (mj := 82) (n := 1) (rc := 0) (ml := 1) (nr := 0) (np := 25) (as := [iv_c (h 2 u19)]) (rest := []) (lo1 := [iv_c (h 2 u19)]) (by decide +kernel) (by decide) (by decide +kernel) (Or.inl rfl) rfl rfl (x_wi l21 x_wn) x_wn (by decide) rfl ?_
  refine x_iload (np := 1) (x := 0) (by decide +kernel) rfl l21 ?_
  refine x_const (np := 3) (x := 9223372245160689712) (a := 2147483696) (by decide +kernel) (by decide) (by decide) ?_
  refine x_icmp (k := 2) (tg := 16) (np := 6) (by decide +kernel) (by decide) l21 (by decide) (fun q22 => ?_) (fun q23 => ?_)
  · have q22 : (h 2 u19) < 2147483696 := q22
    refine x_const (np := 17) (x := 9223372039002259456) (a := 2147483648) (by decide +kernel) (by decide) (by decide) ?_
    refine x_retI (np := 18) (x := 0) (by decide +kernel) (by decide) (Or.inr ⟨by decide +kernel, by first | decide | omega, by first | decide | omega⟩) ⟨_, rfl, (by decide), ?_⟩
    refine x_ifz (k := 0) (tg := 54) (np := 28) (by decide +kernel) (by decide) (by decide) (fun q24 => ?_) (fun q25 => ?_)
    · have q24 : 2147483648 = 2147483648 := q24
      refine x_iload (np := 56) (x := 4) (by decide +kernel) rfl (by decide) ?_
      refine x_ifz (k := 0) (tg := 75) (np := 59) (by decide +kernel) (by decide) (by decide) (fun q26 => ?_) (fun q27 => ?_)
      · have q26 : 2147483648 = 2147483648 := q26
        refine x_const (np := 76) (x := 9223372034707292159) (a := 2147483647) (by decide +kernel) (by decide) (by decide) ?_
        have z28 := hT.1
        have z29 := hT.1
        have z30 := Tp.at (p := (h 1 2 + 0)) (u := u19) hT (by first | decide | omega) (by first | decide | omega)
        have g31 : ¬ Dg tB tN (h 1 2 + 0) := fun z => by have z1 := z.1; have z2 := z.2.1; have z3 := z.2.2; omega
        refine x_retI (np := 77) (x := 0) (by decide +kernel) (by decide) (Or.inl (by decide +kernel)) ⟨_, rfl, (by decide), ?_⟩
        exact ⟨hJ, hF, (by first | decide | omega), (by first | decide | omega), (fun z => by first | decide | omega), (fun z => by first | decide | omega), (Nr.nob (by first | decide | omega) (Nb.mk0 g31))⟩
      have q27 : ¬ (2147483648 = 2147483648) := q27
      exfalso; omega
    have q25 : ¬ (2147483648 = 2147483648) := q25
    exfalso; omega
  have q23 : ¬ ((h 2 u19) < 2147483696) := q23
  refine x_iload (np := 7) (x := 0) (by decide +kernel) rfl l21 ?_
  refine x_const (np := 9) (x := 9223372283815395385) (a := 2147483705) (by decide +kernel) (by decide) (by decide) ?_
  refine x_icmp (k := 4) (tg := 16) (np := 12) (by decide +kernel) (by decide) l21 (by decide) (fun q32 => ?_) (fun q33 => ?_)
  · have q32 : 2147483705 < (h 2 u19) := q32
    refine x_const (np := 17) (x := 9223372039002259456) (a := 2147483648) (by decide +kernel) (by decide) (by decide) ?_
    refine x_retI (np := 18) (x := 0) (by decide +kernel) (by decide) (Or.inr ⟨by decide +kernel, by first | decide | omega, by first | decide | omega⟩) ⟨_, rfl, (by decide), ?_⟩
    refine x_ifz (k := 0) (tg := 54) (np := 28) (by decide +kernel) (by decide) (by decide) (fun q34 => ?_) (fun q35 => ?_)
    · have q34 : 2147483648 = 2147483648 := q34
      refine x_iload (np := 56) (x := 4) (by decide +kernel) rfl (by decide) ?_
      refine x_ifz (k := 0) (tg := 75) (np := 59) (by decide +kernel) (by decide) (by decide) (fun q36 => ?_) (fun q37 => ?_)
      · have q36 : 2147483648 = 2147483648 := q36
        refine x_const (np := 76) (x := 9223372034707292159) (a := 2147483647) (by decide +kernel) (by decide) (by decide) ?_
        have z38 := hT.1
        have z39 := hT.1
        have z40 := Tp.at (p := (h 1 2 + 0)) (u := u19) hT (by first | decide | omega) (by first | decide | omega)
        have g41 : ¬ Dg tB tN (h 1 2 + 0) := fun z => by have z1 := z.1; have z2 := z.2.1; have z3 := z.2.2; omega
        refine x_retI (np := 77) (x := 0) (by decide +kernel) (by decide) (Or.inl (by decide +kernel)) ⟨_, rfl, (by decide), ?_⟩
        exact ⟨hJ, hF, (by first | decide | omega), (by first | decide | omega), (fun z => by first | decide | omega), (fun z => by first | decide | omega), (Nr.nob (by first | decide | omega) (Nb.mk0 g41))⟩
      have q37 : ¬ (2147483648 = 2147483648) := q37
      exfalso; omega
    have q35 : ¬ (2147483648 = 2147483648) := q35
    exfalso; omega
  have q33 : ¬ (2147483705 < (h 2 u19)) := q33
  refine x_const (np := 13) (x := 9223372043297226753) (a := 2147483649) (by decide +kernel) (by decide) (by decide) ?_
  refine x_goto (np := 16) (x := 17) (by decide +kernel) ?_
  refine x_retI (np := 18) (x := 0) (by decide +kernel) (by decide) (Or.inr ⟨by decide +kernel, by first | decide | omega, by first | decide | omega⟩) ⟨_, rfl, (by decide), ?_⟩
  refine x_ifz (k := 0) (tg := 54) (np := 28) (by decide +kernel) (by decide) (by decide) (fun q42 => ?_) (fun q43 => ?_)
  · have q42 : 2147483649 = 2147483648 := q42
    exfalso; omega
  have q43 : ¬ (2147483649 = 2147483648) := q43
  refine x_iload (np := 29) (x := 3) (by decide +kernel) rfl (by decide) ?_
  refine x_const (np := 31) (x := 9223372081951932426) (a := 2147483658) (by decide +kernel) (by decide) (by decide) ?_
  refine x_imul (np := 32) (x := 0) (i := 0) (j := 10) (v := 2147483648) (by decide +kernel) (by first | decide | omega) (by first | decide | omega) (by first | decide | omega) (by first | decide | omega) (by decide) (by decide) ?_
  refine x_aload (np := 33) (x := 0) (by decide +kernel) rfl (x_nc_le (by decide)) ?_
  refine x_aload (np := 34) (x := 0) (by decide +kernel) rfl (x_nc_le (by decide)) ?_
  refine x_getC (np := 37) (x := 450) (f := 2) (q := (h 1 2)) (by decide +kernel) (by decide) (by decide +kernel) rfl (fun l45 => ?_)
  refine x_iload (np := 39) (x := 4) (by decide +kernel) rfl (by decide) ?_
  refine x_iadd (np := 40) (x := 0) (v := (h 1 2)) (by decide +kernel) l4 (by decide) (by first | decide | omega) (by first | decide | omega) ?_
  refine x_nI (t := 6) (mj := 81) (n := 2) (rc := 8) (ml := 2) (nr := 1) (np := 43) (as := [x_r 1, iv_c (h 1 2)]) (rest := [iv_c 2147483648]) (lo1 := [x_r 1, iv_c (h 1 2)]) (by decide +kernel) (by decide) (by decide +kernel) (x_rb_of (by decide +kernel)) rfl rfl (x_wr (by decide) (x_wi l4 x_wn)) (x_wi (by decide) x_wn) (by decide) rfl ?_
  refine x_iload (np := 1) (x := 1) (by decide +kernel) rfl l4 ?_
  refine x_aload (np := 2) (x := 0) (by decide +kernel) rfl (x_nc_le (by decide)) ?_
  refine x_getC (np := 5) (x := 449) (f := 1) (q := (h 1 1)) (by decide +kernel) (by decide) (by decide +kernel) rfl (fun l46 => ?_)
  refine x_icmp (k := 3) (tg := 17) (np := 8) (by decide +kernel) (by decide) l4 l6 (fun q47 => ?_) (fun q48 => ?_)
  · have q47 : (h 1 1) ≤ (h 1 2) := q47
    exfalso; omega
  have q48 : ¬ ((h 1 1) ≤ (h 1 2)) := q48
  refine x_aload (np := 9) (x := 0) (by decide +kernel) rfl (x_nc_le (by decide)) ?_
  have q49 : h 1 0 = 2 := by have z := jB (e := 0) 0 hJ rg_1_0_0_1 (by decide) (by decide); omega
  refine x_getR (np := 12) (x := 448) (f := 0) (q := 2) (by decide +kernel) (by decide) (by decide +kernel) q49 ?_
  refine x_iload (np := 13) (x := 1) (by decide +kernel) rfl l4 ?_
  refine x_aldC (np := 14) (x := 0) (n := 400) (i := u19) (q := (h 2 u19)) (by decide +kernel) (by decide +kernel) (by first | decide | omega) (by first | decide | omega) (by decide) rfl (fun l50 => ?_)
  refine x_goto (np := 17) (x := 18) (by decide +kernel) ?_
  refine x_retI (np := 19) (x := 0) (by decide +kernel) l21 (Or.inl (by decide +kernel)) ⟨_, rfl, l21, ?_⟩
  refine x_iadd (np := 44) (x := 0) (v := (h 2 u19)) (by decide +kernel) (by decide) l21 (by first | decide | omega) (by first | decide | omega) ?_
  refine x_const (np := 46) (x := 9223372245160689712) (a := 2147483696) (by decide +kernel) (by decide) (by decide) ?_
  obtain ⟨v51, q52⟩ : ∃ z, z + 2147483696 = (h 2 u19) + 2147483648 := ⟨(h 2 u19) + 2147483648 - 2147483696, by first | decide | omega⟩
  refine x_isub (np := 47) (x := 0) (v := v51) (by decide +kernel) l21 (by decide) (by first | decide | omega) (by first | decide | omega) ?_
  refine x_istore (np := 48) (x := 3) (lo' := [x_r 1, iv_c 2147483649, iv_c a2, iv_c v51, iv_c 2147483648]) (by decide +kernel) (by first | decide | omega) (Nat.le_of_ble_eq_true rfl) rfl ?_
  refine x_iinc (np := 51) (i := 4) (j := 2147483649) (v := 2147483649) (lo' := [x_r 1, iv_c 2147483649, iv_c a2, iv_c v51, iv_c 2147483649]) (by decide +kernel) (by decide) (by decide) rfl (by decide) (by first | decide | omega) (by first | decide | omega) rfl ?_
  refine x_goto (np := 54) (x := 5) (by decide +kernel) ?_
  refine x_iload (np := 7) (x := 4) (by decide +kernel) rfl (by decide) ?_
  refine x_const (np := 8) (x := 9223372051887161347) (a := 2147483651) (by decide +kernel) (by decide) (by decide) ?_
  refine x_icmp (k := 4) (tg := 54) (np := 11) (by decide +kernel) (by decide) (by decide) (by decide) (fun q53 => ?_) (fun q54 => ?_)
  · have q53 : 2147483651 < 2147483649 := q53
    exfalso; omega
  have q54 : ¬ (2147483651 < 2147483649) := q54
  refine x_aload (np := 12) (x := 0) (by decide +kernel) rfl (x_nc_le (by decide)) ?_
  refine x_aload (np := 13) (x := 0) (by decide +kernel) rfl (x_nc_le (by decide)) ?_
  refine x_getC (np := 16) (x := 450) (f := 2) (q := (h 1 2)) (by decide +kernel) (by decide) (by decide +kernel) rfl (fun l55 => ?_)
  refine x_iload (np := 18) (x := 4) (by decide +kernel) rfl (by decide) ?_
  refine x_iadd (np := 19) (x := 0) (v := (1 + (h 1 2))) (by decide +kernel) l4 (by decide) (by first | decide | omega) (by first | decide | omega) ?_
  refine x_nI (t := 6) (mj := 81) (n := 2) (rc := 8) (ml := 2) (nr := 0) (np := 22) (as := [x_r 1, iv_c (1 + (h 1 2))]) (rest := []) (lo1 := [x_r 1, iv_c (1 + (h 1 2))]) (by decide +kernel) (by decide) (by decide +kernel) (x_rb_of (by decide +kernel)) rfl rfl (x_wr (by decide) (x_wi (by first | decide | omega) x_wn)) x_wn (by decide) rfl ?_
  refine x_iload (np := 1) (x := 1) (by decide +kernel) rfl (by first | decide | omega) ?_
  refine x_aload (np := 2) (x := 0) (by decide +kernel) rfl (x_nc_le (by decide)) ?_
  refine x_getC (np := 5) (x := 449) (f := 1) (q := (h 1 1)) (by decide +kernel) (by decide) (by decide +kernel) rfl (fun l56 => ?_)
  refine x_icmp (k := 3) (tg := 17) (np := 8) (by decide +kernel) (by decide) (by first | decide | omega) l6 (fun q57 => ?_) (fun q58 => ?_)
  · have q57 : (h 1 1) ≤ (1 + (h 1 2)) := q57
    refine x_const (np := 18) (x := 9223372034707292159) (a := 2147483647) (by decide +kernel) (by decide) (by decide) ?_
    refine x_retI (np := 19) (x := 0) (by decide +kernel) (by decide) (Or.inl (by decide +kernel)) ⟨_, rfl, (by decide), ?_⟩
    refine x_nI (t := 0) (mj := 82) (n := 1) (rc := 0) (ml := 1) (nr := 0) (np := 25) (as := [iv_c 2147483647]) (rest := []) (lo1 := [iv_c 2147483647]) (by decide +kernel) (by decide) (by decide +kernel) (Or.inl rfl) rfl rfl (x_wi (by decide) x_wn) x_wn (by decide) rfl ?_
    refine x_iload (np := 1) (x := 0) (by decide +kernel) rfl (by decide) ?_
    refine x_const (np := 3) (x := 9223372245160689712) (a := 2147483696) (by decide +kernel) (by decide) (by decide) ?_
    refine x_icmp (k := 2) (tg := 16) (np := 6) (by decide +kernel) (by decide) (by decide) (by decide) (fun q59 => ?_) (fun q60 => ?_)
    · have q59 : 2147483647 < 2147483696 := q59
      refine x_const (np := 17) (x := 9223372039002259456) (a := 2147483648) (by decide +kernel) (by decide) (by decide) ?_
      refine x_retI (np := 18) (x := 0) (by decide +kernel) (by decide) (Or.inr ⟨by decide +kernel, by first | decide | omega, by first | decide | omega⟩) ⟨_, rfl, (by decide), ?_⟩
      refine x_ifz (k := 0) (tg := 54) (np := 28) (by decide +kernel) (by decide) (by decide) (fun q61 => ?_) (fun q62 => ?_)
      · have q61 : 2147483648 = 2147483648 := q61
        refine x_iload (np := 56) (x := 4) (by decide +kernel) rfl (by decide) ?_
        refine x_ifz (k := 0) (tg := 75) (np := 59) (by decide +kernel) (by decide) (by decide) (fun q63 => ?_) (fun q64 => ?_)
        · have q63 : 2147483649 = 2147483648 := q63
          exfalso; omega
        have q64 : ¬ (2147483649 = 2147483648) := q64
        refine x_iload (np := 61) (x := 4) (by decide +kernel) rfl (by decide) ?_
        refine x_const (np := 62) (x := 9223372051887161347) (a := 2147483651) (by decide +kernel) (by decide) (by decide) ?_
        refine x_icmp (k := 4) (tg := 75) (np := 65) (by decide +kernel) (by decide) (by decide) (by decide) (fun q65 => ?_) (fun q66 => ?_)
        · have q65 : 2147483651 < 2147483649 := q65
          exfalso; omega
        have q66 : ¬ (2147483651 < 2147483649) := q66
        refine x_iload (np := 66) (x := 3) (by decide +kernel) rfl (by first | decide | omega) ?_
        refine x_iload (np := 67) (x := 1) (by decide +kernel) rfl (by decide) ?_
        refine x_icmp (k := 2) (tg := 75) (np := 70) (by decide +kernel) (by decide) (by first | decide | omega) (by decide) (fun q67 => ?_) (fun q68 => ?_)
        · have q67 : v51 < 2147483649 := q67
          refine x_const (np := 76) (x := 9223372034707292159) (a := 2147483647) (by decide +kernel) (by decide) (by decide) ?_
          have z69 := hT.1
          have z70 := Tp.at (p := (h 1 2 + 0)) (u := u19) hT (by first | decide | omega) (by first | decide | omega)
          have g71 : Dg tB tN (h 1 2 + 0) := ⟨by first | decide | omega, by first | decide | omega, by first | decide | omega⟩
          have z72 := hT.1
          have g73 : ¬ Dg tB tN (h 1 2 + 1) := fun z => by have z1 := z.1; have z2 := z.2.1; have z3 := z.2.2; omega
          have z74 := nv1 (B := tB) (p := h 1 2)
          refine x_retI (np := 77) (x := 0) (by decide +kernel) (by decide) (Or.inl (by decide +kernel)) ⟨_, rfl, (by decide), ?_⟩
          exact ⟨hJ, hF, (by first | decide | omega), (by first | decide | omega), (fun z => by first | decide | omega), (fun z => by first | decide | omega), (Nr.nor (by first | decide | omega) (Nu.mk1 g71 g73) (by first | decide | omega))⟩
        have q68 : ¬ (v51 < 2147483649) := q68
        refine x_iload (np := 71) (x := 3) (by decide +kernel) rfl (by first | decide | omega) ?_
        refine x_iload (np := 72) (x := 2) (by decide +kernel) rfl la2 ?_
        refine x_icmp (k := 5) (tg := 77) (np := 75) (by decide +kernel) (by decide) (by first | decide | omega) la2 (fun q75 => ?_) (fun q76 => ?_)
        · have q75 : v51 ≤ a2 := q75
          refine x_aload (np := 78) (x := 0) (by decide +kernel) rfl (x_nc_le (by decide)) ?_
          refine x_aload (np := 79) (x := 0) (by decide +kernel) rfl (x_nc_le (by decide)) ?_
          refine x_getC (np := 82) (x := 450) (f := 2) (q := (h 1 2)) (by decide +kernel) (by decide) (by decide +kernel) rfl (fun l77 => ?_)
          refine x_iload (np := 84) (x := 4) (by decide +kernel) rfl (by decide) ?_
          refine x_iadd (np := 85) (x := 0) (v := (1 + (h 1 2))) (by decide +kernel) l4 (by decide) (by first | decide | omega) (by first | decide | omega) ?_
          refine x_cV (t := 6) (mj := 80) (n := 2) (rc := 8) (ml := 2) (nr := 0) (np := 88) (as := [x_r 1, iv_c (1 + (h 1 2))]) (rest := []) (lo1 := [x_r 1, iv_c (1 + (h 1 2))]) (by decide +kernel) (by decide) (by decide +kernel) (x_rb_of (by decide +kernel)) rfl rfl (x_wr (by decide) (x_wi (by first | decide | omega) x_wn)) x_wn (by decide) rfl (c80_1 hJ  (by first | decide | omega) hT) (fun h81 q80 => ?_)
          obtain ⟨j82, f83, c86, c87⟩ := q80
          have f88 := Fr.trans hF f83 (by decide)
          have b89 := jB (e := 2) 0 j82 rg_1_2_0_1 (by first | decide | omega) (by first | decide | omega)
          refine x_iload (np := 89) (x := 3) (by decide +kernel) rfl (by first | decide | omega) ?_
          have z90 := hT.1
          have z91 := Tp.at (p := (h 1 2 + 0)) (u := u19) hT (by first | decide | omega) (by first | decide | omega)
          have g92 : Dg tB tN (h 1 2 + 0) := ⟨by first | decide | omega, by first | decide | omega, by first | decide | omega⟩
          have z93 := hT.1
          have g94 : ¬ Dg tB tN (h 1 2 + 1) := fun z => by have z1 := z.1; have z2 := z.2.1; have z3 := z.2.2; omega
          have z95 := nv1 (B := tB) (p := h 1 2)
          refine x_retI (np := 90) (x := 0) (by decide +kernel) (by first | decide | omega) (Or.inl (by decide +kernel)) ⟨_, rfl, (by first | decide | omega), ?_⟩
          exact ⟨j82, f88, (by first | decide | omega), (by first | decide | omega), (fun z => by first | decide | omega), (fun z => by first | decide | omega), (Nr.yes (Nu.mk1 g92 g94) (by first | decide | omega) (by first | decide | omega) (by first | decide | omega) c87 (by first | decide | omega))⟩
        have q76 : ¬ (v51 ≤ a2) := q76
        exfalso; omega
      have q62 : ¬ (2147483648 = 2147483648) := q62
      exfalso; omega
    have q60 : ¬ (2147483647 < 2147483696) := q60
    exfalso; omega
  have q58 : ¬ ((h 1 1) ≤ (1 + (h 1 2))) := q58
  refine x_aload (np := 9) (x := 0) (by decide +kernel) rfl (x_nc_le (by decide)) ?_
  have q96 : h 1 0 = 2 := by have z := jB (e := 0) 0 hJ rg_1_0_0_1 (by decide) (by decide); omega
  refine x_getR (np := 12) (x := 448) (f := 0) (q := 2) (by decide +kernel) (by decide) (by decide +kernel) q96 ?_
  refine x_iload (np := 13) (x := 1) (by decide +kernel) rfl (by first | decide | omega) ?_
  refine x_aldC (np := 14) (x := 0) (n := 400) (i := (1 + u19)) (q := (h 2 (1 + u19))) (by decide +kernel) (by decide +kernel) (by first | decide | omega) (by first | decide | omega) (by decide) rfl (fun l97 => ?_)
  refine x_goto (np := 17) (x := 18) (by decide +kernel) ?_
  refine x_retI (np := 19) (x := 0) (by decide +kernel) l97 (Or.inl (by decide +kernel)) ⟨_, rfl, l97, ?_⟩
  refine x_nI (t := 0) (mj := 82) (n := 1) (rc := 0) (ml := 1) (nr := 0) (np := 25) (as := [iv_c (h 2 (1 + u19))]) (rest := []) (lo1 := [iv_c (h 2 (1 + u19))]) (by decide +kernel) (by decide) (by decide +kernel) (Or.inl rfl) rfl rfl (x_wi l97 x_wn) x_wn (by decide) rfl ?_
  refine x_iload (np := 1) (x := 0) (by decide +kernel) rfl l97 ?_
  refine x_const (np := 3) (x := 9223372245160689712) (a := 2147483696) (by decide +kernel) (by decide) (by decide) ?_
  refine x_icmp (k := 2) (tg := 16) (np := 6) (by decide +kernel) (by decide) l97 (by decide) (fun q98 => ?_) (fun q99 => ?_)
  · have q98 : (h 2 (1 + u19)) < 2147483696 := q98
    refine x_const (np := 17) (x := 9223372039002259456) (a := 2147483648) (by decide +kernel) (by decide) (by decide) ?_
    refine x_retI (np := 18) (x := 0) (by decide +kernel) (by decide) (Or.inr ⟨by decide +kernel, by first | decide | omega, by first | decide | omega⟩) ⟨_, rfl, (by decide), ?_⟩
    refine x_ifz (k := 0) (tg := 54) (np := 28) (by decide +kernel) (by decide) (by decide) (fun q100 => ?_) (fun q101 => ?_)
    · have q100 : 2147483648 = 2147483648 := q100
      refine x_iload (np := 56) (x := 4) (by decide +kernel) rfl (by decide) ?_
      refine x_ifz (k := 0) (tg := 75) (np := 59) (by decide +kernel) (by decide) (by decide) (fun q102 => ?_) (fun q103 => ?_)
      · have q102 : 2147483649 = 2147483648 := q102
        exfalso; omega
      have q103 : ¬ (2147483649 = 2147483648) := q103
      refine x_iload (np := 61) (x := 4) (by decide +kernel) rfl (by decide) ?_
      refine x_const (np := 62) (x := 9223372051887161347) (a := 2147483651) (by decide +kernel) (by decide) (by decide) ?_
      refine x_icmp (k := 4) (tg := 75) (np := 65) (by decide +kernel) (by decide) (by decide) (by decide) (fun q104 => ?_) (fun q105 => ?_)
      · have q104 : 2147483651 < 2147483649 := q104
        exfalso; omega
      have q105 : ¬ (2147483651 < 2147483649) := q105
      refine x_iload (np := 66) (x := 3) (by decide +kernel) rfl (by first | decide | omega) ?_
      refine x_iload (np := 67) (x := 1) (by decide +kernel) rfl (by decide) ?_
      refine x_icmp (k := 2) (tg := 75) (np := 70) (by decide +kernel) (by decide) (by first | decide | omega) (by decide) (fun q106 => ?_) (fun q107 => ?_)
      · have q106 : v51 < 2147483649 := q106
        refine x_const (np := 76) (x := 9223372034707292159) (a := 2147483647) (by decide +kernel) (by decide) (by decide) ?_
        have z108 := hT.1
        have z109 := Tp.at (p := (h 1 2 + 0)) (u := u19) hT (by first | decide | omega) (by first | decide | omega)
        have g110 : Dg tB tN (h 1 2 + 0) := ⟨by first | decide | omega, by first | decide | omega, by first | decide | omega⟩
        have z111 := hT.1
        have z112 := Tp.at (p := (h 1 2 + 1)) (u := (1 + u19)) hT (by first | decide | omega) (by first | decide | omega)
        have g113 : ¬ Dg tB tN (h 1 2 + 1) := fun z => by have z1 := z.1; have z2 := z.2.1; have z3 := z.2.2; omega
        have z114 := nv1 (B := tB) (p := h 1 2)
        refine x_retI (np := 77) (x := 0) (by decide +kernel) (by decide) (Or.inl (by decide +kernel)) ⟨_, rfl, (by decide), ?_⟩
        exact ⟨hJ, hF, (by first | decide | omega), (by first | decide | omega), (fun z => by first | decide | omega), (fun z => by first | decide | omega), (Nr.nor (by first | decide | omega) (Nu.mk1 g110 g113) (by first | decide | omega))⟩
      have q107 : ¬ (v51 < 2147483649) := q107
      refine x_iload (np := 71) (x := 3) (by decide +kernel) rfl (by first | decide | omega) ?_
      refine x_iload (np := 72) (x := 2) (by decide +kernel) rfl la2 ?_
      refine x_icmp (k := 5) (tg := 77) (np := 75) (by decide +kernel) (by decide) (by first | decide | omega) la2 (fun q115 => ?_) (fun q116 => ?_)
      · have q115 : v51 ≤ a2 := q115
        refine x_aload (np := 78) (x := 0) (by decide +kernel) rfl (x_nc_le (by decide)) ?_
        refine x_aload (np := 79) (x := 0) (by decide +kernel) rfl (x_nc_le (by decide)) ?_
        refine x_getC (np := 82) (x := 450) (f := 2) (q := (h 1 2)) (by decide +kernel) (by decide) (by decide +kernel) rfl (fun l117 => ?_)
        refine x_iload (np := 84) (x := 4) (by decide +kernel) rfl (by decide) ?_
        refine x_iadd (np := 85) (x := 0) (v := (1 + (h 1 2))) (by decide +kernel) l4 (by decide) (by first | decide | omega) (by first | decide | omega) ?_
        refine x_cV (t := 6) (mj := 80) (n := 2) (rc := 8) (ml := 2) (nr := 0) (np := 88) (as := [x_r 1, iv_c (1 + (h 1 2))]) (rest := []) (lo1 := [x_r 1, iv_c (1 + (h 1 2))]) (by decide +kernel) (by decide) (by decide +kernel) (x_rb_of (by decide +kernel)) rfl rfl (x_wr (by decide) (x_wi (by first | decide | omega) x_wn)) x_wn (by decide) rfl (c80_1 hJ  (by first | decide | omega) hT) (fun h121 q120 => ?_)
        obtain ⟨j122, f123, c126, c127⟩ := q120
        have f128 := Fr.trans hF f123 (by decide)
        have b129 := jB (e := 2) 0 j122 rg_1_2_0_1 (by first | decide | omega) (by first | decide | omega)
        refine x_iload (np := 89) (x := 3) (by decide +kernel) rfl (by first | decide | omega) ?_
        have z130 := hT.1
        have z131 := Tp.at (p := (h 1 2 + 0)) (u := u19) hT (by first | decide | omega) (by first | decide | omega)
        have g132 : Dg tB tN (h 1 2 + 0) := ⟨by first | decide | omega, by first | decide | omega, by first | decide | omega⟩
        have z133 := hT.1
        have z134 := Tp.at (p := (h 1 2 + 1)) (u := (1 + u19)) hT (by first | decide | omega) (by first | decide | omega)
        have g135 : ¬ Dg tB tN (h 1 2 + 1) := fun z => by have z1 := z.1; have z2 := z.2.1; have z3 := z.2.2; omega
        have z136 := nv1 (B := tB) (p := h 1 2)
        refine x_retI (np := 90) (x := 0) (by decide +kernel) (by first | decide | omega) (Or.inl (by decide +kernel)) ⟨_, rfl, (by first | decide | omega), ?_⟩
        exact ⟨j122, f128, (by first | decide | omega), (by first | decide | omega), (fun z => by first | decide | omega), (fun z => by first | decide | omega), (Nr.yes (Nu.mk1 g132 g135) (by first | decide | omega) (by first | decide | omega) (by first | decide | omega) c127 (by first | decide | omega))⟩
      have q116 : ¬ (v51 ≤ a2) := q116
      exfalso; omega
    have q101 : ¬ (2147483648 = 2147483648) := q101
    exfalso; omega
  have q99 : ¬ ((h 2 (1 + u19)) < 2147483696) := q99
  refine x_iload (np := 7) (x := 0) (by decide +kernel) rfl l97 ?_
  refine x_const (np := 9) (x := 9223372283815395385) (a := 2147483705) (by decide +kernel) (by decide) (by decide) ?_
  refine x_icmp (k := 4) (tg := 16) (np := 12) (by decide +kernel) (by decide) l97 (by decide) (fun q137 => ?_) (fun q138 => ?_)
  · have q137 : 2147483705 < (h 2 (1 + u19)) := q137
    refine x_const (np := 17) (x := 9223372039002259456) (a := 2147483648) (by decide +kernel) (by decide) (by decide) ?_
    refine x_retI (np := 18) (x := 0) (by decide +kernel) (by decide) (Or.inr ⟨by decide +kernel, by first | decide | omega, by first | decide | omega⟩) ⟨_, rfl, (by decide), ?_⟩
    refine x_ifz (k := 0) (tg := 54) (np := 28) (by decide +kernel) (by decide) (by decide) (fun q139 => ?_) (fun q140 => ?_)
    · have q139 : 2147483648 = 2147483648 := q139
      refine x_iload (np := 56) (x := 4) (by decide +kernel) rfl (by decide) ?_
      refine x_ifz (k := 0) (tg := 75) (np := 59) (by decide +kernel) (by decide) (by decide) (fun q141 => ?_) (fun q142 => ?_)
      · have q141 : 2147483649 = 2147483648 := q141
        exfalso; omega
      have q142 : ¬ (2147483649 = 2147483648) := q142
      refine x_iload (np := 61) (x := 4) (by decide +kernel) rfl (by decide) ?_
      refine x_const (np := 62) (x := 9223372051887161347) (a := 2147483651) (by decide +kernel) (by decide) (by decide) ?_
      refine x_icmp (k := 4) (tg := 75) (np := 65) (by decide +kernel) (by decide) (by decide) (by decide) (fun q143 => ?_) (fun q144 => ?_)
      · have q143 : 2147483651 < 2147483649 := q143
        exfalso; omega
      have q144 : ¬ (2147483651 < 2147483649) := q144
      refine x_iload (np := 66) (x := 3) (by decide +kernel) rfl (by first | decide | omega) ?_
      refine x_iload (np := 67) (x := 1) (by decide +kernel) rfl (by decide) ?_
      refine x_icmp (k := 2) (tg := 75) (np := 70) (by decide +kernel) (by decide) (by first | decide | omega) (by decide) (fun q145 => ?_) (fun q146 => ?_)
      · have q145 : v51 < 2147483649 := q145
        refine x_const (np := 76) (x := 9223372034707292159) (a := 2147483647) (by decide +kernel) (by decide) (by decide) ?_
        have z147 := hT.1
        have z148 := Tp.at (p := (h 1 2 + 0)) (u := u19) hT (by first | decide | omega) (by first | decide | omega)
        have g149 : Dg tB tN (h 1 2 + 0) := ⟨by first | decide | omega, by first | decide | omega, by first | decide | omega⟩
        have z150 := hT.1
        have z151 := Tp.at (p := (h 1 2 + 1)) (u := (1 + u19)) hT (by first | decide | omega) (by first | decide | omega)
        have g152 : ¬ Dg tB tN (h 1 2 + 1) := fun z => by have z1 := z.1; have z2 := z.2.1; have z3 := z.2.2; omega
        have z153 := nv1 (B := tB) (p := h 1 2)
        refine x_retI (np := 77) (x := 0) (by decide +kernel) (by decide) (Or.inl (by decide +kernel)) ⟨_, rfl, (by decide), ?_⟩
        exact ⟨hJ, hF, (by first | decide | omega), (by first | decide | omega), (fun z => by first | decide | omega), (fun z => by first | decide | omega), (Nr.nor (by first | decide | omega) (Nu.mk1 g149 g152) (by first | decide | omega))⟩
      have q146 : ¬ (v51 < 2147483649) := q146
      refine x_iload (np := 71) (x := 3) (by decide +kernel) rfl (by first | decide | omega) ?_
      refine x_iload (np := 72) (x := 2) (by decide +kernel) rfl la2 ?_
      refine x_icmp (k := 5) (tg := 77) (np := 75) (by decide +kernel) (by decide) (by first | decide | omega) la2 (fun q154 => ?_) (fun q155 => ?_)
      · have q154 : v51 ≤ a2 := q154
        refine x_aload (np := 78) (x := 0) (by decide +kernel) rfl (x_nc_le (by decide)) ?_
        refine x_aload (np := 79) (x := 0) (by decide +kernel) rfl (x_nc_le (by decide)) ?_
        refine x_getC (np := 82) (x := 450) (f := 2) (q := (h 1 2)) (by decide +kernel) (by decide) (by decide +kernel) rfl (fun l156 => ?_)
        refine x_iload (np := 84) (x := 4) (by decide +kernel) rfl (by decide) ?_
        refine x_iadd (np := 85) (x := 0) (v := (1 + (h 1 2))) (by decide +kernel) l4 (by decide) (by first | decide | omega) (by first | decide | omega) ?_
        refine x_cV (t := 6) (mj := 80) (n := 2) (rc := 8) (ml := 2) (nr := 0) (np := 88) (as := [x_r 1, iv_c (1 + (h 1 2))]) (rest := []) (lo1 := [x_r 1, iv_c (1 + (h 1 2))]) (by decide +kernel) (by decide) (by decide +kernel) (x_rb_of (by decide +kernel)) rfl rfl (x_wr (by decide) (x_wi (by first | decide | omega) x_wn)) x_wn (by decide) rfl (c80_1 hJ  (by first | decide | omega) hT) (fun h160 q159 => ?_)
        obtain ⟨j161, f162, c165, c166⟩ := q159
        have f167 := Fr.trans hF f162 (by decide)
        have b168 := jB (e := 2) 0 j161 rg_1_2_0_1 (by first | decide | omega) (by first | decide | omega)
        refine x_iload (np := 89) (x := 3) (by decide +kernel) rfl (by first | decide | omega) ?_
        have z169 := hT.1
        have z170 := Tp.at (p := (h 1 2 + 0)) (u := u19) hT (by first | decide | omega) (by first | decide | omega)
        have g171 : Dg tB tN (h 1 2 + 0) := ⟨by first | decide | omega, by first | decide | omega, by first | decide | omega⟩
        have z172 := hT.1
        have z173 := Tp.at (p := (h 1 2 + 1)) (u := (1 + u19)) hT (by first | decide | omega) (by first | decide | omega)
        have g174 : ¬ Dg tB tN (h 1 2 + 1) := fun z => by have z1 := z.1; have z2 := z.2.1; have z3 := z.2.2; omega
        have z175 := nv1 (B := tB) (p := h 1 2)
        refine x_retI (np := 90) (x := 0) (by decide +kernel) (by first | decide | omega) (Or.inl (by decide +kernel)) ⟨_, rfl, (by first | decide | omega), ?_⟩
        exact ⟨j161, f167, (by first | decide | omega), (by first | decide | omega), (fun z => by first | decide | omega), (fun z => by first | decide | omega), (Nr.yes (Nu.mk1 g171 g174) (by first | decide | omega) (by first | decide | omega) (by first | decide | omega) c166 (by first | decide | omega))⟩
      have q155 : ¬ (v51 ≤ a2) := q155
      exfalso; omega
    have q140 : ¬ (2147483648 = 2147483648) := q140
    exfalso; omega
  have q138 : ¬ (2147483705 < (h 2 (1 + u19))) := q138
  refine x_const (np := 13) (x := 9223372043297226753) (a := 2147483649) (by decide +kernel) (by decide) (by decide) ?_
  refine x_goto (np := 16) (x := 17) (by decide +kernel) ?_
  refine x_retI (np := 18) (x := 0) (by decide +kernel) (by decide) (Or.inr ⟨by decide +kernel, by first | decide | omega, by first | decide | omega⟩) ⟨_, rfl, (by decide), ?_⟩
  refine x_ifz (k := 0) (tg := 54) (np := 28) (by decide +kernel) (by decide) (by decide) (fun q176 => ?_) (fun q177 => ?_)
  · have q176 : 2147483649 = 2147483648 := q176
    exfalso; omega
  have q177 : ¬ (2147483649 = 2147483648) := q177
  refine x_iload (np := 29) (x := 3) (by decide +kernel) rfl (by first | decide | omega) ?_
  refine x_const (np := 31) (x := 9223372081951932426) (a := 2147483658) (by decide +kernel) (by decide) (by decide) ?_
  obtain ⟨u178, q179⟩ : ∃ z, v51 = 2147483648 + z := ⟨v51 - 2147483648, by first | decide | omega⟩
  refine x_imul (np := 32) (x := 0) (i := u178) (j := 10) (v := (2147483648 + 10 * u178)) (by decide +kernel) (by first | decide | omega) (by first | decide | omega) (by first | decide | omega) (by first | decide | omega) (by first | decide | omega) (by decide) ?_
  refine x_aload (np := 33) (x := 0) (by decide +kernel) rfl (x_nc_le (by decide)) ?_
  refine x_aload (np := 34) (x := 0) (by decide +kernel) rfl (x_nc_le (by decide)) ?_
  refine x_getC (np := 37) (x := 450) (f := 2) (q := (h 1 2)) (by decide +kernel) (by decide) (by decide +kernel) rfl (fun l181 => ?_)
  refine x_iload (np := 39) (x := 4) (by decide +kernel) rfl (by decide) ?_
  refine x_iadd (np := 40) (x := 0) (v := (1 + (h 1 2))) (by decide +kernel) l4 (by decide) (by first | decide | omega) (by first | decide | omega) ?_
  refine x_nI (t := 6) (mj := 81) (n := 2) (rc := 8) (ml := 2) (nr := 1) (np := 43) (as := [x_r 1, iv_c (1 + (h 1 2))]) (rest := [iv_c (2147483648 + 10 * u178)]) (lo1 := [x_r 1, iv_c (1 + (h 1 2))]) (by decide +kernel) (by decide) (by decide +kernel) (x_rb_of (by decide +kernel)) rfl rfl (x_wr (by decide) (x_wi (by first | decide | omega) x_wn)) (x_wi (by first | decide | omega) x_wn) (by decide) rfl ?_
  refine x_iload (np := 1) (x := 1) (by decide +kernel) rfl (by first | decide | omega) ?_
  refine x_aload (np := 2) (x := 0) (by decide +kernel) rfl (x_nc_le (by decide)) ?_
  refine x_getC (np := 5) (x := 449) (f := 1) (q := (h 1 1)) (by decide +kernel) (by decide) (by decide +kernel) rfl (fun l182 => ?_)
  refine x_icmp (k := 3) (tg := 17) (np := 8) (by decide +kernel) (by decide) (by first | decide | omega) l6 (fun q183 => ?_) (fun q184 => ?_)
  · have q183 : (h 1 1) ≤ (1 + (h 1 2)) := q183
    exfalso; omega
  have q184 : ¬ ((h 1 1) ≤ (1 + (h 1 2))) := q184
  refine x_aload (np := 9) (x := 0) (by decide +kernel) rfl (x_nc_le (by decide)) ?_
  have q185 : h 1 0 = 2 := by have z := jB (e := 0) 0 hJ rg_1_0_0_1 (by decide) (by decide); omega
  refine x_getR (np := 12) (x := 448) (f := 0) (q := 2) (by decide +kernel) (by decide) (by decide +kernel) q185 ?_
  refine x_iload (np := 13) (x := 1) (by decide +kernel) rfl (by first | decide | omega) ?_
  refine x_aldC (np := 14) (x := 0) (n := 400) (i := (1 + u19)) (q := (h 2 (1 + u19))) (by decide +kernel) (by decide +kernel) (by first | decide | omega) (by first | decide | omega) (by decide) rfl (fun l186 => ?_)
  refine x_goto (np := 17) (x := 18) (by decide +kernel) ?_
  refine x_retI (np := 19) (x := 0) (by decide +kernel) l97 (Or.inl (by decide +kernel)) ⟨_, rfl, l97, ?_⟩
  refine x_iadd (np := 44) (x := 0) (v := (10 * u178 + (h 2 (1 + u19)))) (by decide +kernel) (by first | decide | omega) l97 (by first | decide | omega) (by first | decide | omega) ?_
  refine x_const (np := 46) (x := 9223372245160689712) (a := 2147483696) (by decide +kernel) (by decide) (by decide) ?_
  obtain ⟨v187, q188⟩ : ∃ z, z + 2147483696 = (10 * u178 + (h 2 (1 + u19))) + 2147483648 := ⟨(10 * u178 + (h 2 (1 + u19))) + 2147483648 - 2147483696, by first | decide | omega⟩
  refine x_isub (np := 47) (x := 0) (v := v187) (by decide +kernel) (by first | decide | omega) (by decide) (by first | decide | omega) (by first | decide | omega) ?_
  refine x_istore (np := 48) (x := 3) (lo' := [x_r 1, iv_c 2147483649, iv_c a2, iv_c v187, iv_c 2147483649]) (by decide +kernel) (by first | decide | omega) (Nat.le_of_ble_eq_true rfl) rfl ?_
  refine x_iinc (np := 51) (i := 4) (j := 2147483649) (v := 2147483650) (lo' := [x_r 1, iv_c 2147483649, iv_c a2, iv_c v187, iv_c 2147483650]) (by decide +kernel) (by decide) (by decide) rfl (by decide) (by first | decide | omega) (by first | decide | omega) rfl ?_
  refine x_goto (np := 54) (x := 5) (by decide +kernel) ?_
  refine x_iload (np := 7) (x := 4) (by decide +kernel) rfl (by decide) ?_
  refine x_const (np := 8) (x := 9223372051887161347) (a := 2147483651) (by decide +kernel) (by decide) (by decide) ?_
  refine x_icmp (k := 4) (tg := 54) (np := 11) (by decide +kernel) (by decide) (by decide) (by decide) (fun q189 => ?_) (fun q190 => ?_)
  · have q189 : 2147483651 < 2147483650 := q189
    exfalso; omega
  have q190 : ¬ (2147483651 < 2147483650) := q190
  refine x_aload (np := 12) (x := 0) (by decide +kernel) rfl (x_nc_le (by decide)) ?_
  refine x_aload (np := 13) (x := 0) (by decide +kernel) rfl (x_nc_le (by decide)) ?_
  refine x_getC (np := 16) (x := 450) (f := 2) (q := (h 1 2)) (by decide +kernel) (by decide) (by decide +kernel) rfl (fun l191 => ?_)
  refine x_iload (np := 18) (x := 4) (by decide +kernel) rfl (by decide) ?_
  refine x_iadd (np := 19) (x := 0) (v := (2 + (h 1 2))) (by decide +kernel) l4 (by decide) (by first | decide | omega) (by first | decide | omega) ?_
  refine x_nI (t := 6) (mj := 81) (n := 2) (rc := 8) (ml := 2) (nr := 0) (np := 22) (as := [x_r 1, iv_c (2 + (h 1 2))]) (rest := []) (lo1 := [x_r 1, iv_c (2 + (h 1 2))]) (by decide +kernel) (by decide) (by decide +kernel) (x_rb_of (by decide +kernel)) rfl rfl (x_wr (by decide) (x_wi (by first | decide | omega) x_wn)) x_wn (by decide) rfl ?_
  refine x_iload (np := 1) (x := 1) (by decide +kernel) rfl (by first | decide | omega) ?_
  refine x_aload (np := 2) (x := 0) (by decide +kernel) rfl (x_nc_le (by decide)) ?_
  refine x_getC (np := 5) (x := 449) (f := 1) (q := (h 1 1)) (by decide +kernel) (by decide) (by decide +kernel) rfl (fun l192 => ?_)
  refine x_icmp (k := 3) (tg := 17) (np := 8) (by decide +kernel) (by decide) (by first | decide | omega) l6 (fun q193 => ?_) (fun q194 => ?_)
  · have q193 : (h 1 1) ≤ (2 + (h 1 2)) := q193
    refine x_const (np := 18) (x := 9223372034707292159) (a := 2147483647) (by decide +kernel) (by decide) (by decide) ?_
    refine x_retI (np := 19) (x := 0) (by decide +kernel) (by decide) (Or.inl (by decide +kernel)) ⟨_, rfl, (by decide), ?_⟩
    refine x_nI (t := 0) (mj := 82) (n := 1) (rc := 0) (ml := 1) (nr := 0) (np := 25) (as := [iv_c 2147483647]) (rest := []) (lo1 := [iv_c 2147483647]) (by decide +kernel) (by decide) (by decide +kernel) (Or.inl rfl) rfl rfl (x_wi (by decide) x_wn) x_wn (by decide) rfl ?_
    refine x_iload (np := 1) (x := 0) (by decide +kernel) rfl (by decide) ?_
    refine x_const (np := 3) (x := 9223372245160689712) (a := 2147483696) (by decide +kernel) (by decide) (by decide) ?_
    refine x_icmp (k := 2) (tg := 16) (np := 6) (by decide +kernel) (by decide) (by decide) (by decide) (fun q195 => ?_) (fun q196 => ?_)
    · have q195 : 2147483647 < 2147483696 := q195
      refine x_const (np := 17) (x := 9223372039002259456) (a := 2147483648) (by decide +kernel) (by decide) (by decide) ?_
      refine x_retI (np := 18) (x := 0) (by decide +kernel) (by decide) (Or.inr ⟨by decide +kernel, by first | decide | omega, by first | decide | omega⟩) ⟨_, rfl, (by decide), ?_⟩
      refine x_ifz (k := 0) (tg := 54) (np := 28) (by decide +kernel) (by decide) (by decide) (fun q197 => ?_) (fun q198 => ?_)
      · have q197 : 2147483648 = 2147483648 := q197
        refine x_iload (np := 56) (x := 4) (by decide +kernel) rfl (by decide) ?_
        refine x_ifz (k := 0) (tg := 75) (np := 59) (by decide +kernel) (by decide) (by decide) (fun q199 => ?_) (fun q200 => ?_)
        · have q199 : 2147483650 = 2147483648 := q199
          exfalso; omega
        have q200 : ¬ (2147483650 = 2147483648) := q200
        refine x_iload (np := 61) (x := 4) (by decide +kernel) rfl (by decide) ?_
        refine x_const (np := 62) (x := 9223372051887161347) (a := 2147483651) (by decide +kernel) (by decide) (by decide) ?_
        refine x_icmp (k := 4) (tg := 75) (np := 65) (by decide +kernel) (by decide) (by decide) (by decide) (fun q201 => ?_) (fun q202 => ?_)
        · have q201 : 2147483651 < 2147483650 := q201
          exfalso; omega
        have q202 : ¬ (2147483651 < 2147483650) := q202
        refine x_iload (np := 66) (x := 3) (by decide +kernel) rfl (by first | decide | omega) ?_
        refine x_iload (np := 67) (x := 1) (by decide +kernel) rfl (by decide) ?_
        refine x_icmp (k := 2) (tg := 75) (np := 70) (by decide +kernel) (by decide) (by first | decide | omega) (by decide) (fun q203 => ?_) (fun q204 => ?_)
        · have q203 : v187 < 2147483649 := q203
          refine x_const (np := 76) (x := 9223372034707292159) (a := 2147483647) (by decide +kernel) (by decide) (by decide) ?_
          have z205 := hT.1
          have z206 := Tp.at (p := (h 1 2 + 0)) (u := u19) hT (by first | decide | omega) (by first | decide | omega)
          have g207 : Dg tB tN (h 1 2 + 0) := ⟨by first | decide | omega, by first | decide | omega, by first | decide | omega⟩
          have z208 := Tp.at (p := (h 1 2 + 1)) (u := (1 + u19)) hT (by first | decide | omega) (by first | decide | omega)
          have g209 : Dg tB tN (h 1 2 + 1) := ⟨by first | decide | omega, by first | decide | omega, by first | decide | omega⟩
          have z210 := hT.1
          have g211 : ¬ Dg tB tN (h 1 2 + 2) := fun z => by have z1 := z.1; have z2 := z.2.1; have z3 := z.2.2; omega
          have z212 := nv2 (B := tB) (p := h 1 2)
          refine x_retI (np := 77) (x := 0) (by decide +kernel) (by decide) (Or.inl (by decide +kernel)) ⟨_, rfl, (by decide), ?_⟩
          exact ⟨hJ, hF, (by first | decide | omega), (by first | decide | omega), (fun z => by first | decide | omega), (fun z => by first | decide | omega), (Nr.nor (by first | decide | omega) (Nu.mk2 g207 g209 g211) (by first | decide | omega))⟩
        have q204 : ¬ (v187 < 2147483649) := q204
        refine x_iload (np := 71) (x := 3) (by decide +kernel) rfl (by first | decide | omega) ?_
        refine x_iload (np := 72) (x := 2) (by decide +kernel) rfl la2 ?_
        refine x_icmp (k := 5) (tg := 77) (np := 75) (by decide +kernel) (by decide) (by first | decide | omega) la2 (fun q213 => ?_) (fun q214 => ?_)
        · have q213 : v187 ≤ a2 := q213
          refine x_aload (np := 78) (x := 0) (by decide +kernel) rfl (x_nc_le (by decide)) ?_
          refine x_aload (np := 79) (x := 0) (by decide +kernel) rfl (x_nc_le (by decide)) ?_
          refine x_getC (np := 82) (x := 450) (f := 2) (q := (h 1 2)) (by decide +kernel) (by decide) (by decide +kernel) rfl (fun l215 => ?_)
          refine x_iload (np := 84) (x := 4) (by decide +kernel) rfl (by decide) ?_
          refine x_iadd (np := 85) (x := 0) (v := (2 + (h 1 2))) (by decide +kernel) l4 (by decide) (by first | decide | omega) (by first | decide | omega) ?_
          refine x_cV (t := 6) (mj := 80) (n := 2) (rc := 8) (ml := 2) (nr := 0) (np := 88) (as := [x_r 1, iv_c (2 + (h 1 2))]) (rest := []) (lo1 := [x_r 1, iv_c (2 + (h 1 2))]) (by decide +kernel) (by decide) (by decide +kernel) (x_rb_of (by decide +kernel)) rfl rfl (x_wr (by decide) (x_wi (by first | decide | omega) x_wn)) x_wn (by decide) rfl (c80_1 hJ  (by first | decide | omega) hT) (fun h219 q218 => ?_)
          obtain ⟨j220, f221, c224, c225⟩ := q218
          have f226 := Fr.trans hF f221 (by decide)
          have b227 := jB (e := 2) 0 j220 rg_1_2_0_1 (by first | decide | omega) (by first | decide | omega)
          refine x_iload (np := 89) (x := 3) (by decide +kernel) rfl (by first | decide | omega) ?_
          have z228 := hT.1
          have z229 := Tp.at (p := (h 1 2 + 0)) (u := u19) hT (by first | decide | omega) (by first | decide | omega)
          have g230 : Dg tB tN (h 1 2 + 0) := ⟨by first | decide | omega, by first | decide | omega, by first | decide | omega⟩
          have z231 := Tp.at (p := (h 1 2 + 1)) (u := (1 + u19)) hT (by first | decide | omega) (by first | decide | omega)
          have g232 : Dg tB tN (h 1 2 + 1) := ⟨by first | decide | omega, by first | decide | omega, by first | decide | omega⟩
          have z233 := hT.1
          have g234 : ¬ Dg tB tN (h 1 2 + 2) := fun z => by have z1 := z.1; have z2 := z.2.1; have z3 := z.2.2; omega
          have z235 := nv2 (B := tB) (p := h 1 2)
          refine x_retI (np := 90) (x := 0) (by decide +kernel) (by first | decide | omega) (Or.inl (by decide +kernel)) ⟨_, rfl, (by first | decide | omega), ?_⟩
          exact ⟨j220, f226, (by first | decide | omega), (by first | decide | omega), (fun z => by first | decide | omega), (fun z => by first | decide | omega), (Nr.yes (Nu.mk2 g230 g232 g234) (by first | decide | omega) (by first | decide | omega) (by first | decide | omega) c225 (by first | decide | omega))⟩
        have q214 : ¬ (v187 ≤ a2) := q214
        refine x_const (np := 76) (x := 9223372034707292159) (a := 2147483647) (by decide +kernel) (by decide) (by decide) ?_
        have z236 := hT.1
        have z237 := Tp.at (p := (h 1 2 + 0)) (u := u19) hT (by first | decide | omega) (by first | decide | omega)
        have g238 : Dg tB tN (h 1 2 + 0) := ⟨by first | decide | omega, by first | decide | omega, by first | decide | omega⟩
        have z239 := Tp.at (p := (h 1 2 + 1)) (u := (1 + u19)) hT (by first | decide | omega) (by first | decide | omega)
        have g240 : Dg tB tN (h 1 2 + 1) := ⟨by first | decide | omega, by first | decide | omega, by first | decide | omega⟩
        have z241 := hT.1
        have g242 : ¬ Dg tB tN (h 1 2 + 2) := fun z => by have z1 := z.1; have z2 := z.2.1; have z3 := z.2.2; omega
        have z243 := nv2 (B := tB) (p := h 1 2)
        refine x_retI (np := 77) (x := 0) (by decide +kernel) (by decide) (Or.inl (by decide +kernel)) ⟨_, rfl, (by decide), ?_⟩
        exact ⟨hJ, hF, (by first | decide | omega), (by first | decide | omega), (fun z => by first | decide | omega), (fun z => by first | decide | omega), (Nr.nor (by first | decide | omega) (Nu.mk2 g238 g240 g242) (by first | decide | omega))⟩
      have q198 : ¬ (2147483648 = 2147483648) := q198
      exfalso; omega
    have q196 : ¬ (2147483647 < 2147483696) := q196
    exfalso; omega
  have q194 : ¬ ((h 1 1) ≤ (2 + (h 1 2))) := q194
  refine x_aload (np := 9) (x := 0) (by decide +kernel) rfl (x_nc_le (by decide)) ?_
  have q244 : h 1 0 = 2 := by have z := jB (e := 0) 0 hJ rg_1_0_0_1 (by decide) (by decide); omega
  refine x_getR (np := 12) (x := 448) (f := 0) (q := 2) (by decide +kernel) (by decide) (by decide +kernel) q244 ?_
  refine x_iload (np := 13) (x := 1) (by decide +kernel) rfl (by first | decide | omega) ?_
  refine x_aldC (np := 14) (x := 0) (n := 400) (i := (2 + u19)) (q := (h 2 (2 + u19))) (by decide +kernel) (by decide +kernel) (by first | decide | omega) (by first | decide | omega) (by decide) rfl (fun l245 => ?_)
  refine x_goto (np := 17) (x := 18) (by decide +kernel) ?_
  refine x_retI (np := 19) (x := 0) (by decide +kernel) l245 (Or.inl (by decide +kernel)) ⟨_, rfl, l245, ?_⟩
  refine x_nI (t := 0) (mj := 82) (n := 1) (rc := 0) (ml := 1) (nr := 0) (np := 25) (as := [iv_c (h 2 (2 + u19))]) (rest := []) (lo1 := [iv_c (h 2 (2 + u19))]) (by decide +kernel) (by decide) (by decide +kernel) (Or.inl rfl) rfl rfl (x_wi l245 x_wn) x_wn (by decide) rfl ?_
  refine x_iload (np := 1) (x := 0) (by decide +kernel) rfl l245 ?_
  refine x_const (np := 3) (x := 9223372245160689712) (a := 2147483696) (by decide +kernel) (by decide) (by decide) ?_
  refine x_icmp (k := 2) (tg := 16) (np := 6) (by decide +kernel) (by decide) l245 (by decide) (fun q246 => ?_) (fun q247 => ?_)
  · have q246 : (h 2 (2 + u19)) < 2147483696 := q246
    refine x_const (np := 17) (x := 9223372039002259456) (a := 2147483648) (by decide +kernel) (by decide) (by decide) ?_
    refine x_retI (np := 18) (x := 0) (by decide +kernel) (by decide) (Or.inr ⟨by decide +kernel, by first | decide | omega, by first | decide | omega⟩) ⟨_, rfl, (by decide), ?_⟩
    refine x_ifz (k := 0) (tg := 54) (np := 28) (by decide +kernel) (by decide) (by decide) (fun q248 => ?_) (fun q249 => ?_)
    · have q248 : 2147483648 = 2147483648 := q248
      refine x_iload (np := 56) (x := 4) (by decide +kernel) rfl (by decide) ?_
      refine x_ifz (k := 0) (tg := 75) (np := 59) (by decide +kernel) (by decide) (by decide) (fun q250 => ?_) (fun q251 => ?_)
      · have q250 : 2147483650 = 2147483648 := q250
        exfalso; omega
      have q251 : ¬ (2147483650 = 2147483648) := q251
      refine x_iload (np := 61) (x := 4) (by decide +kernel) rfl (by decide) ?_
      refine x_const (np := 62) (x := 9223372051887161347) (a := 2147483651) (by decide +kernel) (by decide) (by decide) ?_
      refine x_icmp (k := 4) (tg := 75) (np := 65) (by decide +kernel) (by decide) (by decide) (by decide) (fun q252 => ?_) (fun q253 => ?_)
      · have q252 : 2147483651 < 2147483650 := q252
        exfalso; omega
      have q253 : ¬ (2147483651 < 2147483650) := q253
      refine x_iload (np := 66) (x := 3) (by decide +kernel) rfl (by first | decide | omega) ?_
      refine x_iload (np := 67) (x := 1) (by decide +kernel) rfl (by decide) ?_
      refine x_icmp (k := 2) (tg := 75) (np := 70) (by decide +kernel) (by decide) (by first | decide | omega) (by decide) (fun q254 => ?_) (fun q255 => ?_)
      · have q254 : v187 < 2147483649 := q254
        refine x_const (np := 76) (x := 9223372034707292159) (a := 2147483647) (by decide +kernel) (by decide) (by decide) ?_
        have z256 := hT.1
        have z257 := Tp.at (p := (h 1 2 + 0)) (u := u19) hT (by first | decide | omega) (by first | decide | omega)
        have g258 : Dg tB tN (h 1 2 + 0) := ⟨by first | decide | omega, by first | decide | omega, by first | decide | omega⟩
        have z259 := Tp.at (p := (h 1 2 + 1)) (u := (1 + u19)) hT (by first | decide | omega) (by first | decide | omega)
        have g260 : Dg tB tN (h 1 2 + 1) := ⟨by first | decide | omega, by first | decide | omega, by first | decide | omega⟩
        have z261 := hT.1
        have z262 := Tp.at (p := (h 1 2 + 2)) (u := (2 + u19)) hT (by first | decide | omega) (by first | decide | omega)
        have g263 : ¬ Dg tB tN (h 1 2 + 2) := fun z => by have z1 := z.1; have z2 := z.2.1; have z3 := z.2.2; omega
        have z264 := nv2 (B := tB) (p := h 1 2)
        refine x_retI (np := 77) (x := 0) (by decide +kernel) (by decide) (Or.inl (by decide +kernel)) ⟨_, rfl, (by decide), ?_⟩
        exact ⟨hJ, hF, (by first | decide | omega), (by first | decide | omega), (fun z => by first | decide | omega), (fun z => by first | decide | omega), (Nr.nor (by first | decide | omega) (Nu.mk2 g258 g260 g263) (by first | decide | omega))⟩
      have q255 : ¬ (v187 < 2147483649) := q255
      refine x_iload (np := 71) (x := 3) (by decide +kernel) rfl (by first | decide | omega) ?_
      refine x_iload (np := 72) (x := 2) (by decide +kernel) rfl la2 ?_
      refine x_icmp (k := 5) (tg := 77) (np := 75) (by decide +kernel) (by decide) (by first | decide | omega) la2 (fun q265 => ?_) (fun q266 => ?_)
      · have q265 : v187 ≤ a2 := q265
        refine x_aload (np := 78) (x := 0) (by decide +kernel) rfl (x_nc_le (by decide)) ?_
        refine x_aload (np := 79) (x := 0) (by decide +kernel) rfl (x_nc_le (by decide)) ?_
        refine x_getC (np := 82) (x := 450) (f := 2) (q := (h 1 2)) (by decide +kernel) (by decide) (by decide +kernel) rfl (fun l267 => ?_)
        refine x_iload (np := 84) (x := 4) (by decide +kernel) rfl (by decide) ?_
        refine x_iadd (np := 85) (x := 0) (v := (2 + (h 1 2))) (by decide +kernel) l4 (by decide) (by first | decide | omega) (by first | decide | omega) ?_
        refine x_cV (t := 6) (mj := 80) (n := 2) (rc := 8) (ml := 2) (nr := 0) (np := 88) (as := [x_r 1, iv_c (2 + (h 1 2))]) (rest := []) (lo1 := [x_r 1, iv_c (2 + (h 1 2))]) (by decide +kernel) (by decide) (by decide +kernel) (x_rb_of (by decide +kernel)) rfl rfl (x_wr (by decide) (x_wi (by first | decide | omega) x_wn)) x_wn (by decide) rfl (c80_1 hJ  (by first | decide | omega) hT) (fun h271 q270 => ?_)
        obtain ⟨j272, f273, c276, c277⟩ := q270
        have f278 := Fr.trans hF f273 (by decide)
        have b279 := jB (e := 2) 0 j272 rg_1_2_0_1 (by first | decide | omega) (by first | decide | omega)
        refine x_iload (np := 89) (x := 3) (by decide +kernel) rfl (by first | decide | omega) ?_
        have z280 := hT.1
        have z281 := Tp.at (p := (h 1 2 + 0)) (u := u19) hT (by first | decide | omega) (by first | decide | omega)
        have g282 : Dg tB tN (h 1 2 + 0) := ⟨by first | decide | omega, by first | decide | omega, by first | decide | omega⟩
        have z283 := Tp.at (p := (h 1 2 + 1)) (u := (1 + u19)) hT (by first | decide | omega) (by first | decide | omega)
        have g284 : Dg tB tN (h 1 2 + 1) := ⟨by first | decide | omega, by first | decide | omega, by first | decide | omega⟩
        have z285 := hT.1
        have z286 := Tp.at (p := (h 1 2 + 2)) (u := (2 + u19)) hT (by first | decide | omega) (by first | decide | omega)
        have g287 : ¬ Dg tB tN (h 1 2 + 2) := fun z => by have z1 := z.1; have z2 := z.2.1; have z3 := z.2.2; omega
        have z288 := nv2 (B := tB) (p := h 1 2)
        refine x_retI (np := 90) (x := 0) (by decide +kernel) (by first | decide | omega) (Or.inl (by decide +kernel)) ⟨_, rfl, (by first | decide | omega), ?_⟩
        exact ⟨j272, f278, (by first | decide | omega), (by first | decide | omega), (fun z => by first | decide | omega), (fun z => by first | decide | omega), (Nr.yes (Nu.mk2 g282 g284 g287) (by first | decide | omega) (by first | decide | omega) (by first | decide | omega) c277 (by first | decide | omega))⟩
      have q266 : ¬ (v187 ≤ a2) := q266
      refine x_const (np := 76) (x := 9223372034707292159) (a := 2147483647) (by decide +kernel) (by decide) (by decide) ?_
      have z289 := hT.1
      have z290 := Tp.at (p := (h 1 2 + 0)) (u := u19) hT (by first | decide | omega) (by first | decide | omega)
      have g291 : Dg tB tN (h 1 2 + 0) := ⟨by first | decide | omega, by first | decide | omega, by first | decide | omega⟩
      have z292 := Tp.at (p := (h 1 2 + 1)) (u := (1 + u19)) hT (by first | decide | omega) (by first | decide | omega)
      have g293 : Dg tB tN (h 1 2 + 1) := ⟨by first | decide | omega, by first | decide | omega, by first | decide | omega⟩
      have z294 := hT.1
      have z295 := Tp.at (p := (h 1 2 + 2)) (u := (2 + u19)) hT (by first | decide | omega) (by first | decide | omega)
      have g296 : ¬ Dg tB tN (h 1 2 + 2) := fun z => by have z1 := z.1; have z2 := z.2.1; have z3 := z.2.2; omega
      have z297 := nv2 (B := tB) (p := h 1 2)
      refine x_retI (np := 77) (x := 0) (by decide +kernel) (by decide) (Or.inl (by decide +kernel)) ⟨_, rfl, (by decide), ?_⟩
      exact ⟨hJ, hF, (by first | decide | omega), (by first | decide | omega), (fun z => by first | decide | omega), (fun z => by first | decide | omega), (Nr.nor (by first | decide | omega) (Nu.mk2 g291 g293 g296) (by first | decide | omega))⟩
    have q249 : ¬ (2147483648 = 2147483648) := q249
    exfalso; omega
  have q247 : ¬ ((h 2 (2 + u19)) < 2147483696) := q247
  refine x_iload (np := 7) (x := 0) (by decide +kernel) rfl l245 ?_
  refine x_const (np := 9) (x := 9223372283815395385) (a := 2147483705) (by decide +kernel) (by decide) (by decide) ?_
  refine x_icmp (k := 4) (tg := 16) (np := 12) (by decide +kernel) (by decide) l245 (by decide) (fun q298 => ?_) (fun q299 => ?_)
  · have q298 : 2147483705 < (h 2 (2 + u19)) := q298
    refine x_const (np := 17) (x := 9223372039002259456) (a := 2147483648) (by decide +kernel) (by decide) (by decide) ?_
    refine x_retI (np := 18) (x := 0) (by decide +kernel) (by decide) (Or.inr ⟨by decide +kernel, by first | decide | omega, by first | decide | omega⟩) ⟨_, rfl, (by decide), ?_⟩
    refine x_ifz (k := 0) (tg := 54) (np := 28) (by decide +kernel) (by decide) (by decide) (fun q300 => ?_) (fun q301 => ?_)
    · have q300 : 2147483648 = 2147483648 := q300
      refine x_iload (np := 56) (x := 4) (by decide +kernel) rfl (by decide) ?_
      refine x_ifz (k := 0) (tg := 75) (np := 59) (by decide +kernel) (by decide) (by decide) (fun q302 => ?_) (fun q303 => ?_)
      · have q302 : 2147483650 = 2147483648 := q302
        exfalso; omega
      have q303 : ¬ (2147483650 = 2147483648) := q303
      refine x_iload (np := 61) (x := 4) (by decide +kernel) rfl (by decide) ?_
      refine x_const (np := 62) (x := 9223372051887161347) (a := 2147483651) (by decide +kernel) (by decide) (by decide) ?_
      refine x_icmp (k := 4) (tg := 75) (np := 65) (by decide +kernel) (by decide) (by decide) (by decide) (fun q304 => ?_) (fun q305 => ?_)
      · have q304 : 2147483651 < 2147483650 := q304
        exfalso; omega
      have q305 : ¬ (2147483651 < 2147483650) := q305
      refine x_iload (np := 66) (x := 3) (by decide +kernel) rfl (by first | decide | omega) ?_
      refine x_iload (np := 67) (x := 1) (by decide +kernel) rfl (by decide) ?_
      refine x_icmp (k := 2) (tg := 75) (np := 70) (by decide +kernel) (by decide) (by first | decide | omega) (by decide) (fun q306 => ?_) (fun q307 => ?_)
      · have q306 : v187 < 2147483649 := q306
        refine x_const (np := 76) (x := 9223372034707292159) (a := 2147483647) (by decide +kernel) (by decide) (by decide) ?_
        have z308 := hT.1
        have z309 := Tp.at (p := (h 1 2 + 0)) (u := u19) hT (by first | decide | omega) (by first | decide | omega)
        have g310 : Dg tB tN (h 1 2 + 0) := ⟨by first | decide | omega, by first | decide | omega, by first | decide | omega⟩
        have z311 := Tp.at (p := (h 1 2 + 1)) (u := (1 + u19)) hT (by first | decide | omega) (by first | decide | omega)
        have g312 : Dg tB tN (h 1 2 + 1) := ⟨by first | decide | omega, by first | decide | omega, by first | decide | omega⟩
        have z313 := hT.1
        have z314 := Tp.at (p := (h 1 2 + 2)) (u := (2 + u19)) hT (by first | decide | omega) (by first | decide | omega)
        have g315 : ¬ Dg tB tN (h 1 2 + 2) := fun z => by have z1 := z.1; have z2 := z.2.1; have z3 := z.2.2; omega
        have z316 := nv2 (B := tB) (p := h 1 2)
        refine x_retI (np := 77) (x := 0) (by decide +kernel) (by decide) (Or.inl (by decide +kernel)) ⟨_, rfl, (by decide), ?_⟩
        exact ⟨hJ, hF, (by first | decide | omega), (by first | decide | omega), (fun z => by first | decide | omega), (fun z => by first | decide | omega), (Nr.nor (by first | decide | omega) (Nu.mk2 g310 g312 g315) (by first | decide | omega))⟩
      have q307 : ¬ (v187 < 2147483649) := q307
      refine x_iload (np := 71) (x := 3) (by decide +kernel) rfl (by first | decide | omega) ?_
      refine x_iload (np := 72) (x := 2) (by decide +kernel) rfl la2 ?_
      refine x_icmp (k := 5) (tg := 77) (np := 75) (by decide +kernel) (by decide) (by first | decide | omega) la2 (fun q317 => ?_) (fun q318 => ?_)
      · have q317 : v187 ≤ a2 := q317
        refine x_aload (np := 78) (x := 0) (by decide +kernel) rfl (x_nc_le (by decide)) ?_
        refine x_aload (np := 79) (x := 0) (by decide +kernel) rfl (x_nc_le (by decide)) ?_
        refine x_getC (np := 82) (x := 450) (f := 2) (q := (h 1 2)) (by decide +kernel) (by decide) (by decide +kernel) rfl (fun l319 => ?_)
        refine x_iload (np := 84) (x := 4) (by decide +kernel) rfl (by decide) ?_
        refine x_iadd (np := 85) (x := 0) (v := (2 + (h 1 2))) (by decide +kernel) l4 (by decide) (by first | decide | omega) (by first | decide | omega) ?_
        refine x_cV (t := 6) (mj := 80) (n := 2) (rc := 8) (ml := 2) (nr := 0) (np := 88) (as := [x_r 1, iv_c (2 + (h 1 2))]) (rest := []) (lo1 := [x_r 1, iv_c (2 + (h 1 2))]) (by decide +kernel) (by decide) (by decide +kernel) (x_rb_of (by decide +kernel)) rfl rfl (x_wr (by decide) (x_wi (by first | decide | omega) x_wn)) x_wn (by decide) rfl (c80_1 hJ  (by first | decide | omega) hT) (fun h323 q322 => ?_)
        obtain ⟨j324, f325, c328, c329⟩ := q322
        have f330 := Fr.trans hF f325 (by decide)
        have b331 := jB (e := 2) 0 j324 rg_1_2_0_1 (by first | decide | omega) (by first | decide | omega)
        refine x_iload (np := 89) (x := 3) (by decide +kernel) rfl (by first | decide | omega) ?_
        have z332 := hT.1
        have z333 := Tp.at (p := (h 1 2 + 0)) (u := u19) hT (by first | decide | omega) (by first | decide | omega)
        have g334 : Dg tB tN (h 1 2 + 0) := ⟨by first | decide | omega, by first | decide | omega, by first | decide | omega⟩
        have z335 := Tp.at (p := (h 1 2 + 1)) (u := (1 + u19)) hT (by first | decide | omega) (by first | decide | omega)
        have g336 : Dg tB tN (h 1 2 + 1) := ⟨by first | decide | omega, by first | decide | omega, by first | decide | omega⟩
        have z337 := hT.1
        have z338 := Tp.at (p := (h 1 2 + 2)) (u := (2 + u19)) hT (by first | decide | omega) (by first | decide | omega)
        have g339 : ¬ Dg tB tN (h 1 2 + 2) := fun z => by have z1 := z.1; have z2 := z.2.1; have z3 := z.2.2; omega
        have z340 := nv2 (B := tB) (p := h 1 2)
        refine x_retI (np := 90) (x := 0) (by decide +kernel) (by first | decide | omega) (Or.inl (by decide +kernel)) ⟨_, rfl, (by first | decide | omega), ?_⟩
        exact ⟨j324, f330, (by first | decide | omega), (by first | decide | omega), (fun z => by first | decide | omega), (fun z => by first | decide | omega), (Nr.yes (Nu.mk2 g334 g336 g339) (by first | decide | omega) (by first | decide | omega) (by first | decide | omega) c329 (by first | decide | omega))⟩
      have q318 : ¬ (v187 ≤ a2) := q318
      refine x_const (np := 76) (x := 9223372034707292159) (a := 2147483647) (by decide +kernel) (by decide) (by decide) ?_
      have z341 := hT.1
      have z342 := Tp.at (p := (h 1 2 + 0)) (u := u19) hT (by first | decide | omega) (by first | decide | omega)
      have g343 : Dg tB tN (h 1 2 + 0) := ⟨by first | decide | omega, by first | decide | omega, by first | decide | omega⟩
      have z344 := Tp.at (p := (h 1 2 + 1)) (u := (1 + u19)) hT (by first | decide | omega) (by first | decide | omega)
      have g345 : Dg tB tN (h 1 2 + 1) := ⟨by first | decide | omega, by first | decide | omega, by first | decide | omega⟩
      have z346 := hT.1
      have z347 := Tp.at (p := (h 1 2 + 2)) (u := (2 + u19)) hT (by first | decide | omega) (by first | decide | omega)
      have g348 : ¬ Dg tB tN (h 1 2 + 2) := fun z => by have z1 := z.1; have z2 := z.2.1; have z3 := z.2.2; omega
      have z349 := nv2 (B := tB) (p := h 1 2)
      refine x_retI (np := 77) (x := 0) (by decide +kernel) (by decide) (Or.inl (by decide +kernel)) ⟨_, rfl, (by decide), ?_⟩
      exact ⟨hJ, hF, (by first | decide | omega), (by first | decide | omega), (fun z => by first | decide | omega), (fun z => by first | decide | omega), (Nr.nor (by first | decide | omega) (Nu.mk2 g343 g345 g348) (by first | decide | omega))⟩
    have q301 : ¬ (2147483648 = 2147483648) := q301
    exfalso; omega
  have q299 : ¬ (2147483705 < (h 2 (2 + u19))) := q299
  refine x_const (np := 13) (x := 9223372043297226753) (a := 2147483649) (by decide +kernel) (by decide) (by decide) ?_
  refine x_goto (np := 16) (x := 17) (by decide +kernel) ?_
  refine x_retI (np := 18) (x := 0) (by decide +kernel) (by decide) (Or.inr ⟨by decide +kernel, by first | decide | omega, by first | decide | omega⟩) ⟨_, rfl, (by decide), ?_⟩
  refine x_ifz (k := 0) (tg := 54) (np := 28) (by decide +kernel) (by decide) (by decide) (fun q350 => ?_) (fun q351 => ?_)
  · have q350 : 2147483649 = 2147483648 := q350
    exfalso; omega
  have q351 : ¬ (2147483649 = 2147483648) := q351
  refine x_iload (np := 29) (x := 3) (by decide +kernel) rfl (by first | decide | omega) ?_
  refine x_const (np := 31) (x := 9223372081951932426) (a := 2147483658) (by decide +kernel) (by decide) (by decide) ?_
  obtain ⟨u352, q353⟩ : ∃ z, v187 = 2147483648 + z := ⟨v187 - 2147483648, by first | decide | omega⟩
  refine x_imul (np := 32) (x := 0) (i := u352) (j := 10) (v := (2147483648 + 10 * u352)) (by decide +kernel) (by first | decide | omega) (by first | decide | omega) (by first | decide | omega) (by first | decide | omega) (by first | decide | omega) (by decide) ?_
  refine x_aload (np := 33) (x := 0) (by decide +kernel) rfl (x_nc_le (by decide)) ?_
  refine x_aload (np := 34) (x := 0) (by decide +kernel) rfl (x_nc_le (by decide)) ?_
  refine x_getC (np := 37) (x := 450) (f := 2) (q := (h 1 2)) (by decide +kernel) (by decide) (by decide +kernel) rfl (fun l355 => ?_)
  refine x_iload (np := 39) (x := 4) (by decide +kernel) rfl (by decide) ?_
  refine x_iadd (np := 40) (x := 0) (v := (2 + (h 1 2))) (by decide +kernel) l4 (by decide) (by first | decide | omega) (by first | decide | omega) ?_
  refine x_nI (t := 6) (mj := 81) (n := 2) (rc := 8) (ml := 2) (nr := 1) (np := 43) (as := [x_r 1, iv_c (2 + (h 1 2))]) (rest := [iv_c (2147483648 + 10 * u352)]) (lo1 := [x_r 1, iv_c (2 + (h 1 2))]) (by decide +kernel) (by decide) (by decide +kernel) (x_rb_of (by decide +kernel)) rfl rfl (x_wr (by decide) (x_wi (by first | decide | omega) x_wn)) (x_wi (by first | decide | omega) x_wn) (by decide) rfl ?_
  refine x_iload (np := 1) (x := 1) (by decide +kernel) rfl (by first | decide | omega) ?_
  refine x_aload (np := 2) (x := 0) (by decide +kernel) rfl (x_nc_le (by decide)) ?_
  refine x_getC (np := 5) (x := 449) (f := 1) (q := (h 1 1)) (by decide +kernel) (by decide) (by decide +kernel) rfl (fun l356 => ?_)
  refine x_icmp (k := 3) (tg := 17) (np := 8) (by decide +kernel) (by decide) (by first | decide | omega) l6 (fun q357 => ?_) (fun q358 => ?_)
  · have q357 : (h 1 1) ≤ (2 + (h 1 2)) := q357
    exfalso; omega
  have q358 : ¬ ((h 1 1) ≤ (2 + (h 1 2))) := q358
  refine x_aload (np := 9) (x := 0) (by decide +kernel) rfl (x_nc_le (by decide)) ?_
  have q359 : h 1 0 = 2 := by have z := jB (e := 0) 0 hJ rg_1_0_0_1 (by decide) (by decide); omega
  refine x_getR (np := 12) (x := 448) (f := 0) (q := 2) (by decide +kernel) (by decide) (by decide +kernel) q359 ?_
  refine x_iload (np := 13) (x := 1) (by decide +kernel) rfl (by first | decide | omega) ?_
  refine x_aldC (np := 14) (x := 0) (n := 400) (i := (2 + u19)) (q := (h 2 (2 + u19))) (by decide +kernel) (by decide +kernel) (by first | decide | omega) (by first | decide | omega) (by decide) rfl (fun l360 => ?_)
  refine x_goto (np := 17) (x := 18) (by decide +kernel) ?_
  refine x_retI (np := 19) (x := 0) (by decide +kernel) l245 (Or.inl (by decide +kernel)) ⟨_, rfl, l245, ?_⟩
  refine x_iadd (np := 44) (x := 0) (v := (10 * u352 + (h 2 (2 + u19)))) (by decide +kernel) (by first | decide | omega) l245 (by first | decide | omega) (by first | decide | omega) ?_
  refine x_const (np := 46) (x := 9223372245160689712) (a := 2147483696) (by decide +kernel) (by decide) (by decide) ?_
  obtain ⟨v361, q362⟩ : ∃ z, z + 2147483696 = (10 * u352 + (h 2 (2 + u19))) + 2147483648 := ⟨(10 * u352 + (h 2 (2 + u19))) + 2147483648 - 2147483696, by first | decide | omega⟩
  refine x_isub (np := 47) (x := 0) (v := v361) (by decide +kernel) (by first | decide | omega) (by decide) (by first | decide | omega) (by first | decide | omega) ?_
  refine x_istore (np := 48) (x := 3) (lo' := [x_r 1, iv_c 2147483649, iv_c a2, iv_c v361, iv_c 2147483650]) (by decide +kernel) (by first | decide | omega) (Nat.le_of_ble_eq_true rfl) rfl ?_
  refine x_iinc (np := 51) (i := 4) (j := 2147483649) (v := 2147483651) (lo' := [x_r 1, iv_c 2147483649, iv_c a2, iv_c v361, iv_c 2147483651]) (by decide +kernel) (by decide) (by decide) rfl (by decide) (by first | decide | omega) (by first | decide | omega) rfl ?_
  refine x_goto (np := 54) (x := 5) (by decide +kernel) ?_
  refine x_iload (np := 7) (x := 4) (by decide +kernel) rfl (by decide) ?_
  refine x_const (np := 8) (x := 9223372051887161347) (a := 2147483651) (by decide +kernel) (by decide) (by decide) ?_
  refine x_icmp (k := 4) (tg := 54) (np := 11) (by decide +kernel) (by decide) (by decide) (by decide) (fun q363 => ?_) (fun q364 => ?_)
  · have q363 : 2147483651 < 2147483651 := q363
    exfalso; omega
  have q364 : ¬ (2147483651 < 2147483651) := q364
  refine x_aload (np := 12) (x := 0) (by decide +kernel) rfl (x_nc_le (by decide)) ?_
  refine x_aload (np := 13) (x := 0) (by decide +kernel) rfl (x_nc_le (by decide)) ?_
  refine x_getC (np := 16) (x := 450) (f := 2) (q := (h 1 2)) (by decide +kernel) (by decide) (by decide +kernel) rfl (fun l365 => ?_)
  refine x_iload (np := 18) (x := 4) (by decide +kernel) rfl (by decide) ?_
  refine x_iadd (np := 19) (x := 0) (v := (3 + (h 1 2))) (by decide +kernel) l4 (by decide) (by first | decide | omega) (by first | decide | omega) ?_
  refine x_nI (t := 6) (mj := 81) (n := 2) (rc := 8) (ml := 2) (nr := 0) (np := 22) (as := [x_r 1, iv_c (3 + (h 1 2))]) (rest := []) (lo1 := [x_r 1, iv_c (3 + (h 1 2))]) (by decide +kernel) (by decide) (by decide +kernel) (x_rb_of (by decide +kernel)) rfl rfl (x_wr (by decide) (x_wi (by first | decide | omega) x_wn)) x_wn (by decide) rfl ?_
  refine x_iload (np := 1) (x := 1) (by decide +kernel) rfl (by first | decide | omega) ?_
  refine x_aload (np := 2) (x := 0) (by decide +kernel) rfl (x_nc_le (by decide)) ?_
  refine x_getC (np := 5) (x := 449) (f := 1) (q := (h 1 1)) (by decide +kernel) (by decide) (by decide +kernel) rfl (fun l366 => ?_)
  refine x_icmp (k := 3) (tg := 17) (np := 8) (by decide +kernel) (by decide) (by first | decide | omega) l6 (fun q367 => ?_) (fun q368 => ?_)
  · have q367 : (h 1 1) ≤ (3 + (h 1 2)) := q367
    refine x_const (np := 18) (x := 9223372034707292159) (a := 2147483647) (by decide +kernel) (by decide) (by decide) ?_
    refine x_retI (np := 19) (x := 0) (by decide +kernel) (by decide) (Or.inl (by decide +kernel)) ⟨_, rfl, (by decide), ?_⟩
    refine x_nI (t := 0) (mj := 82) (n := 1) (rc := 0) (ml := 1) (nr := 0) (np := 25) (as := [iv_c 2147483647]) (rest := []) (lo1 := [iv_c 2147483647]) (by decide +kernel) (by decide) (by decide +kernel) (Or.inl rfl) rfl rfl (x_wi (by decide) x_wn) x_wn (by decide) rfl ?_
    refine x_iload (np := 1) (x := 0) (by decide +kernel) rfl (by decide) ?_
    refine x_const (np := 3) (x := 9223372245160689712) (a := 2147483696) (by decide +kernel) (by decide) (by decide) ?_
    refine x_icmp (k := 2) (tg := 16) (np := 6) (by decide +kernel) (by decide) (by decide) (by decide) (fun q369 => ?_) (fun q370 => ?_)
    · have q369 : 2147483647 < 2147483696 := q369
      refine x_const (np := 17) (x := 9223372039002259456) (a := 2147483648) (by decide +kernel) (by decide) (by decide) ?_
      refine x_retI (np := 18) (x := 0) (by decide +kernel) (by decide) (Or.inr ⟨by decide +kernel, by first | decide | omega, by first | decide | omega⟩) ⟨_, rfl, (by decide), ?_⟩
      refine x_ifz (k := 0) (tg := 54) (np := 28) (by decide +kernel) (by decide) (by decide) (fun q371 => ?_) (fun q372 => ?_)
      · have q371 : 2147483648 = 2147483648 := q371
        refine x_iload (np := 56) (x := 4) (by decide +kernel) rfl (by decide) ?_
        refine x_ifz (k := 0) (tg := 75) (np := 59) (by decide +kernel) (by decide) (by decide) (fun q373 => ?_) (fun q374 => ?_)
        · have q373 : 2147483651 = 2147483648 := q373
          exfalso; omega
        have q374 : ¬ (2147483651 = 2147483648) := q374
        refine x_iload (np := 61) (x := 4) (by decide +kernel) rfl (by decide) ?_
        refine x_const (np := 62) (x := 9223372051887161347) (a := 2147483651) (by decide +kernel) (by decide) (by decide) ?_
        refine x_icmp (k := 4) (tg := 75) (np := 65) (by decide +kernel) (by decide) (by decide) (by decide) (fun q375 => ?_) (fun q376 => ?_)
        · have q375 : 2147483651 < 2147483651 := q375
          exfalso; omega
        have q376 : ¬ (2147483651 < 2147483651) := q376
        refine x_iload (np := 66) (x := 3) (by decide +kernel) rfl (by first | decide | omega) ?_
        refine x_iload (np := 67) (x := 1) (by decide +kernel) rfl (by decide) ?_
        refine x_icmp (k := 2) (tg := 75) (np := 70) (by decide +kernel) (by decide) (by first | decide | omega) (by decide) (fun q377 => ?_) (fun q378 => ?_)
        · have q377 : v361 < 2147483649 := q377
          refine x_const (np := 76) (x := 9223372034707292159) (a := 2147483647) (by decide +kernel) (by decide) (by decide) ?_
          have z379 := hT.1
          have z380 := Tp.at (p := (h 1 2 + 0)) (u := u19) hT (by first | decide | omega) (by first | decide | omega)
          have g381 : Dg tB tN (h 1 2 + 0) := ⟨by first | decide | omega, by first | decide | omega, by first | decide | omega⟩
          have z382 := Tp.at (p := (h 1 2 + 1)) (u := (1 + u19)) hT (by first | decide | omega) (by first | decide | omega)
          have g383 : Dg tB tN (h 1 2 + 1) := ⟨by first | decide | omega, by first | decide | omega, by first | decide | omega⟩
          have z384 := Tp.at (p := (h 1 2 + 2)) (u := (2 + u19)) hT (by first | decide | omega) (by first | decide | omega)
          have g385 : Dg tB tN (h 1 2 + 2) := ⟨by first | decide | omega, by first | decide | omega, by first | decide | omega⟩
          have z386 := hT.1
          have g387 : ¬ Dg tB tN (h 1 2 + 3) := fun z => by have z1 := z.1; have z2 := z.2.1; have z3 := z.2.2; omega
          have z388 := nv3 (B := tB) (p := h 1 2)
          refine x_retI (np := 77) (x := 0) (by decide +kernel) (by decide) (Or.inl (by decide +kernel)) ⟨_, rfl, (by decide), ?_⟩
          exact ⟨hJ, hF, (by first | decide | omega), (by first | decide | omega), (fun z => by first | decide | omega), (fun z => by first | decide | omega), (Nr.nor (by first | decide | omega) (Nu.mk3 g381 g383 g385 g387) (by first | decide | omega))⟩
        have q378 : ¬ (v361 < 2147483649) := q378
        refine x_iload (np := 71) (x := 3) (by decide +kernel) rfl (by first | decide | omega) ?_
        refine x_iload (np := 72) (x := 2) (by decide +kernel) rfl la2 ?_
        refine x_icmp (k := 5) (tg := 77) (np := 75) (by decide +kernel) (by decide) (by first | decide | omega) la2 (fun q389 => ?_) (fun q390 => ?_)
        · have q389 : v361 ≤ a2 := q389
          refine x_aload (np := 78) (x := 0) (by decide +kernel) rfl (x_nc_le (by decide)) ?_
          refine x_aload (np := 79) (x := 0) (by decide +kernel) rfl (x_nc_le (by decide)) ?_
          refine x_getC (np := 82) (x := 450) (f := 2) (q := (h 1 2)) (by decide +kernel) (by decide) (by decide +kernel) rfl (fun l391 => ?_)
          refine x_iload (np := 84) (x := 4) (by decide +kernel) rfl (by decide) ?_
          refine x_iadd (np := 85) (x := 0) (v := (3 + (h 1 2))) (by decide +kernel) l4 (by decide) (by first | decide | omega) (by first | decide | omega) ?_
          refine x_cV (t := 6) (mj := 80) (n := 2) (rc := 8) (ml := 2) (nr := 0) (np := 88) (as := [x_r 1, iv_c (3 + (h 1 2))]) (rest := []) (lo1 := [x_r 1, iv_c (3 + (h 1 2))]) (by decide +kernel) (by decide) (by decide +kernel) (x_rb_of (by decide +kernel)) rfl rfl (x_wr (by decide) (x_wi (by first | decide | omega) x_wn)) x_wn (by decide) rfl (c80_1 hJ  (by first | decide | omega) hT) (fun h395 q394 => ?_)
          obtain ⟨j396, f397, c400, c401⟩ := q394
          have f402 := Fr.trans hF f397 (by decide)
          have b403 := jB (e := 2) 0 j396 rg_1_2_0_1 (by first | decide | omega) (by first | decide | omega)
          refine x_iload (np := 89) (x := 3) (by decide +kernel) rfl (by first | decide | omega) ?_
          have z404 := hT.1
          have z405 := Tp.at (p := (h 1 2 + 0)) (u := u19) hT (by first | decide | omega) (by first | decide | omega)
          have g406 : Dg tB tN (h 1 2 + 0) := ⟨by first | decide | omega, by first | decide | omega, by first | decide | omega⟩
          have z407 := Tp.at (p := (h 1 2 + 1)) (u := (1 + u19)) hT (by first | decide | omega) (by first | decide | omega)
          have g408 : Dg tB tN (h 1 2 + 1) := ⟨by first | decide | omega, by first | decide | omega, by first | decide | omega⟩
          have z409 := Tp.at (p := (h 1 2 + 2)) (u := (2 + u19)) hT (by first | decide | omega) (by first | decide | omega)
          have g410 : Dg tB tN (h 1 2 + 2) := ⟨by first | decide | omega, by first | decide | omega, by first | decide | omega⟩
          have z411 := hT.1
          have g412 : ¬ Dg tB tN (h 1 2 + 3) := fun z => by have z1 := z.1; have z2 := z.2.1; have z3 := z.2.2; omega
          have z413 := nv3 (B := tB) (p := h 1 2)
          refine x_retI (np := 90) (x := 0) (by decide +kernel) (by first | decide | omega) (Or.inl (by decide +kernel)) ⟨_, rfl, (by first | decide | omega), ?_⟩
          exact ⟨j396, f402, (by first | decide | omega), (by first | decide | omega), (fun z => by first | decide | omega), (fun z => by first | decide | omega), (Nr.yes (Nu.mk3 g406 g408 g410 g412) (by first | decide | omega) (by first | decide | omega) (by first | decide | omega) c401 (by first | decide | omega))⟩
        have q390 : ¬ (v361 ≤ a2) := q390
        refine x_const (np := 76) (x := 9223372034707292159) (a := 2147483647) (by decide +kernel) (by decide) (by decide) ?_
        have z414 := hT.1
        have z415 := Tp.at (p := (h 1 2 + 0)) (u := u19) hT (by first | decide | omega) (by first | decide | omega)
        have g416 : Dg tB tN (h 1 2 + 0) := ⟨by first | decide | omega, by first | decide | omega, by first | decide | omega⟩
        have z417 := Tp.at (p := (h 1 2 + 1)) (u := (1 + u19)) hT (by first | decide | omega) (by first | decide | omega)
        have g418 : Dg tB tN (h 1 2 + 1) := ⟨by first | decide | omega, by first | decide | omega, by first | decide | omega⟩
        have z419 := Tp.at (p := (h 1 2 + 2)) (u := (2 + u19)) hT (by first | decide | omega) (by first | decide | omega)
        have g420 : Dg tB tN (h 1 2 + 2) := ⟨by first | decide | omega, by first | decide | omega, by first | decide | omega⟩
        have z421 := hT.1
        have g422 : ¬ Dg tB tN (h 1 2 + 3) := fun z => by have z1 := z.1; have z2 := z.2.1; have z3 := z.2.2; omega
        have z423 := nv3 (B := tB) (p := h 1 2)
        refine x_retI (np := 77) (x := 0) (by decide +kernel) (by decide) (Or.inl (by decide +kernel)) ⟨_, rfl, (by decide), ?_⟩
        exact ⟨hJ, hF, (by first | decide | omega), (by first | decide | omega), (fun z => by first | decide | omega), (fun z => by first | decide | omega), (Nr.nor (by first | decide | omega) (Nu.mk3 g416 g418 g420 g422) (by first | decide | omega))⟩
      have q372 : ¬ (2147483648 = 2147483648) := q372
      exfalso; omega
    have q370 : ¬ (2147483647 < 2147483696) := q370
    exfalso; omega
  have q368 : ¬ ((h 1 1) ≤ (3 + (h 1 2))) := q368
  refine x_aload (np := 9) (x := 0) (by decide +kernel) rfl (x_nc_le (by decide)) ?_
  have q424 : h 1 0 = 2 := by have z := jB (e := 0) 0 hJ rg_1_0_0_1 (by decide) (by decide); omega
  refine x_getR (np := 12) (x := 448) (f := 0) (q := 2) (by decide +kernel) (by decide) (by decide +kernel) q424 ?_
  refine x_iload (np := 13) (x := 1) (by decide +kernel) rfl (by first | decide | omega) ?_
  refine x_aldC (np := 14) (x := 0) (n := 400) (i := (3 + u19)) (q := (h 2 (3 + u19))) (by decide +kernel) (by decide +kernel) (by first | decide | omega) (by first | decide | omega) (by decide) rfl (fun l425 => ?_)
  refine x_goto (np := 17) (x := 18) (by decide +kernel) ?_
  refine x_retI (np := 19) (x := 0) (by decide +kernel) l425 (Or.inl (by decide +kernel)) ⟨_, rfl, l425, ?_⟩
  refine x_nI (t := 0) (mj := 82) (n := 1) (rc := 0) (ml := 1) (nr := 0) (np := 25) (as := [iv_c (h 2 (3 + u19))]) (rest := []) (lo1 := [iv_c (h 2 (3 + u19))]) (by decide +kernel) (by decide) (by decide +kernel) (Or.inl rfl) rfl rfl (x_wi l425 x_wn) x_wn (by decide) rfl ?_
  refine x_iload (np := 1) (x := 0) (by decide +kernel) rfl l425 ?_
  refine x_const (np := 3) (x := 9223372245160689712) (a := 2147483696) (by decide +kernel) (by decide) (by decide) ?_
  refine x_icmp (k := 2) (tg := 16) (np := 6) (by decide +kernel) (by decide) l425 (by decide) (fun q426 => ?_) (fun q427 => ?_)
  · have q426 : (h 2 (3 + u19)) < 2147483696 := q426
    refine x_const (np := 17) (x := 9223372039002259456) (a := 2147483648) (by decide +kernel) (by decide) (by decide) ?_
    refine x_retI (np := 18) (x := 0) (by decide +kernel) (by decide) (Or.inr ⟨by decide +kernel, by first | decide | omega, by first | decide | omega⟩) ⟨_, rfl, (by decide), ?_⟩
    refine x_ifz (k := 0) (tg := 54) (np := 28) (by decide +kernel) (by decide) (by decide) (fun q428 => ?_) (fun q429 => ?_)
    · have q428 : 2147483648 = 2147483648 := q428
      refine x_iload (np := 56) (x := 4) (by decide +kernel) rfl (by decide) ?_
      refine x_ifz (k := 0) (tg := 75) (np := 59) (by decide +kernel) (by decide) (by decide) (fun q430 => ?_) (fun q431 => ?_)
      · have q430 : 2147483651 = 2147483648 := q430
        exfalso; omega
      have q431 : ¬ (2147483651 = 2147483648) := q431
      refine x_iload (np := 61) (x := 4) (by decide +kernel) rfl (by decide) ?_
      refine x_const (np := 62) (x := 9223372051887161347) (a := 2147483651) (by decide +kernel) (by decide) (by decide) ?_
      refine x_icmp (k := 4) (tg := 75) (np := 65) (by decide +kernel) (by decide) (by decide) (by decide) (fun q432 => ?_) (fun q433 => ?_)
      · have q432 : 2147483651 < 2147483651 := q432
        exfalso; omega
      have q433 : ¬ (2147483651 < 2147483651) := q433
      refine x_iload (np := 66) (x := 3) (by decide +kernel) rfl (by first | decide | omega) ?_
      refine x_iload (np := 67) (x := 1) (by decide +kernel) rfl (by decide) ?_
      refine x_icmp (k := 2) (tg := 75) (np := 70) (by decide +kernel) (by decide) (by first | decide | omega) (by decide) (fun q434 => ?_) (fun q435 => ?_)
      · have q434 : v361 < 2147483649 := q434
        refine x_const (np := 76) (x := 9223372034707292159) (a := 2147483647) (by decide +kernel) (by decide) (by decide) ?_
        have z436 := hT.1
        have z437 := Tp.at (p := (h 1 2 + 0)) (u := u19) hT (by first | decide | omega) (by first | decide | omega)
        have g438 : Dg tB tN (h 1 2 + 0) := ⟨by first | decide | omega, by first | decide | omega, by first | decide | omega⟩
        have z439 := Tp.at (p := (h 1 2 + 1)) (u := (1 + u19)) hT (by first | decide | omega) (by first | decide | omega)
        have g440 : Dg tB tN (h 1 2 + 1) := ⟨by first | decide | omega, by first | decide | omega, by first | decide | omega⟩
        have z441 := Tp.at (p := (h 1 2 + 2)) (u := (2 + u19)) hT (by first | decide | omega) (by first | decide | omega)
        have g442 : Dg tB tN (h 1 2 + 2) := ⟨by first | decide | omega, by first | decide | omega, by first | decide | omega⟩
        have z443 := hT.1
        have z444 := Tp.at (p := (h 1 2 + 3)) (u := (3 + u19)) hT (by first | decide | omega) (by first | decide | omega)
        have g445 : ¬ Dg tB tN (h 1 2 + 3) := fun z => by have z1 := z.1; have z2 := z.2.1; have z3 := z.2.2; omega
        have z446 := nv3 (B := tB) (p := h 1 2)
        refine x_retI (np := 77) (x := 0) (by decide +kernel) (by decide) (Or.inl (by decide +kernel)) ⟨_, rfl, (by decide), ?_⟩
        exact ⟨hJ, hF, (by first | decide | omega), (by first | decide | omega), (fun z => by first | decide | omega), (fun z => by first | decide | omega), (Nr.nor (by first | decide | omega) (Nu.mk3 g438 g440 g442 g445) (by first | decide | omega))⟩
      have q435 : ¬ (v361 < 2147483649) := q435
      refine x_iload (np := 71) (x := 3) (by decide +kernel) rfl (by first | decide | omega) ?_
      refine x_iload (np := 72) (x := 2) (by decide +kernel) rfl la2 ?_
      refine x_icmp (k := 5) (tg := 77) (np := 75) (by decide +kernel) (by decide) (by first | decide | omega) la2 (fun q447 => ?_) (fun q448 => ?_)
      · have q447 : v361 ≤ a2 := q447
        refine x_aload (np := 78) (x := 0) (by decide +kernel) rfl (x_nc_le (by decide)) ?_
        refine x_aload (np := 79) (x := 0) (by decide +kernel) rfl (x_nc_le (by decide)) ?_
        refine x_getC (np := 82) (x := 450) (f := 2) (q := (h 1 2)) (by decide +kernel) (by decide) (by decide +kernel) rfl (fun l449 => ?_)
        refine x_iload (np := 84) (x := 4) (by decide +kernel) rfl (by decide) ?_
        refine x_iadd (np := 85) (x := 0) (v := (3 + (h 1 2))) (by decide +kernel) l4 (by decide) (by first | decide | omega) (by first | decide | omega) ?_
        refine x_cV (t := 6) (mj := 80) (n := 2) (rc := 8) (ml := 2) (nr := 0) (np := 88) (as := [x_r 1, iv_c (3 + (h 1 2))]) (rest := []) (lo1 := [x_r 1, iv_c (3 + (h 1 2))]) (by decide +kernel) (by decide) (by decide +kernel) (x_rb_of (by decide +kernel)) rfl rfl (x_wr (by decide) (x_wi (by first | decide | omega) x_wn)) x_wn (by decide) rfl (c80_1 hJ  (by first | decide | omega) hT) (fun h453 q452 => ?_)
        obtain ⟨j454, f455, c458, c459⟩ := q452
        have f460 := Fr.trans hF f455 (by decide)
        have b461 := jB (e := 2) 0 j454 rg_1_2_0_1 (by first | decide | omega) (by first | decide | omega)
        refine x_iload (np := 89) (x := 3) (by decide +kernel) rfl (by first | decide | omega) ?_
        have z462 := hT.1
        have z463 := Tp.at (p := (h 1 2 + 0)) (u := u19) hT (by first | decide | omega) (by first | decide | omega)
        have g464 : Dg tB tN (h 1 2 + 0) := ⟨by first | decide | omega, by first | decide | omega, by first | decide | omega⟩
        have z465 := Tp.at (p := (h 1 2 + 1)) (u := (1 + u19)) hT (by first | decide | omega) (by first | decide | omega)
        have g466 : Dg tB tN (h 1 2 + 1) := ⟨by first | decide | omega, by first | decide | omega, by first | decide | omega⟩
        have z467 := Tp.at (p := (h 1 2 + 2)) (u := (2 + u19)) hT (by first | decide | omega) (by first | decide | omega)
        have g468 : Dg tB tN (h 1 2 + 2) := ⟨by first | decide | omega, by first | decide | omega, by first | decide | omega⟩
        have z469 := hT.1
        have z470 := Tp.at (p := (h 1 2 + 3)) (u := (3 + u19)) hT (by first | decide | omega) (by first | decide | omega)
        have g471 : ¬ Dg tB tN (h 1 2 + 3) := fun z => by have z1 := z.1; have z2 := z.2.1; have z3 := z.2.2; omega
        have z472 := nv3 (B := tB) (p := h 1 2)
        refine x_retI (np := 90) (x := 0) (by decide +kernel) (by first | decide | omega) (Or.inl (by decide +kernel)) ⟨_, rfl, (by first | decide | omega), ?_⟩
        exact ⟨j454, f460, (by first | decide | omega), (by first | decide | omega), (fun z => by first | decide | omega), (fun z => by first | decide | omega), (Nr.yes (Nu.mk3 g464 g466 g468 g471) (by first | decide | omega) (by first | decide | omega) (by first | decide | omega) c459 (by first | decide | omega))⟩
      have q448 : ¬ (v361 ≤ a2) := q448
      refine x_const (np := 76) (x := 9223372034707292159) (a := 2147483647) (by decide +kernel) (by decide) (by decide) ?_
      have z473 := hT.1
      have z474 := Tp.at (p := (h 1 2 + 0)) (u := u19) hT (by first | decide | omega) (by first | decide | omega)
      have g475 : Dg tB tN (h 1 2 + 0) := ⟨by first | decide | omega, by first | decide | omega, by first | decide | omega⟩
      have z476 := Tp.at (p := (h 1 2 + 1)) (u := (1 + u19)) hT (by first | decide | omega) (by first | decide | omega)
      have g477 : Dg tB tN (h 1 2 + 1) := ⟨by first | decide | omega, by first | decide | omega, by first | decide | omega⟩
      have z478 := Tp.at (p := (h 1 2 + 2)) (u := (2 + u19)) hT (by first | decide | omega) (by first | decide | omega)
      have g479 : Dg tB tN (h 1 2 + 2) := ⟨by first | decide | omega, by first | decide | omega, by first | decide | omega⟩
      have z480 := hT.1
      have z481 := Tp.at (p := (h 1 2 + 3)) (u := (3 + u19)) hT (by first | decide | omega) (by first | decide | omega)
      have g482 : ¬ Dg tB tN (h 1 2 + 3) := fun z => by have z1 := z.1; have z2 := z.2.1; have z3 := z.2.2; omega
      have z483 := nv3 (B := tB) (p := h 1 2)
      refine x_retI (np := 77) (x := 0) (by decide +kernel) (by decide) (Or.inl (by decide +kernel)) ⟨_, rfl, (by decide), ?_⟩
      exact ⟨hJ, hF, (by first | decide | omega), (by first | decide | omega), (fun z => by first | decide | omega), (fun z => by first | decide | omega), (Nr.nor (by first | decide | omega) (Nu.mk3 g475 g477 g479 g482) (by first | decide | omega))⟩
    have q429 : ¬ (2147483648 = 2147483648) := q429
    exfalso; omega
  have q427 : ¬ ((h 2 (3 + u19)) < 2147483696) := q427
  refine x_iload (np := 7) (x := 0) (by decide +kernel) rfl l425 ?_
  refine x_const (np := 9) (x := 9223372283815395385) (a := 2147483705) (by decide +kernel) (by decide) (by decide) ?_
  refine x_icmp (k := 4) (tg := 16) (np := 12) (by decide +kernel) (by decide) l425 (by decide) (fun q484 => ?_) (fun q485 => ?_)
  · have q484 : 2147483705 < (h 2 (3 + u19)) := q484
    refine x_const (np := 17) (x := 9223372039002259456) (a := 2147483648) (by decide +kernel) (by decide) (by decide) ?_
    refine x_retI (np := 18) (x := 0) (by decide +kernel) (by decide) (Or.inr ⟨by decide +kernel, by first | decide | omega, by first | decide | omega⟩) ⟨_, rfl, (by decide), ?_⟩
    refine x_ifz (k := 0) (tg := 54) (np := 28) (by decide +kernel) (by decide) (by decide) (fun q486 => ?_) (fun q487 => ?_)
    · have q486 : 2147483648 = 2147483648 := q486
      refine x_iload (np := 56) (x := 4) (by decide +kernel) rfl (by decide) ?_
      refine x_ifz (k := 0) (tg := 75) (np := 59) (by decide +kernel) (by decide) (by decide) (fun q488 => ?_) (fun q489 => ?_)
      · have q488 : 2147483651 = 2147483648 := q488
        exfalso; omega
      have q489 : ¬ (2147483651 = 2147483648) := q489
      refine x_iload (np := 61) (x := 4) (by decide +kernel) rfl (by decide) ?_
      refine x_const (np := 62) (x := 9223372051887161347) (a := 2147483651) (by decide +kernel) (by decide) (by decide) ?_
      refine x_icmp (k := 4) (tg := 75) (np := 65) (by decide +kernel) (by decide) (by decide) (by decide) (fun q490 => ?_) (fun q491 => ?_)
      · have q490 : 2147483651 < 2147483651 := q490
        exfalso; omega
      have q491 : ¬ (2147483651 < 2147483651) := q491
      refine x_iload (np := 66) (x := 3) (by decide +kernel) rfl (by first | decide | omega) ?_
      refine x_iload (np := 67) (x := 1) (by decide +kernel) rfl (by decide) ?_
      refine x_icmp (k := 2) (tg := 75) (np := 70) (by decide +kernel) (by decide) (by first | decide | omega) (by decide) (fun q492 => ?_) (fun q493 => ?_)
      · have q492 : v361 < 2147483649 := q492
        refine x_const (np := 76) (x := 9223372034707292159) (a := 2147483647) (by decide +kernel) (by decide) (by decide) ?_
        have z494 := hT.1
        have z495 := Tp.at (p := (h 1 2 + 0)) (u := u19) hT (by first | decide | omega) (by first | decide | omega)
        have g496 : Dg tB tN (h 1 2 + 0) := ⟨by first | decide | omega, by first | decide | omega, by first | decide | omega⟩
        have z497 := Tp.at (p := (h 1 2 + 1)) (u := (1 + u19)) hT (by first | decide | omega) (by first | decide | omega)
        have g498 : Dg tB tN (h 1 2 + 1) := ⟨by first | decide | omega, by first | decide | omega, by first | decide | omega⟩
        have z499 := Tp.at (p := (h 1 2 + 2)) (u := (2 + u19)) hT (by first | decide | omega) (by first | decide | omega)
        have g500 : Dg tB tN (h 1 2 + 2) := ⟨by first | decide | omega, by first | decide | omega, by first | decide | omega⟩
        have z501 := hT.1
        have z502 := Tp.at (p := (h 1 2 + 3)) (u := (3 + u19)) hT (by first | decide | omega) (by first | decide | omega)
        have g503 : ¬ Dg tB tN (h 1 2 + 3) := fun z => by have z1 := z.1; have z2 := z.2.1; have z3 := z.2.2; omega
        have z504 := nv3 (B := tB) (p := h 1 2)
        refine x_retI (np := 77) (x := 0) (by decide +kernel) (by decide) (Or.inl (by decide +kernel)) ⟨_, rfl, (by decide), ?_⟩
        exact ⟨hJ, hF, (by first | decide | omega), (by first | decide | omega), (fun z => by first | decide | omega), (fun z => by first | decide | omega), (Nr.nor (by first | decide | omega) (Nu.mk3 g496 g498 g500 g503) (by first | decide | omega))⟩
      have q493 : ¬ (v361 < 2147483649) := q493
      refine x_iload (np := 71) (x := 3) (by decide +kernel) rfl (by first | decide | omega) ?_
      refine x_iload (np := 72) (x := 2) (by decide +kernel) rfl la2 ?_
      refine x_icmp (k := 5) (tg := 77) (np := 75) (by decide +kernel) (by decide) (by first | decide | omega) la2 (fun q505 => ?_) (fun q506 => ?_)
      · have q505 : v361 ≤ a2 := q505
        refine x_aload (np := 78) (x := 0) (by decide +kernel) rfl (x_nc_le (by decide)) ?_
        refine x_aload (np := 79) (x := 0) (by decide +kernel) rfl (x_nc_le (by decide)) ?_
        refine x_getC (np := 82) (x := 450) (f := 2) (q := (h 1 2)) (by decide +kernel) (by decide) (by decide +kernel) rfl (fun l507 => ?_)
        refine x_iload (np := 84) (x := 4) (by decide +kernel) rfl (by decide) ?_
        refine x_iadd (np := 85) (x := 0) (v := (3 + (h 1 2))) (by decide +kernel) l4 (by decide) (by first | decide | omega) (by first | decide | omega) ?_
        refine x_cV (t := 6) (mj := 80) (n := 2) (rc := 8) (ml := 2) (nr := 0) (np := 88) (as := [x_r 1, iv_c (3 + (h 1 2))]) (rest := []) (lo1 := [x_r 1, iv_c (3 + (h 1 2))]) (by decide +kernel) (by decide) (by decide +kernel) (x_rb_of (by decide +kernel)) rfl rfl (x_wr (by decide) (x_wi (by first | decide | omega) x_wn)) x_wn (by decide) rfl (c80_1 hJ  (by first | decide | omega) hT) (fun h511 q510 => ?_)
        obtain ⟨j512, f513, c516, c517⟩ := q510
        have f518 := Fr.trans hF f513 (by decide)
        have b519 := jB (e := 2) 0 j512 rg_1_2_0_1 (by first | decide | omega) (by first | decide | omega)
        refine x_iload (np := 89) (x := 3) (by decide +kernel) rfl (by first | decide | omega) ?_
        have z520 := hT.1
        have z521 := Tp.at (p := (h 1 2 + 0)) (u := u19) hT (by first | decide | omega) (by first | decide | omega)
        have g522 : Dg tB tN (h 1 2 + 0) := ⟨by first | decide | omega, by first | decide | omega, by first | decide | omega⟩
        have z523 := Tp.at (p := (h 1 2 + 1)) (u := (1 + u19)) hT (by first | decide | omega) (by first | decide | omega)
        have g524 : Dg tB tN (h 1 2 + 1) := ⟨by first | decide | omega, by first | decide | omega, by first | decide | omega⟩
        have z525 := Tp.at (p := (h 1 2 + 2)) (u := (2 + u19)) hT (by first | decide | omega) (by first | decide | omega)
        have g526 : Dg tB tN (h 1 2 + 2) := ⟨by first | decide | omega, by first | decide | omega, by first | decide | omega⟩
        have z527 := hT.1
        have z528 := Tp.at (p := (h 1 2 + 3)) (u := (3 + u19)) hT (by first | decide | omega) (by first | decide | omega)
        have g529 : ¬ Dg tB tN (h 1 2 + 3) := fun z => by have z1 := z.1; have z2 := z.2.1; have z3 := z.2.2; omega
        have z530 := nv3 (B := tB) (p := h 1 2)
        refine x_retI (np := 90) (x := 0) (by decide +kernel) (by first | decide | omega) (Or.inl (by decide +kernel)) ⟨_, rfl, (by first | decide | omega), ?_⟩
        exact ⟨j512, f518, (by first | decide | omega), (by first | decide | omega), (fun z => by first | decide | omega), (fun z => by first | decide | omega), (Nr.yes (Nu.mk3 g522 g524 g526 g529) (by first | decide | omega) (by first | decide | omega) (by first | decide | omega) c517 (by first | decide | omega))⟩
      have q506 : ¬ (v361 ≤ a2) := q506
      refine x_const (np := 76) (x := 9223372034707292159) (a := 2147483647) (by decide +kernel) (by decide) (by decide) ?_
      have z531 := hT.1
      have z532 := Tp.at (p := (h 1 2 + 0)) (u := u19) hT (by first | decide | omega) (by first | decide | omega)
      have g533 : Dg tB tN (h 1 2 + 0) := ⟨by first | decide | omega, by first | decide | omega, by first | decide | omega⟩
      have z534 := Tp.at (p := (h 1 2 + 1)) (u := (1 + u19)) hT (by first | decide | omega) (by first | decide | omega)
      have g535 : Dg tB tN (h 1 2 + 1) := ⟨by first | decide | omega, by first | decide | omega, by first | decide | omega⟩
      have z536 := Tp.at (p := (h 1 2 + 2)) (u := (2 + u19)) hT (by first | decide | omega) (by first | decide | omega)
      have g537 : Dg tB tN (h 1 2 + 2) := ⟨by first | decide | omega, by first | decide | omega, by first | decide | omega⟩
      have z538 := hT.1
      have z539 := Tp.at (p := (h 1 2 + 3)) (u := (3 + u19)) hT (by first | decide | omega) (by first | decide | omega)
      have g540 : ¬ Dg tB tN (h 1 2 + 3) := fun z => by have z1 := z.1; have z2 := z.2.1; have z3 := z.2.2; omega
      have z541 := nv3 (B := tB) (p := h 1 2)
      refine x_retI (np := 77) (x := 0) (by decide +kernel) (by decide) (Or.inl (by decide +kernel)) ⟨_, rfl, (by decide), ?_⟩
      exact ⟨hJ, hF, (by first | decide | omega), (by first | decide | omega), (fun z => by first | decide | omega), (fun z => by first | decide | omega), (Nr.nor (by first | decide | omega) (Nu.mk3 g533 g535 g537 g540) (by first | decide | omega))⟩
    have q487 : ¬ (2147483648 = 2147483648) := q487
    exfalso; omega
  have q485 : ¬ (2147483705 < (h 2 (3 + u19))) := q485
  refine x_const (np := 13) (x := 9223372043297226753) (a := 2147483649) (by decide +kernel) (by decide) (by decide) ?_
  refine x_goto (np := 16) (x := 17) (by decide +kernel) ?_
  refine x_retI (np := 18) (x := 0) (by decide +kernel) (by decide) (Or.inr ⟨by decide +kernel, by first | decide | omega, by first | decide | omega⟩) ⟨_, rfl, (by decide), ?_⟩
  refine x_ifz (k := 0) (tg := 54) (np := 28) (by decide +kernel) (by decide) (by decide) (fun q542 => ?_) (fun q543 => ?_)
  · have q542 : 2147483649 = 2147483648 := q542
    exfalso; omega
  have q543 : ¬ (2147483649 = 2147483648) := q543
  refine x_iload (np := 29) (x := 3) (by decide +kernel) rfl (by first | decide | omega) ?_
  refine x_const (np := 31) (x := 9223372081951932426) (a := 2147483658) (by decide +kernel) (by decide) (by decide) ?_
  obtain ⟨u544, q545⟩ : ∃ z, v361 = 2147483648 + z := ⟨v361 - 2147483648, by first | decide | omega⟩
  refine x_imul (np := 32) (x := 0) (i := u544) (j := 10) (v := (2147483648 + 10 * u544)) (by decide +kernel) (by first | decide | omega) (by first | decide | omega) (by first | decide | omega) (by first | decide | omega) (by first | decide | omega) (by decide) ?_
  refine x_aload (np := 33) (x := 0) (by decide +kernel) rfl (x_nc_le (by decide)) ?_
  refine x_aload (np := 34) (x := 0) (by decide +kernel) rfl (x_nc_le (by decide)) ?_
  refine x_getC (np := 37) (x := 450) (f := 2) (q := (h 1 2)) (by decide +kernel) (by decide) (by decide +kernel) rfl (fun l547 => ?_)
  refine x_iload (np := 39) (x := 4) (by decide +kernel) rfl (by decide) ?_
  refine x_iadd (np := 40) (x := 0) (v := (3 + (h 1 2))) (by decide +kernel) l4 (by decide) (by first | decide | omega) (by first | decide | omega) ?_
  refine x_nI (t := 6) (mj := 81) (n := 2) (rc := 8) (ml := 2) (nr := 1) (np := 43) (as := [x_r 1, iv_c (3 + (h 1 2))]) (rest := [iv_c (2147483648 + 10 * u544)]) (lo1 := [x_r 1, iv_c (3 + (h 1 2))]) (by decide +kernel) (by decide) (by decide +kernel) (x_rb_of (by decide +kernel)) rfl rfl (x_wr (by decide) (x_wi (by first | decide | omega) x_wn)) (x_wi (by first | decide | omega) x_wn) (by decide) rfl ?_
  refine x_iload (np := 1) (x := 1) (by decide +kernel) rfl (by first | decide | omega) ?_
  refine x_aload (np := 2) (x := 0) (by decide +kernel) rfl (x_nc_le (by decide)) ?_
  refine x_getC (np := 5) (x := 449) (f := 1) (q := (h 1 1)) (by decide +kernel) (by decide) (by decide +kernel) rfl (fun l548 => ?_)
  refine x_icmp (k := 3) (tg := 17) (np := 8) (by decide +kernel) (by decide) (by first | decide | omega) l6 (fun q549 => ?_) (fun q550 => ?_)
  · have q549 : (h 1 1) ≤ (3 + (h 1 2)) := q549
    exfalso; omega
  have q550 : ¬ ((h 1 1) ≤ (3 + (h 1 2))) := q550
  refine x_aload (np := 9) (x := 0) (by decide +kernel) rfl (x_nc_le (by decide)) ?_
  have q551 : h 1 0 = 2 := by have z := jB (e := 0) 0 hJ rg_1_0_0_1 (by decide) (by decide); omega
  refine x_getR (np := 12) (x := 448) (f := 0) (q := 2) (by decide +kernel) (by decide) (by decide +kernel) q551 ?_
  refine x_iload (np := 13) (x := 1) (by decide +kernel) rfl (by first | decide | omega) ?_
  refine x_aldC (np := 14) (x := 0) (n := 400) (i := (3 + u19)) (q := (h 2 (3 + u19))) (by decide +kernel) (by decide +kernel) (by first | decide | omega) (by first | decide | omega) (by decide) rfl (fun l552 => ?_)
  refine x_goto (np := 17) (x := 18) (by decide +kernel) ?_
  refine x_retI (np := 19) (x := 0) (by decide +kernel) l425 (Or.inl (by decide +kernel)) ⟨_, rfl, l425, ?_⟩
  refine x_iadd (np := 44) (x := 0) (v := (10 * u544 + (h 2 (3 + u19)))) (by decide +kernel) (by first | decide | omega) l425 (by first | decide | omega) (by first | decide | omega) ?_
  refine x_const (np := 46) (x := 9223372245160689712) (a := 2147483696) (by decide +kernel) (by decide) (by decide) ?_
  obtain ⟨v553, q554⟩ : ∃ z, z + 2147483696 = (10 * u544 + (h 2 (3 + u19))) + 2147483648 := ⟨(10 * u544 + (h 2 (3 + u19))) + 2147483648 - 2147483696, by first | decide | omega⟩
  refine x_isub (np := 47) (x := 0) (v := v553) (by decide +kernel) (by first | decide | omega) (by decide) (by first | decide | omega) (by first | decide | omega) ?_
  refine x_istore (np := 48) (x := 3) (lo' := [x_r 1, iv_c 2147483649, iv_c a2, iv_c v553, iv_c 2147483651]) (by decide +kernel) (by first | decide | omega) (Nat.le_of_ble_eq_true rfl) rfl ?_
  refine x_iinc (np := 51) (i := 4) (j := 2147483649) (v := 2147483652) (lo' := [x_r 1, iv_c 2147483649, iv_c a2, iv_c v553, iv_c 2147483652]) (by decide +kernel) (by decide) (by decide) rfl (by decide) (by first | decide | omega) (by first | decide | omega) rfl ?_
  refine x_goto (np := 54) (x := 5) (by decide +kernel) ?_
  refine x_iload (np := 7) (x := 4) (by decide +kernel) rfl (by decide) ?_
  refine x_const (np := 8) (x := 9223372051887161347) (a := 2147483651) (by decide +kernel) (by decide) (by decide) ?_
  refine x_icmp (k := 4) (tg := 54) (np := 11) (by decide +kernel) (by decide) (by decide) (by decide) (fun q555 => ?_) (fun q556 => ?_)
  · have q555 : 2147483651 < 2147483652 := q555
    refine x_iload (np := 56) (x := 4) (by decide +kernel) rfl (by decide) ?_
    refine x_ifz (k := 0) (tg := 75) (np := 59) (by decide +kernel) (by decide) (by decide) (fun q557 => ?_) (fun q558 => ?_)
    · have q557 : 2147483652 = 2147483648 := q557
      exfalso; omega
    have q558 : ¬ (2147483652 = 2147483648) := q558
    refine x_iload (np := 61) (x := 4) (by decide +kernel) rfl (by decide) ?_
    refine x_const (np := 62) (x := 9223372051887161347) (a := 2147483651) (by decide +kernel) (by decide) (by decide) ?_
    refine x_icmp (k := 4) (tg := 75) (np := 65) (by decide +kernel) (by decide) (by decide) (by decide) (fun q559 => ?_) (fun q560 => ?_)
    · have q559 : 2147483651 < 2147483652 := q559
      refine x_const (np := 76) (x := 9223372034707292159) (a := 2147483647) (by decide +kernel) (by decide) (by decide) ?_
      have z561 := hT.1
      have z562 := Tp.at (p := (h 1 2 + 0)) (u := u19) hT (by first | decide | omega) (by first | decide | omega)
      have g563 : Dg tB tN (h 1 2 + 0) := ⟨by first | decide | omega, by first | decide | omega, by first | decide | omega⟩
      have z564 := Tp.at (p := (h 1 2 + 1)) (u := (1 + u19)) hT (by first | decide | omega) (by first | decide | omega)
      have g565 : Dg tB tN (h 1 2 + 1) := ⟨by first | decide | omega, by first | decide | omega, by first | decide | omega⟩
      have z566 := Tp.at (p := (h 1 2 + 2)) (u := (2 + u19)) hT (by first | decide | omega) (by first | decide | omega)
      have g567 : Dg tB tN (h 1 2 + 2) := ⟨by first | decide | omega, by first | decide | omega, by first | decide | omega⟩
      have z568 := Tp.at (p := (h 1 2 + 3)) (u := (3 + u19)) hT (by first | decide | omega) (by first | decide | omega)
      have g569 : Dg tB tN (h 1 2 + 3) := ⟨by first | decide | omega, by first | decide | omega, by first | decide | omega⟩
      refine x_retI (np := 77) (x := 0) (by decide +kernel) (by decide) (Or.inl (by decide +kernel)) ⟨_, rfl, (by decide), ?_⟩
      exact ⟨hJ, hF, (by first | decide | omega), (by first | decide | omega), (fun z => by first | decide | omega), (fun z => by first | decide | omega), (Nr.nob (by first | decide | omega) (Nb.mk4 g563 g565 g567 g569))⟩
    have q560 : ¬ (2147483651 < 2147483652) := q560
    exfalso; omega
  have q556 : ¬ (2147483651 < 2147483652) := q556
  exfalso; omega
