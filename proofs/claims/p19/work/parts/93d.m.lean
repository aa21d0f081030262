/-! ===== methods ===== -/
set_option maxHeartbeats 0 in
/-- LentNames$TownReader.reads(LLentNames$Town;)Z -/
theorem c92_61_T0 {sc : Nat × Nat} {d ra1 : Nat} {h : xh} (hJ : J h) (ta1 : tw ra1) : X sc 92 (d + 9) (xI fun r h' => J h' ∧ Fr 16545 h h' ∧ (2147483648 ≤ r ∧ r ≤ 2147483649)) 0 0 0 [x_r 61, x_r ra1, 147573952589676412928] [] h := by
  have hF := Fr.refl 16545 h
  refine x_aload (np := 1) (x := 0) (by decide +kernel) rfl (x_nc_le (by decide)) ?_
  refine x_aload (np := 2) (x := 1) (by decide +kernel) rfl (x_nc_le (tn_0 ta1)) ?_
  refine x_putR (np := 5) (x := 8769) (f := 1) (by decide +kernel) (by decide +kernel) (tn_0 ta1) (by decide) ?_
  have j2 := J_upW (k := 61) (i := 1) hJ ta1 (by decide)
  have f4 := Fr.up (k := 61) (i := 1) (v := ra1) hF (by decide +kernel)
  generalize e3 : x_up h 61 1 ra1 = h1 at j2 f4 ⊢
  refine x_aload (np := 6) (x := 0) (by decide +kernel) rfl (x_nc_le (by decide)) ?_
  have q5 : h1 61 0 = 1 := by have z := jB (e := 0) 0 j2 rg_61_0_0_1 (by decide) (by decide); omega
  refine x_getR (np := 9) (x := 576) (f := 0) (q := 1) (by decide +kernel) (by decide) (by decide +kernel) q5 ?_
  refine x_nV (t := 6) (mj := 73) (n := 1) (rc := 8) (ml := 1) (nr := 0) (np := 12) (as := [x_r 1]) (rest := []) (lo1 := [x_r 1]) (by decide +kernel) (by decide) (by decide +kernel) (x_rb_of (by decide +kernel)) rfl rfl (x_wr (by decide) x_wn) x_wn (by decide) rfl ?_
  refine x_aload (np := 1) (x := 0) (by decide +kernel) rfl (x_nc_le (by decide)) ?_
  refine x_const (np := 2) (x := 9223372039002259456) (a := 2147483648) (by decide +kernel) (by decide) (by decide) ?_
  refine x_cV (t := 6) (mj := 80) (n := 2) (rc := 8) (ml := 2) (nr := 0) (np := 5) (as := [x_r 1, iv_c 2147483648]) (rest := []) (lo1 := [x_r 1, iv_c 2147483648]) (by decide +kernel) (by decide) (by decide +kernel) (x_rb_of (by decide +kernel)) rfl rfl (x_wr (by decide) (x_wi (by decide) x_wn)) x_wn (by decide) rfl (c80_1n j2  (by omega)) (fun h9 q8 => ?_)
  obtain ⟨j10, f11⟩ := q8
  have f14 := Fr.trans f4 f11 (by decide)
  refine x_retV (np := 6) (x := 0) (by decide +kernel) (by decide +kernel) ⟨rfl, ?_⟩
  refine x_aload (np := 13) (x := 0) (by decide +kernel) rfl (x_nc_le (by decide)) ?_
  have q15 : h9 61 0 = 1 := by have z := jB (e := 0) 0 j10 rg_61_0_0_1 (by decide) (by decide); omega
  refine x_getR (np := 16) (x := 576) (f := 0) (q := 1) (by decide +kernel) (by decide) (by decide +kernel) q15 ?_
  refine x_nI (t := 6) (mj := 74) (n := 1) (rc := 8) (ml := 1) (nr := 0) (np := 19) (as := [x_r 1]) (rest := []) (lo1 := [x_r 1]) (by decide +kernel) (by decide) (by decide +kernel) (x_rb_of (by decide +kernel)) rfl rfl (x_wr (by decide) x_wn) x_wn (by decide) rfl ?_
  refine x_aload (np := 1) (x := 0) (by decide +kernel) rfl (x_nc_le (by decide)) ?_
  have b16 := jB (e := 2) 0 j10 rg_1_2_0_1 (by omega) (by omega)
  refine x_getC (np := 4) (x := 450) (f := 2) (q := (h9 1 2)) (by decide +kernel) (by decide) (by decide +kernel) rfl (fun l17 => ?_)
  refine x_aload (np := 5) (x := 0) (by decide +kernel) rfl (x_nc_le (by decide)) ?_
  have q18 : h9 1 1 = h1 1 1 := jK 0 f11 rg_1_1_0_1 (by omega) (by omega) (by decide)
  have q19 : h1 1 1 = h 1 1 := by rw [← e3]; exact x_up_k (by decide)
  have b20 := jB (e := 1) 0 hJ rg_1_1_0_1 (by omega) (by omega)
  refine x_getC (np := 8) (x := 449) (f := 1) (q := (h 1 1)) (by decide +kernel) (by decide) (by decide +kernel) (q18.trans q19) (fun l21 => ?_)
  refine x_icmp (k := 2) (tg := 15) (np := 11) (by decide +kernel) (by decide) l17 l21 (fun q22 => ?_) (fun q23 => ?_)
  · have q22 : (h9 1 2) < (h 1 1) := q22
    refine x_const (np := 16) (x := 9223372039002259456) (a := 2147483648) (by decide +kernel) (by decide) (by decide) ?_
    refine x_retI (np := 17) (x := 0) (by decide +kernel) (by decide) (Or.inr ⟨by decide +kernel, by omega, by omega⟩) ⟨_, rfl, (by decide), ?_⟩
    refine x_ifz (k := 0) (tg := 24) (np := 22) (by decide +kernel) (by decide) (by decide) (fun q24 => ?_) (fun q25 => ?_)
    · have q24 : 2147483648 = 2147483648 := q24
      refine x_const (np := 25) (x := 9223372039002259456) (a := 2147483648) (by decide +kernel) (by decide) (by decide) ?_
      refine x_istore (np := 26) (x := 2) (lo' := [x_r 61, x_r ra1, iv_c 2147483648]) (by decide +kernel) (by decide) (Nat.le_of_ble_eq_true rfl) rfl ?_
      have p1013 : ∀ (n : Nat) (v1008 : Nat) (h1010 : xh), 4294967296 - v1008 < n → (2147483648 ≤ v1008 ∧ v1008 ≤ 2147483662) → J h1010 → Fr 161 h9 h1010 → X sc 92 (d + 9) (xI fun r h' => J h' ∧ Fr 16545 h h' ∧ (2147483648 ≤ r ∧ r ≤ 2147483649)) 0 0 26 [x_r 61, x_r ra1, iv_c v1008] [] h1010 := by
        intro n
        induction n with
        | zero => intro v1008 h1010 q1014; exact absurd q1014 (Nat.not_lt_zero _)
        | succ n i1015 =>
          intro v1008 h1010 q1014 b1009 j1012 f1011
          have f1016 := Fr.trans f14 f1011 (by decide)
          refine x_iload (np := 27) (x := 2) (by decide +kernel) rfl (by omega) ?_
          refine x_const (np := 29) (x := 9223372099131801614) (a := 2147483662) (by decide +kernel) (by decide) (by decide) ?_
          refine x_icmp (k := 3) (tg := 73) (np := 32) (by decide +kernel) (by decide) (by omega) (by decide) (fun q1017 => ?_) (fun q1018 => ?_)
          · have q1017 : 2147483662 ≤ v1008 := q1017
            refine x_const (np := 74) (x := 9223372039002259456) (a := 2147483648) (by decide +kernel) (by decide) (by decide) ?_
            refine x_retI (np := 75) (x := 0) (by decide +kernel) (by decide) (Or.inr ⟨by decide +kernel, by omega, by omega⟩) ⟨_, rfl, (by decide), ?_⟩
            exact ⟨j1012, f1016, (by omega)⟩
          have q1018 : ¬ (2147483662 ≤ v1008) := q1018
          refine x_aload (np := 33) (x := 0) (by decide +kernel) rfl (x_nc_le (by decide)) ?_
          refine x_cI (t := 6) (mj := 93) (n := 1) (rc := 10) (ml := 1) (nr := 0) (np := 36) (as := [x_r 61]) (rest := []) (lo1 := [x_r 61]) (by decide +kernel) (by decide) (by decide +kernel) (x_rb_of (by decide +kernel)) rfl rfl (x_wr (by decide) x_wn) x_wn (by decide) rfl (c93_61 j1012 ) (fun v1019 h1022 l1020 q1021 => ?_)
          obtain ⟨j1023, f1024, b1025⟩ := q1021
          have f1026 := Fr.trans f1016 f1024 (by decide)
          have f1027 := Fr.trans f1011 f1024 (by decide)
          refine x_ifz (k := 1) (tg := 41) (np := 39) (by decide +kernel) (by decide) l1020 (fun q1028 => ?_) (fun q1029 => ?_)
          · have q1028 : v1019 ≠ 2147483648 := q1028
            refine x_aload (np := 42) (x := 0) (by decide +kernel) rfl (x_nc_le (by decide)) ?_
            have q1030 : h1022 61 0 = 1 := by have z := jB (e := 0) 0 j1023 rg_61_0_0_1 (by decide) (by decide); omega
            refine x_getR (np := 45) (x := 576) (f := 0) (q := 1) (by decide +kernel) (by decide) (by decide +kernel) q1030 ?_
            refine x_nI (t := 6) (mj := 74) (n := 1) (rc := 8) (ml := 1) (nr := 0) (np := 48) (as := [x_r 1]) (rest := []) (lo1 := [x_r 1]) (by decide +kernel) (by decide) (by decide +kernel) (x_rb_of (by decide +kernel)) rfl rfl (x_wr (by decide) x_wn) x_wn (by decide) rfl ?_
            refine x_aload (np := 1) (x := 0) (by decide +kernel) rfl (x_nc_le (by decide)) ?_
            have b1031 := jB (e := 2) 0 j1023 rg_1_2_0_1 (by omega) (by omega)
            refine x_getC (np := 4) (x := 450) (f := 2) (q := (h1022 1 2)) (by decide +kernel) (by decide) (by decide +kernel) rfl (fun l1032 => ?_)
            refine x_aload (np := 5) (x := 0) (by decide +kernel) rfl (x_nc_le (by decide)) ?_
            have q1033 : h1022 1 1 = h1010 1 1 := jK 0 f1024 rg_1_1_0_1 (by omega) (by omega) (by decide)
            have q1034 : h1010 1 1 = h9 1 1 := jK 0 f1011 rg_1_1_0_1 (by omega) (by omega) (by decide)
            have q1035 : h9 1 1 = h1 1 1 := jK 0 f11 rg_1_1_0_1 (by omega) (by omega) (by decide)
            have q1036 : h1 1 1 = h 1 1 := by rw [← e3]; exact x_up_k (by decide)
            refine x_getC (np := 8) (x := 449) (f := 1) (q := (h 1 1)) (by decide +kernel) (by decide) (by decide +kernel) (((q1033.trans q1034).trans q1035).trans q1036) (fun l1037 => ?_)
            refine x_icmp (k := 2) (tg := 15) (np := 11) (by decide +kernel) (by decide) l1032 l21 (fun q1038 => ?_) (fun q1039 => ?_)
            · have q1038 : (h1022 1 2) < (h 1 1) := q1038
              refine x_const (np := 16) (x := 9223372039002259456) (a := 2147483648) (by decide +kernel) (by decide) (by decide) ?_
              refine x_retI (np := 17) (x := 0) (by decide +kernel) (by decide) (Or.inr ⟨by decide +kernel, by omega, by omega⟩) ⟨_, rfl, (by decide), ?_⟩
              refine x_ifz (k := 0) (tg := 53) (np := 51) (by decide +kernel) (by decide) (by decide) (fun q1040 => ?_) (fun q1041 => ?_)
              · have q1040 : 2147483648 = 2147483648 := q1040
                refine x_aload (np := 54) (x := 0) (by decide +kernel) rfl (x_nc_le (by decide)) ?_
                have q1042 : h1022 61 0 = 1 := by have z := jB (e := 0) 0 j1023 rg_61_0_0_1 (by decide) (by decide); omega
                refine x_getR (np := 57) (x := 576) (f := 0) (q := 1) (by decide +kernel) (by decide) (by decide +kernel) q1042 ?_
                refine x_const (np := 59) (x := 9223372292405329979) (a := 2147483707) (by decide +kernel) (by decide) (by decide) ?_
                refine x_nI (t := 6) (mj := 76) (n := 2) (rc := 8) (ml := 2) (nr := 0) (np := 62) (as := [x_r 1, iv_c 2147483707]) (rest := []) (lo1 := [x_r 1, iv_c 2147483707]) (by decide +kernel) (by decide) (by decide +kernel) (x_rb_of (by decide +kernel)) rfl rfl (x_wr (by decide) (x_wi (by decide) x_wn)) x_wn (by decide) rfl ?_
                refine x_aload (np := 1) (x := 0) (by decide +kernel) rfl (x_nc_le (by decide)) ?_
                refine x_iload (np := 2) (x := 1) (by decide +kernel) rfl (by decide) ?_
                refine x_nI (t := 6) (mj := 75) (n := 2) (rc := 8) (ml := 2) (nr := 0) (np := 5) (as := [x_r 1, iv_c 2147483707]) (rest := []) (lo1 := [x_r 1, iv_c 2147483707]) (by decide +kernel) (by decide) (by decide +kernel) (x_rb_of (by decide +kernel)) rfl rfl (x_wr (by decide) (x_wi (by decide) x_wn)) x_wn (by decide) rfl ?_
                refine x_aload (np := 1) (x := 0) (by decide +kernel) rfl (x_nc_le (by decide)) ?_
                refine x_aload (np := 2) (x := 0) (by decide +kernel) rfl (x_nc_le (by decide)) ?_
                refine x_getC (np := 5) (x := 450) (f := 2) (q := (h1022 1 2)) (by decide +kernel) (by decide) (by decide +kernel) rfl (fun l1043 => ?_)
                refine x_nI (t := 6) (mj := 81) (n := 2) (rc := 8) (ml := 2) (nr := 0) (np := 8) (as := [x_r 1, iv_c (h1022 1 2)]) (rest := []) (lo1 := [x_r 1, iv_c (h1022 1 2)]) (by decide +kernel) (by decide) (by decide +kernel) (x_rb_of (by decide +kernel)) rfl rfl (x_wr (by decide) (x_wi l1032 x_wn)) x_wn (by decide) rfl ?_
                refine x_iload (np := 1) (x := 1) (by decide +kernel) rfl l1032 ?_
                refine x_aload (np := 2) (x := 0) (by decide +kernel) rfl (x_nc_le (by decide)) ?_
                have q1044 : h1022 1 1 = h1010 1 1 := jK 0 f1024 rg_1_1_0_1 (by omega) (by omega) (by decide)
                have q1045 : h1010 1 1 = h9 1 1 := jK 0 f1011 rg_1_1_0_1 (by omega) (by omega) (by decide)
                have q1046 : h9 1 1 = h1 1 1 := jK 0 f11 rg_1_1_0_1 (by omega) (by omega) (by decide)
                have q1047 : h1 1 1 = h 1 1 := by rw [← e3]; exact x_up_k (by decide)
                refine x_getC (np := 5) (x := 449) (f := 1) (q := (h 1 1)) (by decide +kernel) (by decide) (by decide +kernel) (((q1044.trans q1045).trans q1046).trans q1047) (fun l1048 => ?_)
                refine x_icmp (k := 3) (tg := 17) (np := 8) (by decide +kernel) (by decide) l1032 l21 (fun q1049 => ?_) (fun q1050 => ?_)
                · have q1049 : (h 1 1) ≤ (h1022 1 2) := q1049
                  refine x_const (np := 18) (x := 9223372034707292159) (a := 2147483647) (by decide +kernel) (by decide) (by decide) ?_
                  refine x_retI (np := 19) (x := 0) (by decide +kernel) (by decide) (Or.inl (by decide +kernel)) ⟨_, rfl, (by decide), ?_⟩
                  refine x_iload (np := 9) (x := 1) (by decide +kernel) rfl (by decide) ?_
                  refine x_icmp (k := 1) (tg := 16) (np := 12) (by decide +kernel) (by decide) (by decide) (by decide) (fun q1051 => ?_) (fun q1052 => ?_)
                  · have q1051 : 2147483647 ≠ 2147483707 := q1051
                    refine x_const (np := 17) (x := 9223372039002259456) (a := 2147483648) (by decide +kernel) (by decide) (by decide) ?_
                    refine x_retI (np := 18) (x := 0) (by decide +kernel) (by decide) (Or.inr ⟨by decide +kernel, by omega, by omega⟩) ⟨_, rfl, (by decide), ?_⟩
                    refine x_ifz (k := 1) (tg := 10) (np := 8) (by decide +kernel) (by decide) (by decide) (fun q1053 => ?_) (fun q1054 => ?_)
                    · have q1053 : 2147483648 ≠ 2147483648 := q1053
                      exfalso; omega
                    have q1054 : ¬ (2147483648 ≠ 2147483648) := q1054
                    refine x_const (np := 9) (x := 9223372039002259456) (a := 2147483648) (by decide +kernel) (by decide) (by decide) ?_
                    refine x_retI (np := 10) (x := 0) (by decide +kernel) (by decide) (Or.inr ⟨by decide +kernel, by omega, by omega⟩) ⟨_, rfl, (by decide), ?_⟩
                    refine x_ifz (k := 1) (tg := 67) (np := 65) (by decide +kernel) (by decide) (by decide) (fun q1055 => ?_) (fun q1056 => ?_)
                    · have q1055 : 2147483648 ≠ 2147483648 := q1055
                      exfalso; omega
                    have q1056 : ¬ (2147483648 ≠ 2147483648) := q1056
                    refine x_const (np := 66) (x := 9223372039002259456) (a := 2147483648) (by decide +kernel) (by decide) (by decide) ?_
                    refine x_retI (np := 67) (x := 0) (by decide +kernel) (by decide) (Or.inr ⟨by decide +kernel, by omega, by omega⟩) ⟨_, rfl, (by decide), ?_⟩
                    exact ⟨j1023, f1026, (by omega)⟩
                  have q1052 : ¬ (2147483647 ≠ 2147483707) := q1052
                  exfalso; omega
                have q1050 : ¬ ((h 1 1) ≤ (h1022 1 2)) := q1050
                refine x_aload (np := 9) (x := 0) (by decide +kernel) rfl (x_nc_le (by decide)) ?_
                have q1057 : h1022 1 0 = 2 := by have z := jB (e := 0) 0 j1023 rg_1_0_0_1 (by decide) (by decide); omega
                refine x_getR (np := 12) (x := 448) (f := 0) (q := 2) (by decide +kernel) (by decide) (by decide +kernel) q1057 ?_
                refine x_iload (np := 13) (x := 1) (by decide +kernel) rfl l1032 ?_
                obtain ⟨u1058, q1059⟩ : ∃ z, (h1022 1 2) = 2147483648 + z := ⟨(h1022 1 2) - 2147483648, by omega⟩
                have q1060 : h1022 2 u1058 = h1010 2 u1058 := jK u1058 f1024 rg_2_0_1_400 (by omega) (by omega) (by decide)
                have q1061 : h1010 2 u1058 = h9 2 u1058 := jK u1058 f1011 rg_2_0_1_400 (by omega) (by omega) (by decide)
                have q1062 : h9 2 u1058 = h1 2 u1058 := jK u1058 f11 rg_2_0_1_400 (by omega) (by omega) (by decide)
                have q1063 : h1 2 u1058 = h 2 u1058 := by rw [← e3]; exact x_up_k (by decide)
                refine x_aldC (np := 14) (x := 0) (n := 400) (i := u1058) (q := (h 2 u1058)) (by decide +kernel) (by decide +kernel) (by omega) (by omega) (by decide) (((q1060.trans q1061).trans q1062).trans q1063) (fun l1064 => ?_)
                refine x_goto (np := 17) (x := 18) (by decide +kernel) ?_
                refine x_retI (np := 19) (x := 0) (by decide +kernel) l1064 (Or.inl (by decide +kernel)) ⟨_, rfl, l1064, ?_⟩
                refine x_iload (np := 9) (x := 1) (by decide +kernel) rfl (by decide) ?_
                refine x_icmp (k := 1) (tg := 16) (np := 12) (by decide +kernel) (by decide) l1064 (by decide) (fun q1065 => ?_) (fun q1066 => ?_)
                · have q1065 : (h 2 u1058) ≠ 2147483707 := q1065
                  refine x_const (np := 17) (x := 9223372039002259456) (a := 2147483648) (by decide +kernel) (by decide) (by decide) ?_
                  refine x_retI (np := 18) (x := 0) (by decide +kernel) (by decide) (Or.inr ⟨by decide +kernel, by omega, by omega⟩) ⟨_, rfl, (by decide), ?_⟩
                  refine x_ifz (k := 1) (tg := 10) (np := 8) (by decide +kernel) (by decide) (by decide) (fun q1067 => ?_) (fun q1068 => ?_)
                  · have q1067 : 2147483648 ≠ 2147483648 := q1067
                    exfalso; omega
                  have q1068 : ¬ (2147483648 ≠ 2147483648) := q1068
                  refine x_const (np := 9) (x := 9223372039002259456) (a := 2147483648) (by decide +kernel) (by decide) (by decide) ?_
                  refine x_retI (np := 10) (x := 0) (by decide +kernel) (by decide) (Or.inr ⟨by decide +kernel, by omega, by omega⟩) ⟨_, rfl, (by decide), ?_⟩
                  refine x_ifz (k := 1) (tg := 67) (np := 65) (by decide +kernel) (by decide) (by decide) (fun q1069 => ?_) (fun q1070 => ?_)
                  · have q1069 : 2147483648 ≠ 2147483648 := q1069
                    exfalso; omega
                  have q1070 : ¬ (2147483648 ≠ 2147483648) := q1070
                  refine x_const (np := 66) (x := 9223372039002259456) (a := 2147483648) (by decide +kernel) (by decide) (by decide) ?_
                  refine x_retI (np := 67) (x := 0) (by decide +kernel) (by decide) (Or.inr ⟨by decide +kernel, by omega, by omega⟩) ⟨_, rfl, (by decide), ?_⟩
                  exact ⟨j1023, f1026, (by omega)⟩
                have q1066 : ¬ ((h 2 u1058) ≠ 2147483707) := q1066
                refine x_const (np := 13) (x := 9223372043297226753) (a := 2147483649) (by decide +kernel) (by decide) (by decide) ?_
                refine x_goto (np := 16) (x := 17) (by decide +kernel) ?_
                refine x_retI (np := 18) (x := 0) (by decide +kernel) (by decide) (Or.inr ⟨by decide +kernel, by omega, by omega⟩) ⟨_, rfl, (by decide), ?_⟩
                refine x_ifz (k := 1) (tg := 10) (np := 8) (by decide +kernel) (by decide) (by decide) (fun q1071 => ?_) (fun q1072 => ?_)
                · have q1071 : 2147483649 ≠ 2147483648 := q1071
                  refine x_aload (np := 11) (x := 0) (by decide +kernel) rfl (x_nc_le (by decide)) ?_
                  refine x_aload (np := 12) (x := 0) (by decide +kernel) rfl (x_nc_le (by decide)) ?_
                  refine x_getC (np := 15) (x := 450) (f := 2) (q := (h1022 1 2)) (by decide +kernel) (by decide) (by decide +kernel) rfl (fun l1073 => ?_)
                  refine x_const (np := 16) (x := 9223372043297226753) (a := 2147483649) (by decide +kernel) (by decide) (by decide) ?_
                  refine x_iadd (np := 17) (x := 0) (v := (1 + (h1022 1 2))) (by decide +kernel) l1032 (by decide) (by omega) (by omega) ?_
                  refine x_cV (t := 6) (mj := 80) (n := 2) (rc := 8) (ml := 2) (nr := 0) (np := 20) (as := [x_r 1, iv_c (1 + (h1022 1 2))]) (rest := []) (lo1 := [x_r 1, iv_c (1 + (h1022 1 2))]) (by decide +kernel) (by decide) (by decide +kernel) (x_rb_of (by decide +kernel)) rfl rfl (x_wr (by decide) (x_wi (by omega) x_wn)) x_wn (by decide) rfl (c80_1n j1023  (by omega)) (fun h1077 q1076 => ?_)
                  obtain ⟨j1078, f1079⟩ := q1076
                  have f1082 := Fr.trans f1026 f1079 (by decide)
                  have f1083 := Fr.trans f1027 f1079 (by decide)
                  refine x_const (np := 21) (x := 9223372043297226753) (a := 2147483649) (by decide +kernel) (by decide) (by decide) ?_
                  refine x_retI (np := 22) (x := 0) (by decide +kernel) (by decide) (Or.inr ⟨by decide +kernel, by omega, by omega⟩) ⟨_, rfl, (by decide), ?_⟩
                  refine x_ifz (k := 1) (tg := 67) (np := 65) (by decide +kernel) (by decide) (by decide) (fun q1084 => ?_) (fun q1085 => ?_)
                  · have q1084 : 2147483649 ≠ 2147483648 := q1084
                    refine x_iinc (np := 70) (i := 2) (j := 2147483649) (v := (1 + v1008)) (lo' := [x_r 61, x_r ra1, iv_c (1 + v1008)]) (by decide +kernel) (by decide) (by decide) rfl (by omega) (by omega) (by omega) rfl ?_
                    refine x_goto (np := 73) (x := 26) (by decide +kernel) ?_
                    exact i1015 (1 + v1008) h1077 (by omega) (by omega) j1078 f1083
                  have q1085 : ¬ (2147483649 ≠ 2147483648) := q1085
                  exfalso; omega
                have q1072 : ¬ (2147483649 ≠ 2147483648) := q1072
                exfalso; omega
              have q1041 : ¬ (2147483648 = 2147483648) := q1041
              exfalso; omega
            have q1039 : ¬ ((h1022 1 2) < (h 1 1)) := q1039
            refine x_const (np := 12) (x := 9223372043297226753) (a := 2147483649) (by decide +kernel) (by decide) (by decide) ?_
            refine x_goto (np := 15) (x := 16) (by decide +kernel) ?_
            refine x_retI (np := 17) (x := 0) (by decide +kernel) (by decide) (Or.inr ⟨by decide +kernel, by omega, by omega⟩) ⟨_, rfl, (by decide), ?_⟩
            refine x_ifz (k := 0) (tg := 53) (np := 51) (by decide +kernel) (by decide) (by decide) (fun q1086 => ?_) (fun q1087 => ?_)
            · have q1086 : 2147483649 = 2147483648 := q1086
              exfalso; omega
            have q1087 : ¬ (2147483649 = 2147483648) := q1087
            refine x_const (np := 52) (x := 9223372043297226753) (a := 2147483649) (by decide +kernel) (by decide) (by decide) ?_
            refine x_retI (np := 53) (x := 0) (by decide +kernel) (by decide) (Or.inr ⟨by decide +kernel, by omega, by omega⟩) ⟨_, rfl, (by decide), ?_⟩
            exact ⟨j1023, f1026, (by omega)⟩
          have q1029 : ¬ (v1019 ≠ 2147483648) := q1029
          refine x_const (np := 40) (x := 9223372039002259456) (a := 2147483648) (by decide +kernel) (by decide) (by decide) ?_
          refine x_retI (np := 41) (x := 0) (by decide +kernel) (by decide) (Or.inr ⟨by decide +kernel, by omega, by omega⟩) ⟨_, rfl, (by decide), ?_⟩
          exact ⟨j1023, f1026, (by omega)⟩
      exact p1013 _ 2147483648 h9 (Nat.lt_succ_self _) (by omega) j10 (Fr.refl _ _)
    have q25 : ¬ (2147483648 = 2147483648) := q25
    exfalso; omega
  have q23 : ¬ ((h9 1 2) < (h 1 1)) := q23
  refine x_const (np := 12) (x := 9223372043297226753) (a := 2147483649) (by decide +kernel) (by decide) (by decide) ?_
  refine x_goto (np := 15) (x := 16) (by decide +kernel) ?_
  refine x_retI (np := 17) (x := 0) (by decide +kernel) (by decide) (Or.inr ⟨by decide +kernel, by omega, by omega⟩) ⟨_, rfl, (by decide), ?_⟩
  refine x_ifz (k := 0) (tg := 24) (np := 22) (by decide +kernel) (by decide) (by decide) (fun q1088 => ?_) (fun q1089 => ?_)
  · have q1088 : 2147483649 = 2147483648 := q1088
    exfalso; omega
  have q1089 : ¬ (2147483649 = 2147483648) := q1089
  refine x_const (np := 23) (x := 9223372043297226753) (a := 2147483649) (by decide +kernel) (by decide) (by decide) ?_
  refine x_retI (np := 24) (x := 0) (by decide +kernel) (by decide) (Or.inr ⟨by decide +kernel, by omega, by omega⟩) ⟨_, rfl, (by decide), ?_⟩
  exact ⟨j10, f14, (by omega)⟩
set_option maxHeartbeats 0 in
/-- LentNames.hasBit(II)Z -/
theorem c148n {sc : Nat × Nat} {d a0 a1 : Nat} {h : xh} (hJ : J h) (ba0 : 0 ≤ a0 ∧ a0 ≤ 4294967295) (ba1 : 2147483648 ≤ a1 ∧ a1 ≤ 2147483659) : X sc 148 d (xI fun r h' => h' = h ∧ (2147483648 ≤ r ∧ r ≤ 2147483649)) 0 0 0 [iv_c a0, iv_c a1] [] h := by
  have la0 : a0 < 4294967296 := by omega
  have la1 : a1 < 4294967296 := by omega
  refine x_iload (np := 1) (x := 0) (by decide +kernel) rfl la0 ?_
  refine x_iload (np := 2) (x := 1) (by decide +kernel) rfl la1 ?_
  refine x_any (np := 3) (k9 := 4) (by decide +kernel) (by decide) la0 la1 (fun v1 l2 => ?_)
  refine x_const (np := 4) (x := 9223372043297226753) (a := 2147483649) (by decide +kernel) (by decide) (by decide) ?_
  refine x_mask (np := 5) (m := 1) (k9 := 2) (by decide +kernel) l2 (by decide +kernel) (by decide) (by decide) (by decide) (fun u3 l4 => ?_)
  refine x_const (np := 6) (x := 9223372043297226753) (a := 2147483649) (by decide +kernel) (by decide) (by decide) ?_
  refine x_icmp (k := 1) (tg := 13) (np := 9) (by decide +kernel) (by decide) (by omega) (by decide) (fun q5 => ?_) (fun q6 => ?_)
  · have q5 : (2147483648 + u3) ≠ 2147483649 := q5
    refine x_const (np := 14) (x := 9223372039002259456) (a := 2147483648) (by decide +kernel) (by decide) (by decide) ?_
    refine x_retI (np := 15) (x := 0) (by decide +kernel) (by decide) (Or.inr ⟨by decide +kernel, by omega, by omega⟩) ⟨_, rfl, (by decide), ?_⟩
    exact ⟨rfl, (by omega)⟩
  have q6 : ¬ ((2147483648 + u3) ≠ 2147483649) := q6
  refine x_const (np := 10) (x := 9223372043297226753) (a := 2147483649) (by decide +kernel) (by decide) (by decide) ?_
  refine x_goto (np := 13) (x := 14) (by decide +kernel) ?_
  refine x_retI (np := 15) (x := 0) (by decide +kernel) (by decide) (Or.inr ⟨by decide +kernel, by omega, by omega⟩) ⟨_, rfl, (by decide), ?_⟩
  exact ⟨rfl, (by omega)⟩
set_option maxHeartbeats 0 in
/-- LentNames.tell()I -/
theorem c106_0 {sc : Nat × Nat} {d  : Nat} {h : xh} (hJ : J h) : X sc 106 (d + 10) (xT (fun r h' => J h' ∧ Fr 140737488477883 h h' ∧ (0 ≤ r ∧ r ≤ 4294967295) ∧ (h' 1 1 = 2147483648)) (fun E h' => J h' ∧ Fr 140737488477883 h h' ∧ (E = 0 ∨ E = 3) ∧ (h' 1 1 = 2147483648))) 0 0 0 [x_r 0, 147573952589676412928] [] h := by
  have hF := Fr.refl 140737488477883 h
  refine x_aload (np := 1) (x := 0) (by decide +kernel) rfl (x_nc_le (by decide)) ?_
  have t1 : tw (h 0 9) := hJ.2.2.1
  refine x_getR (np := 4) (x := 649) (f := 9) (q := (h 0 9)) (by decide +kernel) (by decide) (by decide +kernel) rfl ?_
  refine x_aload (np := 5) (x := 0) (by decide +kernel) rfl (x_nc_le (by decide)) ?_
  have t2 : tw (h 0 8) := hJ.2.1
  refine x_getR (np := 8) (x := 648) (f := 8) (q := (h 0 8)) (by decide +kernel) (by decide) (by decide +kernel) rfl ?_
  refine x_cV (t := 6) (mj := 84) (n := 2) (rc := 9) (ml := 2) (nr := 0) (np := 11) (as := [x_r (h 0 9), x_r (h 0 8)]) (rest := []) (lo1 := [x_r (h 0 9), x_r (h 0 8)]) (by decide +kernel) (by decide) (by decide +kernel) (x_rb_of (tr_0_9 t1)) rfl rfl (x_wr (tn_0 t1) (x_wr (tn_0 t2) x_wn)) x_wn (by decide) rfl (c84_T0_T0 hJ t1 t2) (fun h6 q5 => ?_)
  obtain ⟨j7, f8⟩ := q5
  have f11 := Fr.trans hF f8 (by decide)
  refine x_aload (np := 12) (x := 0) (by decide +kernel) rfl (x_nc_le (by decide)) ?_
  have q12 : h6 0 3 = 61 := by have z := jB (e := 3) 0 j7 rg_0_3_0_1 (by decide) (by decide); omega
  refine x_getR (np := 15) (x := 643) (f := 3) (q := 61) (by decide +kernel) (by decide) (by decide +kernel) q12 ?_
  refine x_aload (np := 16) (x := 0) (by decide +kernel) rfl (x_nc_le (by decide)) ?_
  have q13 : h6 0 9 = h 0 9 := f8 0 9 (by decide +kernel)
  refine x_getR (np := 19) (x := 649) (f := 9) (q := (h 0 9)) (by decide +kernel) (by decide) (by decide +kernel) q13 ?_
  refine x_cI (t := 6) (mj := 92) (n := 2) (rc := 10) (ml := 3) (nr := 0) (np := 22) (as := [x_r 61, x_r (h 0 9)]) (rest := []) (lo1 := [x_r 61, x_r (h 0 9), 147573952589676412928]) (by decide +kernel) (by decide) (by decide +kernel) (x_rb_of (by decide +kernel)) rfl rfl (x_wr (by decide) (x_wr (tn_0 t1) x_wn)) x_wn (by decide) rfl (c92_61_T0 j7  t1) (fun v14 h17 l15 q16 => ?_)
  obtain ⟨j18, f19, b20⟩ := q16
  have f21 := Fr.trans f11 f19 (by decide)
  refine x_istore (np := 23) (x := 1) (lo' := [x_r 0, iv_c v14]) (by decide +kernel) l15 (Nat.le_of_ble_eq_true rfl) rfl ?_
  refine x_aload (np := 24) (x := 0) (by decide +kernel) rfl (x_nc_le (by decide)) ?_
  refine x_iload (np := 25) (x := 1) (by decide +kernel) rfl l15 ?_
  refine x_nV (t := 6) (mj := 141) (n := 2) (rc := 11) (ml := 2) (nr := 0) (np := 28) (as := [x_r 0, iv_c v14]) (rest := []) (lo1 := [x_r 0, iv_c v14]) (by decide +kernel) (by decide) (by decide +kernel) (x_rb_of (by decide +kernel)) rfl rfl (x_wr (by decide) (x_wi l15 x_wn)) x_wn (by decide) rfl ?_
  refine x_aload (np := 1) (x := 0) (by decide +kernel) rfl (x_nc_le (by decide)) ?_
  refine x_iload (np := 2) (x := 1) (by decide +kernel) rfl l15 ?_
  refine x_ifz (k := 0) (tg := 9) (np := 5) (by decide +kernel) (by decide) l15 (fun q22 => ?_) (fun q23 => ?_)
  · have q22 : v14 = 2147483648 := q22
    refine x_aload (np := 10) (x := 0) (by decide +kernel) rfl (x_nc_le (by decide)) ?_
    have q24 : h17 0 0 = 1 := by have z := jB (e := 0) 0 j18 rg_0_0_0_1 (by decide) (by decide); omega
    refine x_getR (np := 13) (x := 640) (f := 0) (q := 1) (by decide +kernel) (by decide) (by decide +kernel) q24 ?_
    have b25 := jB (e := 2) 0 j18 rg_1_2_0_1 (by omega) (by omega)
    refine x_getC (np := 16) (x := 450) (f := 2) (q := (h17 1 2)) (by decide +kernel) (by decide) (by decide +kernel) rfl (fun l26 => ?_)
    refine x_putI (np := 19) (x := 651) (f := 11) (by decide +kernel) (by decide +kernel) l26 (Or.inl (by decide)) ?_
    have j28 := jU (e := 11) (v := (h17 1 2)) 0 j18 rg_0_11_0_1 (by omega) (by omega) (by omega)
    have f30 := jF (e := 11) (v := (h17 1 2)) 0 f21 rg_0_11_0_1 (by omega) (by omega) (by decide)
    generalize e29 : x_up h17 0 11 (h17 1 2) = h27 at j28 f30 ⊢
    refine x_aload (np := 20) (x := 0) (by decide +kernel) rfl (x_nc_le (by decide)) ?_
    have q31 : h27 0 0 = 1 := by have z := jB (e := 0) 0 j28 rg_0_0_0_1 (by decide) (by decide); omega
    refine x_getR (np := 23) (x := 640) (f := 0) (q := 1) (by decide +kernel) (by decide) (by decide +kernel) q31 ?_
    refine x_const (np := 24) (x := 9223372039002259456) (a := 2147483648) (by decide +kernel) (by decide) (by decide) ?_
    refine x_putI (np := 27) (x := 449) (f := 1) (by decide +kernel) (by decide +kernel) (by decide) (Or.inl (by decide)) ?_
    have j33 := jU (e := 1) (v := 2147483648) 0 j28 rg_1_1_0_1 (by omega) (by omega) (by omega)
    have f35 := jF (e := 1) (v := 2147483648) 0 f30 rg_1_1_0_1 (by omega) (by omega) (by decide)
    generalize e34 : x_up h27 1 1 2147483648 = h32 at j33 f35 ⊢
    refine x_retV (np := 28) (x := 0) (by decide +kernel) (by decide +kernel) ⟨rfl, ?_⟩
    refine x_iload (np := 29) (x := 1) (by decide +kernel) rfl l15 ?_
    refine x_ifz (k := 1) (tg := 42) (np := 32) (by decide +kernel) (by decide) l15 (fun q36 => ?_) (fun q37 => ?_)
    · have q36 : v14 ≠ 2147483648 := q36
      exfalso; omega
    have q37 : ¬ (v14 ≠ 2147483648) := q37
    have q38 : h32 1 1 = 2147483648 := by rw [← e34]; exact x_up_at
    refine x_thr (np := 35) (x := 0) (by decide +kernel) (by decide +kernel) (Nat.le_trans x_wn (by decide)) (Or.inr ⟨_, rfl, ?_⟩)
    exact ⟨j33, f35, by decide, (by omega)⟩
  have q23 : ¬ (v14 = 2147483648) := q23
  refine x_const (np := 6) (x := 9223372034707292159) (a := 2147483647) (by decide +kernel) (by decide) (by decide) ?_
  refine x_goto (np := 9) (x := 16) (by decide +kernel) ?_
  refine x_putI (np := 19) (x := 651) (f := 11) (by decide +kernel) (by decide +kernel) (by decide) (Or.inl (by decide)) ?_
  have j40 := jU (e := 11) (v := 2147483647) 0 j18 rg_0_11_0_1 (by omega) (by omega) (by omega)
  have f42 := jF (e := 11) (v := 2147483647) 0 f21 rg_0_11_0_1 (by omega) (by omega) (by decide)
  generalize e41 : x_up h17 0 11 2147483647 = h39 at j40 f42 ⊢
  refine x_aload (np := 20) (x := 0) (by decide +kernel) rfl (x_nc_le (by decide)) ?_
  have q43 : h39 0 0 = 1 := by have z := jB (e := 0) 0 j40 rg_0_0_0_1 (by decide) (by decide); omega
  refine x_getR (np := 23) (x := 640) (f := 0) (q := 1) (by decide +kernel) (by decide) (by decide +kernel) q43 ?_
  refine x_const (np := 24) (x := 9223372039002259456) (a := 2147483648) (by decide +kernel) (by decide) (by decide) ?_
  refine x_putI (np := 27) (x := 449) (f := 1) (by decide +kernel) (by decide +kernel) (by decide) (Or.inl (by decide)) ?_
  have j45 := jU (e := 1) (v := 2147483648) 0 j40 rg_1_1_0_1 (by omega) (by omega) (by omega)
  have f47 := jF (e := 1) (v := 2147483648) 0 f42 rg_1_1_0_1 (by omega) (by omega) (by decide)
  generalize e46 : x_up h39 1 1 2147483648 = h44 at j45 f47 ⊢
  refine x_retV (np := 28) (x := 0) (by decide +kernel) (by decide +kernel) ⟨rfl, ?_⟩
  refine x_iload (np := 29) (x := 1) (by decide +kernel) rfl l15 ?_
  refine x_ifz (k := 1) (tg := 42) (np := 32) (by decide +kernel) (by decide) l15 (fun q48 => ?_) (fun q49 => ?_)
  · have q48 : v14 ≠ 2147483648 := q48
    refine x_aload (np := 43) (x := 0) (by decide +kernel) rfl (x_nc_le (by decide)) ?_
    have q50 : h44 0 8 = h39 0 8 := by rw [← e46]; exact x_up_k (by decide)
    have q51 : h39 0 8 = h17 0 8 := by rw [← e41]; exact x_up_i (by omega)
    have q52 : h17 0 8 = h6 0 8 := f19 0 8 (by decide +kernel)
    have q53 : h6 0 8 = h 0 8 := f8 0 8 (by decide +kernel)
    refine x_getR (np := 46) (x := 648) (f := 8) (q := (h 0 8)) (by decide +kernel) (by decide) (by decide +kernel) (((q50.trans q51).trans q52).trans q53) ?_
    have q54 : h44 (h 0 8) 8 = h39 (h 0 8) 8 := by rw [← e46]; exact x_up_k (tne_0_1 t2)
    have q55 : h39 (h 0 8) 8 = h17 (h 0 8) 8 := by rw [← e41]; exact x_up_k (tne_0_0 t2)
    refine x_getC (np := 49) (x := 520) (f := 8) (q := (h17 (h 0 8) 8)) (by decide +kernel) (by decide) (tg_0_520_8_0 t2) (q54.trans q55) (fun l56 => ?_)
    refine x_const (np := 51) (x := 9223372081951932426) (a := 2147483658) (by decide +kernel) (by decide) (by decide) ?_
    refine x_icmp (k := 2) (tg := 64) (np := 54) (by decide +kernel) (by decide) l56 (by decide) (fun q57 => ?_) (fun q58 => ?_)
    · have q57 : (h17 (h 0 8) 8) < 2147483658 := q57
      refine x_aload (np := 65) (x := 0) (by decide +kernel) rfl (x_nc_le (by decide)) ?_
      have q59 : h44 0 9 = h39 0 9 := by rw [← e46]; exact x_up_k (by decide)
      have q60 : h39 0 9 = h17 0 9 := by rw [← e41]; exact x_up_i (by omega)
      have q61 : h17 0 9 = h6 0 9 := f19 0 9 (by decide +kernel)
      have q62 : h6 0 9 = h 0 9 := f8 0 9 (by decide +kernel)
      refine x_getR (np := 68) (x := 649) (f := 9) (q := (h 0 9)) (by decide +kernel) (by decide) (by decide +kernel) (((q59.trans q60).trans q61).trans q62) ?_
      refine x_dup (np := 69) (x := 0) (by decide +kernel) (by have z := x_nc_le (k := (h 0 9)) (tn_0 t1); unfold x_r; omega) ?_
      have q63 : h44 (h 0 9) 8 = h39 (h 0 9) 8 := by rw [← e46]; exact x_up_k (tne_0_1 t1)
      have q64 : h39 (h 0 9) 8 = h17 (h 0 9) 8 := by rw [← e41]; exact x_up_k (tne_0_0 t1)
      refine x_getC (np := 72) (x := 520) (f := 8) (q := (h17 (h 0 9) 8)) (by decide +kernel) (by decide) (tg_0_520_8_0 t1) (q63.trans q64) (fun l65 => ?_)
      refine x_const (np := 73) (x := 9223372043297226753) (a := 2147483649) (by decide +kernel) (by decide) (by decide) ?_
      refine x_addA (by rw [tb_b106]; decide +kernel) l65 (by decide) (fun v66 l67 => ?_)
      refine x_putI (np := 77) (x := 520) (f := 8) (by decide +kernel) (tg_0_520_8_0 t1) l67 (Or.inl (by decide)) ?_
      have j69 := jU (e := 8) (v := v66) 0 j45 (rg_T0_8_0_1 t1) (by omega) (by omega) (by omega)
      have f71 := jF (e := 8) (v := v66) 0 f47 (rg_T0_8_0_1 t1) (by omega) (by omega) (by decide)
      generalize e70 : x_up h44 (h 0 9) 8 v66 = h68 at j69 f71 ⊢
      refine x_aload (np := 78) (x := 0) (by decide +kernel) rfl (x_nc_le (by decide)) ?_
      refine x_nV (t := 6) (mj := 142) (n := 1) (rc := 11) (ml := 2) (nr := 0) (np := 81) (as := [x_r 0]) (rest := []) (lo1 := [x_r 0, 147573952589676412928]) (by decide +kernel) (by decide) (by decide +kernel) (x_rb_of (by decide +kernel)) rfl rfl (x_wr (by decide) x_wn) x_wn (by decide) rfl ?_
      refine x_aload (np := 1) (x := 0) (by decide +kernel) rfl (x_nc_le (by decide)) ?_
      have q72 : h68 0 8 = h44 0 8 := by rw [← e70]; exact x_up_k (Ne.symm (tne_0_0 t1))
      have q73 : h44 0 8 = h39 0 8 := by rw [← e46]; exact x_up_k (by decide)
      have q74 : h39 0 8 = h17 0 8 := by rw [← e41]; exact x_up_i (by omega)
      have q75 : h17 0 8 = h6 0 8 := f19 0 8 (by decide +kernel)
      have q76 : h6 0 8 = h 0 8 := f8 0 8 (by decide +kernel)
      refine x_getR (np := 4) (x := 648) (f := 8) (q := (h 0 8)) (by decide +kernel) (by decide) (by decide +kernel) ((((q72.trans q73).trans q74).trans q75).trans q76) ?_
      refine x_astore (np := 5) (x := 1) (lo' := [x_r 0, x_r (h 0 8)]) (by decide +kernel) (x_nc_le (tn_0 t2)) (Nat.le_of_ble_eq_true rfl) rfl ?_
      refine x_aload (np := 6) (x := 0) (by decide +kernel) rfl (x_nc_le (by decide)) ?_
      refine x_aload (np := 7) (x := 0) (by decide +kernel) rfl (x_nc_le (by decide)) ?_
      have q77 : h68 0 9 = h44 0 9 := by rw [← e70]; exact x_up_k (Ne.symm (tne_0_0 t1))
      have q78 : h44 0 9 = h39 0 9 := by rw [← e46]; exact x_up_k (by decide)
      have q79 : h39 0 9 = h17 0 9 := by rw [← e41]; exact x_up_i (by omega)
      have q80 : h17 0 9 = h6 0 9 := f19 0 9 (by decide +kernel)
      have q81 : h6 0 9 = h 0 9 := f8 0 9 (by decide +kernel)
      refine x_getR (np := 10) (x := 649) (f := 9) (q := (h 0 9)) (by decide +kernel) (by decide) (by decide +kernel) ((((q77.trans q78).trans q79).trans q80).trans q81) ?_
      refine x_putR (np := 13) (x := 8840) (f := 8) (by decide +kernel) (by decide +kernel) (tn_0 t1) (by decide) ?_
      have j83 := J_upW (k := 0) (i := 8) j69 t1 (by decide)
      have f85 := Fr.up (k := 0) (i := 8) (v := (h 0 9)) f71 (by decide +kernel)
      generalize e84 : x_up h68 0 8 (h 0 9) = h82 at j83 f85 ⊢
      refine x_aload (np := 14) (x := 0) (by decide +kernel) rfl (x_nc_le (by decide)) ?_
      refine x_aload (np := 15) (x := 1) (by decide +kernel) rfl (x_nc_le (tn_0 t2)) ?_
      refine x_putR (np := 18) (x := 8841) (f := 9) (by decide +kernel) (by decide +kernel) (tn_0 t2) (by decide) ?_
      have j87 := J_upW (k := 0) (i := 9) j83 t2 (by decide)
      have f89 := Fr.up (k := 0) (i := 9) (v := (h 0 8)) f85 (by decide +kernel)
      generalize e88 : x_up h82 0 9 (h 0 8) = h86 at j87 f89 ⊢
      refine x_retV (np := 19) (x := 0) (by decide +kernel) (by decide +kernel) ⟨rfl, ?_⟩
      refine x_aload (np := 82) (x := 0) (by decide +kernel) rfl (x_nc_le (by decide)) ?_
      refine x_nV (t := 6) (mj := 143) (n := 1) (rc := 11) (ml := 1) (nr := 0) (np := 85) (as := [x_r 0]) (rest := []) (lo1 := [x_r 0]) (by decide +kernel) (by decide) (by decide +kernel) (x_rb_of (by decide +kernel)) rfl rfl (x_wr (by decide) x_wn) x_wn (by decide) rfl ?_
      refine x_aload (np := 1) (x := 0) (by decide +kernel) rfl (x_nc_le (by decide)) ?_
      have q90 : h86 0 1 = 45 := by have z := jB (e := 1) 0 j87 rg_0_1_0_1 (by decide) (by decide); omega
      refine x_getR (np := 4) (x := 641) (f := 1) (q := 45) (by decide +kernel) (by decide) (by decide +kernel) q90 ?_
      refine x_aload (np := 5) (x := 0) (by decide +kernel) rfl (x_nc_le (by decide)) ?_
      have q91 : h86 0 8 = h82 0 8 := by rw [← e88]; exact x_up_i (by omega)
      have q92 : h82 0 8 = (h 0 9) := by rw [← e84]; exact x_up_at
      refine x_getR (np := 8) (x := 648) (f := 8) (q := (h 0 9)) (by decide +kernel) (by decide) (by decide +kernel) (q91.trans q92) ?_
      refine x_cV (t := 6) (mj := 4) (n := 2) (rc := 2) (ml := 3) (nr := 0) (np := 11) (as := [x_r 45, x_r (h 0 9)]) (rest := []) (lo1 := [x_r 45, x_r (h 0 9), 147573952589676412928]) (by decide +kernel) (by decide) (by decide +kernel) (x_rb_of (by decide +kernel)) rfl rfl (x_wr (by decide) (x_wr (tn_0 t1) x_wn)) x_wn (by decide) rfl (c4_45_T0 j87  t1) (fun h96 q95 => ?_)
      obtain ⟨j97, f98⟩ := q95
      have f101 := Fr.trans f89 f98 (by decide)
      refine x_aload (np := 12) (x := 0) (by decide +kernel) rfl (x_nc_le (by decide)) ?_
      have q102 : h96 0 5 = 63 := by have z := jB (e := 5) 0 j97 rg_0_5_0_1 (by decide) (by decide); omega
      refine x_getR (np := 15) (x := 645) (f := 5) (q := 63) (by decide +kernel) (by decide) (by decide +kernel) q102 ?_
      refine x_nV (t := 8) (mj := 270) (n := 1) (rc := 5) (ml := 1) (nr := 0) (np := 18) (as := [x_r 63]) (rest := []) (lo1 := [x_r 63]) (by decide +kernel) (by decide) (by decide +kernel) (x_rb_of (by decide +kernel)) rfl rfl (x_wr (by decide) x_wn) x_wn (by decide) rfl ?_
      refine x_aload (np := 1) (x := 0) (by decide +kernel) rfl (x_nc_le (by decide)) ?_
      refine x_const (np := 2) (x := 9223372039002259456) (a := 2147483648) (by decide +kernel) (by decide) (by decide) ?_
      refine x_putI (np := 5) (x := 4878) (f := 14) (by decide +kernel) (by decide +kernel) (by decide) (Or.inr ⟨by decide, by omega, by omega⟩) ?_
      have j104 := jU (e := 14) (v := 2147483648) 0 j97 rg_63_14_0_1 (by omega) (by omega) (by omega)
      have f106 := jF (e := 14) (v := 2147483648) 0 f101 rg_63_14_0_1 (by omega) (by omega) (by decide)
      generalize e105 : x_up h96 63 14 2147483648 = h103 at j104 f106 ⊢
      refine x_retV (np := 6) (x := 0) (by decide +kernel) (by decide +kernel) ⟨rfl, ?_⟩
      refine x_aload (np := 19) (x := 0) (by decide +kernel) rfl (x_nc_le (by decide)) ?_
      have q107 : h103 0 6 = 69 := by have z := jB (e := 6) 0 j104 rg_0_6_0_1 (by decide) (by decide); omega
      refine x_getR (np := 22) (x := 646) (f := 6) (q := 69) (by decide +kernel) (by decide) (by decide +kernel) q107 ?_
      refine x_nV (t := 8) (mj := 270) (n := 1) (rc := 6) (ml := 1) (nr := 0) (np := 25) (as := [x_r 69]) (rest := []) (lo1 := [x_r 69]) (by decide +kernel) (by decide) (by decide +kernel) (x_rb_of (by decide +kernel)) rfl rfl (x_wr (by decide) x_wn) x_wn (by decide) rfl ?_
      refine x_aload (np := 1) (x := 0) (by decide +kernel) rfl (x_nc_le (by decide)) ?_
      refine x_const (np := 2) (x := 9223372039002259456) (a := 2147483648) (by decide +kernel) (by decide) (by decide) ?_
      refine x_putI (np := 5) (x := 4878) (f := 14) (by decide +kernel) (by decide +kernel) (by decide) (Or.inr ⟨by decide, by omega, by omega⟩) ?_
      have j109 := jU (e := 14) (v := 2147483648) 0 j104 rg_69_14_0_1 (by omega) (by omega) (by omega)
      have f111 := jF (e := 14) (v := 2147483648) 0 f106 rg_69_14_0_1 (by omega) (by omega) (by decide)
      generalize e110 : x_up h103 69 14 2147483648 = h108 at j109 f111 ⊢
      refine x_retV (np := 6) (x := 0) (by decide +kernel) (by decide +kernel) ⟨rfl, ?_⟩
      refine x_retV (np := 26) (x := 0) (by decide +kernel) (by decide +kernel) ⟨rfl, ?_⟩
      refine x_aload (np := 86) (x := 0) (by decide +kernel) rfl (x_nc_le (by decide)) ?_
      have q112 : h108 0 8 = h103 0 8 := by rw [← e110]; exact x_up_k (by decide)
      have q113 : h103 0 8 = h96 0 8 := by rw [← e105]; exact x_up_k (by decide)
      have q114 : h96 0 8 = h86 0 8 := f98 0 8 (by decide +kernel)
      have q115 : h86 0 8 = h82 0 8 := by rw [← e88]; exact x_up_i (by omega)
      have q116 : h82 0 8 = (h 0 9) := by rw [← e84]; exact x_up_at
      refine x_getR (np := 89) (x := 648) (f := 8) (q := (h 0 9)) (by decide +kernel) (by decide) (by decide +kernel) ((((q112.trans q113).trans q114).trans q115).trans q116) ?_
      have q117 : h108 (h 0 9) 8 = h103 (h 0 9) 8 := by rw [← e110]; exact x_up_k (tne_0_69 t1)
      have q118 : h103 (h 0 9) 8 = h96 (h 0 9) 8 := by rw [← e105]; exact x_up_k (tne_0_63 t1)
      have q119 : h96 (h 0 9) 8 = h86 (h 0 9) 8 := jK 0 f98 (rg_T0_8_0_1 t1) (by omega) (by omega) (by decide)
      have q120 : h86 (h 0 9) 8 = h82 (h 0 9) 8 := by rw [← e88]; exact x_up_k (tne_0_0 t1)
      have q121 : h82 (h 0 9) 8 = h68 (h 0 9) 8 := by rw [← e84]; exact x_up_k (tne_0_0 t1)
      have q122 : h68 (h 0 9) 8 = v66 := by rw [← e70]; exact x_up_at
      refine x_getC (np := 92) (x := 520) (f := 8) (q := v66) (by decide +kernel) (by decide) (tg_0_520_8_0 t1) (((((q117.trans q118).trans q119).trans q120).trans q121).trans q122) (fun l123 => ?_)
      have q124 : h108 1 1 = h103 1 1 := by rw [← e110]; exact x_up_k (by decide)
      have q125 : h103 1 1 = h96 1 1 := by rw [← e105]; exact x_up_k (by decide)
      have q126 : h96 1 1 = h86 1 1 := jK 0 f98 rg_1_1_0_1 (by omega) (by omega) (by decide)
      have q127 : h86 1 1 = h82 1 1 := by rw [← e88]; exact x_up_k (by decide)
      have q128 : h82 1 1 = h68 1 1 := by rw [← e84]; exact x_up_k (by decide)
      have q129 : h68 1 1 = h44 1 1 := by rw [← e70]; exact x_up_k (Ne.symm (tne_0_1 t1))
      have q130 : h44 1 1 = 2147483648 := by rw [← e46]; exact x_up_at
      refine x_retI (np := 93) (x := 0) (by decide +kernel) l67 (Or.inl (by decide +kernel)) (Or.inl ⟨_, rfl, l67, ?_⟩)
      exact ⟨j109, f111, (by omega), (by omega)⟩
    have q58 : ¬ ((h17 (h 0 8) 8) < 2147483658) := q58
    have q131 : h44 1 1 = 2147483648 := by rw [← e46]; exact x_up_at
    refine x_thr (np := 57) (x := 3) (by decide +kernel) (by decide +kernel) (Nat.le_trans x_wn (by decide)) (Or.inr ⟨_, rfl, ?_⟩)
    exact ⟨j45, f47, by decide, (by omega)⟩
  have q49 : ¬ (v14 ≠ 2147483648) := q49
  exfalso; omega
set_option maxHeartbeats 0 in
/-- LentNames$CustomReader.readPart()Z -/
theorem c50_62 {sc : Nat × Nat} {d  : Nat} {h : xh} (hJ : J h) : X sc 50 (d + 6) (xI fun r h' => J h' ∧ Fr 161 h h' ∧ (2147483648 ≤ r ∧ r ≤ 2147483649)) 0 0 0 [x_r 62, 147573952589676412928, 147573952589676412928] [] h := by
  have hF := Fr.refl 161 h
  refine x_aload (np := 1) (x := 0) (by decide +kernel) rfl (x_nc_le (by decide)) ?_
  have q1 : h 62 0 = 1 := by have z := jB (e := 0) 0 hJ rg_62_0_0_1 (by decide) (by decide); omega
  refine x_getR (np := 4) (x := 192) (f := 0) (q := 1) (by decide +kernel) (by decide) (by decide +kernel) q1 ?_
  refine x_const (np := 5) (x := 9223372039002259456) (a := 2147483648) (by decide +kernel) (by decide) (by decide) ?_
  refine x_const (np := 8) (x := 9223376329674589159) (a := 2147484647) (by decide +kernel) (by decide) (by decide) ?_
  refine x_cI (t := 6) (mj := 79) (n := 3) (rc := 8) (ml := 5) (nr := 0) (np := 11) (as := [x_r 1, iv_c 2147483648, iv_c 2147484647]) (rest := []) (lo1 := [x_r 1, iv_c 2147483648, iv_c 2147484647, 147573952589676412928, 147573952589676412928]) (by decide +kernel) (by decide) (by decide +kernel) (x_rb_of (by decide +kernel)) rfl rfl (x_wr (by decide) (x_wi (by decide) (x_wi (by decide) x_wn))) x_wn (by decide) rfl (c79_1_c0 hJ   (by omega)) (fun v2 h5 l3 q4 => ?_)
  obtain ⟨j6, f7, b8, c9⟩ := q4
  have f10 := Fr.trans hF f7 (by decide)
  refine x_istore (np := 12) (x := 1) (lo' := [x_r 62, iv_c v2, 147573952589676412928]) (by decide +kernel) l3 (Nat.le_of_ble_eq_true rfl) rfl ?_
  refine x_iload (np := 13) (x := 1) (by decide +kernel) rfl l3 ?_
  refine x_const (np := 14) (x := 9223372034707292159) (a := 2147483647) (by decide +kernel) (by decide) (by decide) ?_
  refine x_icmp (k := 0) (tg := 26) (np := 17) (by decide +kernel) (by decide) l3 (by decide) (fun q11 => ?_) (fun q12 => ?_)
  · have q11 : v2 = 2147483647 := q11
    refine x_const (np := 27) (x := 9223372039002259456) (a := 2147483648) (by decide +kernel) (by decide) (by decide) ?_
    refine x_istore (np := 28) (x := 2) (lo' := [x_r 62, iv_c v2, iv_c 2147483648]) (by decide +kernel) (by decide) (Nat.le_of_ble_eq_true rfl) rfl ?_
    have p399 : ∀ (n : Nat) (v397 : Nat), 4294967296 - v397 < n → (2147483648 ≤ v397 ∧ v397 ≤ 2147483654) → X sc 50 (d + 6) (xI fun r h' => J h' ∧ Fr 161 h h' ∧ (2147483648 ≤ r ∧ r ≤ 2147483649)) 0 0 28 [x_r 62, iv_c v2, iv_c v397] [] h5 := by
      intro n
      induction n with
      | zero => intro v397 q400; exact absurd q400 (Nat.not_lt_zero _)
      | succ n i401 =>
        intro v397 q400 b398
        refine x_iload (np := 29) (x := 2) (by decide +kernel) rfl (by omega) ?_
        refine x_const (np := 30) (x := 9223372060477095941) (a := 2147483653) (by decide +kernel) (by decide) (by decide) ?_
        refine x_icmp (k := 4) (tg := 66) (np := 33) (by decide +kernel) (by decide) (by omega) (by decide) (fun q402 => ?_) (fun q403 => ?_)
        · have q402 : 2147483653 < v397 := q402
          refine x_const (np := 67) (x := 9223372039002259456) (a := 2147483648) (by decide +kernel) (by decide) (by decide) ?_
          refine x_retI (np := 68) (x := 0) (by decide +kernel) (by decide) (Or.inr ⟨by decide +kernel, by omega, by omega⟩) ⟨_, rfl, (by decide), ?_⟩
          exact ⟨j6, f10, (by omega)⟩
        have q403 : ¬ (2147483653 < v397) := q403
        refine x_aload (np := 34) (x := 0) (by decide +kernel) rfl (x_nc_le (by decide)) ?_
        have q404 : h5 62 0 = 1 := by have z := jB (e := 0) 0 j6 rg_62_0_0_1 (by decide) (by decide); omega
        refine x_getR (np := 37) (x := 192) (f := 0) (q := 1) (by decide +kernel) (by decide) (by decide +kernel) q404 ?_
        refine x_iload (np := 38) (x := 2) (by decide +kernel) rfl (by omega) ?_
        refine x_cS (t := 0) (mj := 51) (n := 1) (rc := 0) (ml := 1) (nr := 1) (np := 41) (as := [iv_c v397]) (rest := [x_r 1]) (lo1 := [iv_c v397]) (by decide +kernel) (by decide) (by decide +kernel) (Or.inl rfl) rfl rfl (x_wi (by omega) x_wn) (x_wr (by decide) x_wn) (by decide) rfl (c51_S (by omega)) (fun i405 l406 => ?_)
        refine x_nI (t := 6) (mj := 78) (n := 2) (rc := 8) (ml := 2) (nr := 0) (np := 44) (as := [x_r 1, x_b (i405 + 1)]) (rest := []) (lo1 := [x_r 1, x_b (i405 + 1)]) (by decide +kernel) (by decide) (by decide +kernel) (x_rb_of (by decide +kernel)) rfl rfl (x_wr (by decide) (x_wB l406 x_wn)) x_wn (by decide) rfl ?_
        refine x_aload (np := 1) (x := 0) (by decide +kernel) rfl (x_nc_le (by decide)) ?_
        refine x_aloadB (i := i405) (k4 := 1) rfl l406 (by rw [tb_b78]; decide +kernel) ?_
        refine x_cP (t := 6) (mj := 77) (n := 2) (rc := 8) (ml := 4) (nr := 0) (np := 5) (as := [x_r 1, x_b (i405 + 1)]) (rest := []) (lo1 := [x_r 1, x_b (i405 + 1), 147573952589676412928, 147573952589676412928]) (by decide +kernel) (by decide) (by decide +kernel) (x_rb_of (by decide +kernel)) rfl rfl (x_wr (by decide) (x_wB l406 x_wn)) x_wn (by decide) rfl (c77_1_S0 j6  l406) (fun v407 l408 q409 => ?_)
        obtain ⟨b411, c410⟩ := q409
        have b412 := jB (e := 2) 0 j6 rg_1_2_0_1 (by omega) (by omega)
        refine x_ifz (k := 1) (tg := 10) (np := 8) (by decide +kernel) (by decide) l408 (fun q413 => ?_) (fun q414 => ?_)
        · have q413 : v407 ≠ 2147483648 := q413
          have b415 := c410 (by omega)
          refine x_aload (np := 11) (x := 0) (by decide +kernel) rfl (x_nc_le (by decide)) ?_
          refine x_aload (np := 12) (x := 0) (by decide +kernel) rfl (x_nc_le (by decide)) ?_
          refine x_getC (np := 15) (x := 450) (f := 2) (q := (h5 1 2)) (by decide +kernel) (by decide) (by decide +kernel) rfl (fun l416 => ?_)
          refine x_aloadB (i := i405) (k4 := 1) rfl l406 (by rw [tb_b78]; decide +kernel) ?_
          have b417 := (iv_tl_lt i405 l406).1
          have b418 := iv_tl_ge i405 l406
          refine x_len (by decide +kernel) (by rw [tb_y78]; exact sl_Tl) l406 (by rw [tb_b78]; decide +kernel) (Nat.le_trans (x_wi l416 (x_wr (by decide) x_wn)) (by decide)) ?_
          refine x_iadd (np := 20) (x := 0) (v := ((h5 1 2) + (iv_tl i405))) (by decide +kernel) l416 (by omega) (by omega) (by omega) ?_
          refine x_cV (t := 6) (mj := 80) (n := 2) (rc := 8) (ml := 2) (nr := 0) (np := 23) (as := [x_r 1, iv_c ((h5 1 2) + (iv_tl i405))]) (rest := []) (lo1 := [x_r 1, iv_c ((h5 1 2) + (iv_tl i405))]) (by decide +kernel) (by decide) (by decide +kernel) (x_rb_of (by decide +kernel)) rfl rfl (x_wr (by decide) (x_wi (by omega) x_wn)) x_wn (by decide) rfl (c80_1n j6  (by omega)) (fun h422 q421 => ?_)
          obtain ⟨j423, f424⟩ := q421
          have f427 := Fr.trans f10 f424 (by decide)
          refine x_const (np := 24) (x := 9223372043297226753) (a := 2147483649) (by decide +kernel) (by decide) (by decide) ?_
          refine x_retI (np := 25) (x := 0) (by decide +kernel) (by decide) (Or.inr ⟨by decide +kernel, by omega, by omega⟩) ⟨_, rfl, (by decide), ?_⟩
          refine x_ifz (k := 0) (tg := 60) (np := 47) (by decide +kernel) (by decide) (by decide) (fun q428 => ?_) (fun q429 => ?_)
          · have q428 : 2147483649 = 2147483648 := q428
            exfalso; omega
          have q429 : ¬ (2147483649 = 2147483648) := q429
          refine x_aload (np := 48) (x := 0) (by decide +kernel) rfl (x_nc_le (by decide)) ?_
          have q430 : h422 62 1 = h5 62 1 := f424 62 1 (by decide +kernel)
          have q431 : h5 62 1 = h 62 1 := f7 62 1 (by decide +kernel)
          obtain ⟨r432, q433, t434⟩ : ∃ z, (h 62 1) = z + 11 ∧ tw z := by
            rcases hJ.2.2.2.2.2.2.2 with z | z
            · exact ⟨17, by rw [z], Or.inl rfl⟩
            · exact ⟨31, by rw [z], Or.inr rfl⟩
          refine x_getR (np := 51) (x := 193) (f := 1) (q := (r432 + 11)) (by decide +kernel) (by decide) (by decide +kernel) ((q430.trans q431).trans q433) ?_
          refine x_const (np := 54) (x := 9223376333969556456) (a := 2147484648) (by decide +kernel) (by decide) (by decide) ?_
          refine x_iload (np := 55) (x := 2) (by decide +kernel) rfl (by omega) ?_
          refine x_iadd (np := 56) (x := 0) (v := (1000 + v397)) (by decide +kernel) (by decide) (by omega) (by omega) (by omega) ?_
          refine x_nI (t := 6) (mj := 36) (n := 2) (rc := 3) (ml := 2) (nr := 0) (np := 59) (as := [x_r (r432 + 11), iv_c (1000 + v397)]) (rest := []) (lo1 := [x_r (r432 + 11), iv_c (1000 + v397)]) (by decide +kernel) (by decide) (by decide +kernel) (x_rb_of (tr_11_3 t434)) rfl rfl (x_wr (tn_11 t434) (x_wi (by omega) x_wn)) x_wn (by decide) rfl ?_
          refine x_aload (np := 1) (x := 0) (by decide +kernel) rfl (x_nc_le (tn_11 t434)) ?_
          have q435 : h422 (r432 + 11) 2 = h5 (r432 + 11) 2 := jK 0 f424 (rg_T11_2_0_1 t434) (by omega) (by omega) (by decide)
          have q436 : h5 (r432 + 11) 2 = h (r432 + 11) 2 := jK 0 f7 (rg_T11_2_0_1 t434) (by omega) (by omega) (by decide)
          have b437 := jB (e := 2) 0 hJ (rg_T11_2_0_1 t434) (by omega) (by omega)
          refine x_getC (np := 4) (x := 130) (f := 2) (q := (h (r432 + 11) 2)) (by decide +kernel) (by decide) (tg_11_130_2_0 t434) (q435.trans q436) (fun l438 => ?_)
          refine x_const (np := 7) (x := 9223373756989178256) (a := 2147484048) (by decide +kernel) (by decide) (by decide) ?_
          refine x_icmp (k := 2) (tg := 12) (np := 10) (by decide +kernel) (by decide) l438 (by decide) (fun q439 => ?_) (fun q440 => ?_)
          · have q439 : (h (r432 + 11) 2) < 2147484048 := q439
            refine x_aload (np := 13) (x := 0) (by decide +kernel) rfl (x_nc_le (tn_11 t434)) ?_
            have q441 : h422 (r432 + 11) 0 = (r432 + 12) := tf_11_0 j423 t434
            refine x_getR (np := 16) (x := 128) (f := 0) (q := (r432 + 12)) (by decide +kernel) (by decide) (tg_11_128_0_1 t434) q441 ?_
            refine x_aload (np := 17) (x := 0) (by decide +kernel) rfl (x_nc_le (tn_11 t434)) ?_
            have q442 : h422 (r432 + 11) 2 = h5 (r432 + 11) 2 := jK 0 f424 (rg_T11_2_0_1 t434) (by omega) (by omega) (by decide)
            have q443 : h5 (r432 + 11) 2 = h (r432 + 11) 2 := jK 0 f7 (rg_T11_2_0_1 t434) (by omega) (by omega) (by decide)
            refine x_getC (np := 20) (x := 130) (f := 2) (q := (h (r432 + 11) 2)) (by decide +kernel) (by decide) (tg_11_130_2_0 t434) (q442.trans q443) (fun l444 => ?_)
            refine x_iload (np := 21) (x := 1) (by decide +kernel) rfl (by omega) ?_
            obtain ⟨u445, q446⟩ : ∃ z, (h (r432 + 11) 2) = 2147483648 + z := ⟨(h (r432 + 11) 2) - 2147483648, by omega⟩
            refine x_ast (np := 22) (x := 0) (kd := 1) (n := 400) (i := u445) (by decide +kernel) (Or.inl rfl) (ta_12_400 t434) (by omega) (by omega) (by decide) (by omega) (fun z => absurd z (by decide)) ?_
            have j448 := jU (e := u445) (v := (1000 + v397)) u445 j423 (rg_T12_0_1_400 t434) (by omega) (by omega) (by omega)
            have f450 := jF (e := u445) (v := (1000 + v397)) u445 f427 (rg_T12_0_1_400 t434) (by omega) (by omega) (by decide)
            generalize e449 : x_up h422 (r432 + 12) u445 (1000 + v397) = h447 at j448 f450 ⊢
            refine x_aload (np := 23) (x := 0) (by decide +kernel) rfl (x_nc_le (tn_11 t434)) ?_
            refine x_dup (np := 24) (x := 0) (by decide +kernel) (by have z := x_nc_le (k := (r432 + 11)) (tn_11 t434); unfold x_r; omega) ?_
            have q451 : h447 (r432 + 11) 2 = h422 (r432 + 11) 2 := by rw [← e449]; exact x_up_k tof_11_12
            have q452 : h422 (r432 + 11) 2 = h5 (r432 + 11) 2 := jK 0 f424 (rg_T11_2_0_1 t434) (by omega) (by omega) (by decide)
            have q453 : h5 (r432 + 11) 2 = h (r432 + 11) 2 := jK 0 f7 (rg_T11_2_0_1 t434) (by omega) (by omega) (by decide)
            refine x_getC (np := 27) (x := 130) (f := 2) (q := (h (r432 + 11) 2)) (by decide +kernel) (by decide) (tg_11_130_2_0 t434) ((q451.trans q452).trans q453) (fun l454 => ?_)
            refine x_const (np := 28) (x := 9223372043297226753) (a := 2147483649) (by decide +kernel) (by decide) (by decide) ?_
            refine x_iadd (np := 29) (x := 0) (v := (1 + (h (r432 + 11) 2))) (by decide +kernel) l438 (by decide) (by omega) (by omega) ?_
            refine x_putI (np := 32) (x := 130) (f := 2) (by decide +kernel) (tg_11_130_2_0 t434) (by omega) (Or.inl (by decide)) ?_
            have j456 := jU (e := 2) (v := (1 + (h (r432 + 11) 2))) 0 j448 (rg_T11_2_0_1 t434) (by omega) (by omega) (by omega)
            have f458 := jF (e := 2) (v := (1 + (h (r432 + 11) 2))) 0 f450 (rg_T11_2_0_1 t434) (by omega) (by omega) (by decide)
            generalize e457 : x_up h447 (r432 + 11) 2 (1 + (h (r432 + 11) 2)) = h455 at j456 f458 ⊢
            refine x_const (np := 33) (x := 9223372043297226753) (a := 2147483649) (by decide +kernel) (by decide) (by decide) ?_
            refine x_retI (np := 34) (x := 0) (by decide +kernel) (by decide) (Or.inr ⟨by decide +kernel, by omega, by omega⟩) ⟨_, rfl, (by decide), ?_⟩
            refine x_retI (np := 60) (x := 0) (by decide +kernel) (by decide) (Or.inr ⟨by decide +kernel, by omega, by omega⟩) ⟨_, rfl, (by decide), ?_⟩
            exact ⟨j456, f458, (by omega)⟩
          have q440 : ¬ ((h (r432 + 11) 2) < 2147484048) := q440
          refine x_const (np := 11) (x := 9223372039002259456) (a := 2147483648) (by decide +kernel) (by decide) (by decide) ?_
          refine x_retI (np := 12) (x := 0) (by decide +kernel) (by decide) (Or.inr ⟨by decide +kernel, by omega, by omega⟩) ⟨_, rfl, (by decide), ?_⟩
          refine x_retI (np := 60) (x := 0) (by decide +kernel) (by decide) (Or.inr ⟨by decide +kernel, by omega, by omega⟩) ⟨_, rfl, (by decide), ?_⟩
          exact ⟨j423, f427, (by omega)⟩
        have q414 : ¬ (v407 ≠ 2147483648) := q414
        refine x_const (np := 9) (x := 9223372039002259456) (a := 2147483648) (by decide +kernel) (by decide) (by decide) ?_
        refine x_retI (np := 10) (x := 0) (by decide +kernel) (by decide) (Or.inr ⟨by decide +kernel, by omega, by omega⟩) ⟨_, rfl, (by decide), ?_⟩
        refine x_ifz (k := 0) (tg := 60) (np := 47) (by decide +kernel) (by decide) (by decide) (fun q459 => ?_) (fun q460 => ?_)
        · have q459 : 2147483648 = 2147483648 := q459
          refine x_iinc (np := 63) (i := 2) (j := 2147483649) (v := (1 + v397)) (lo' := [x_r 62, iv_c v2, iv_c (1 + v397)]) (by decide +kernel) (by decide) (by decide) rfl (by omega) (by omega) (by omega) rfl ?_
          refine x_goto (np := 66) (x := 28) (by decide +kernel) ?_
          exact i401 (1 + v397) (by omega) (by omega)
        have q460 : ¬ (2147483648 = 2147483648) := q460
        exfalso; omega
    exact p399 _ 2147483648 (Nat.lt_succ_self _) (by omega)
  have q12 : ¬ (v2 = 2147483647) := q12
  refine x_aload (np := 18) (x := 0) (by decide +kernel) rfl (x_nc_le (by decide)) ?_
  have q461 : h5 62 1 = h 62 1 := f7 62 1 (by decide +kernel)
  obtain ⟨r462, q463, t464⟩ : ∃ z, (h 62 1) = z + 11 ∧ tw z := by
    rcases hJ.2.2.2.2.2.2.2 with z | z
    · exact ⟨17, by rw [z], Or.inl rfl⟩
    · exact ⟨31, by rw [z], Or.inr rfl⟩
  refine x_getR (np := 21) (x := 193) (f := 1) (q := (r462 + 11)) (by decide +kernel) (by decide) (by decide +kernel) (q461.trans q463) ?_
  refine x_iload (np := 22) (x := 1) (by decide +kernel) rfl l3 ?_
  refine x_nI (t := 6) (mj := 36) (n := 2) (rc := 3) (ml := 2) (nr := 0) (np := 25) (as := [x_r (r462 + 11), iv_c v2]) (rest := []) (lo1 := [x_r (r462 + 11), iv_c v2]) (by decide +kernel) (by decide) (by decide +kernel) (x_rb_of (tr_11_3 t464)) rfl rfl (x_wr (tn_11 t464) (x_wi l3 x_wn)) x_wn (by decide) rfl ?_
  refine x_aload (np := 1) (x := 0) (by decide +kernel) rfl (x_nc_le (tn_11 t464)) ?_
  have q465 : h5 (r462 + 11) 2 = h (r462 + 11) 2 := jK 0 f7 (rg_T11_2_0_1 t464) (by omega) (by omega) (by decide)
  have b466 := jB (e := 2) 0 hJ (rg_T11_2_0_1 t464) (by omega) (by omega)
  refine x_getC (np := 4) (x := 130) (f := 2) (q := (h (r462 + 11) 2)) (by decide +kernel) (by decide) (tg_11_130_2_0 t464) q465 (fun l467 => ?_)
  refine x_const (np := 7) (x := 9223373756989178256) (a := 2147484048) (by decide +kernel) (by decide) (by decide) ?_
  refine x_icmp (k := 2) (tg := 12) (np := 10) (by decide +kernel) (by decide) l467 (by decide) (fun q468 => ?_) (fun q469 => ?_)
  · have q468 : (h (r462 + 11) 2) < 2147484048 := q468
    refine x_aload (np := 13) (x := 0) (by decide +kernel) rfl (x_nc_le (tn_11 t464)) ?_
    have q470 : h5 (r462 + 11) 0 = (r462 + 12) := tf_11_0 j6 t464
    refine x_getR (np := 16) (x := 128) (f := 0) (q := (r462 + 12)) (by decide +kernel) (by decide) (tg_11_128_0_1 t464) q470 ?_
    refine x_aload (np := 17) (x := 0) (by decide +kernel) rfl (x_nc_le (tn_11 t464)) ?_
    have q471 : h5 (r462 + 11) 2 = h (r462 + 11) 2 := jK 0 f7 (rg_T11_2_0_1 t464) (by omega) (by omega) (by decide)
    refine x_getC (np := 20) (x := 130) (f := 2) (q := (h (r462 + 11) 2)) (by decide +kernel) (by decide) (tg_11_130_2_0 t464) q471 (fun l472 => ?_)
    refine x_iload (np := 21) (x := 1) (by decide +kernel) rfl l3 ?_
    obtain ⟨u473, q474⟩ : ∃ z, (h (r462 + 11) 2) = 2147483648 + z := ⟨(h (r462 + 11) 2) - 2147483648, by omega⟩
    refine x_ast (np := 22) (x := 0) (kd := 1) (n := 400) (i := u473) (by decide +kernel) (Or.inl rfl) (ta_12_400 t464) (by omega) (by omega) (by decide) l3 (fun z => absurd z (by decide)) ?_
    have j476 := jU (e := u473) (v := v2) u473 j6 (rg_T12_0_1_400 t464) (by omega) (by omega) (by omega)
    have f478 := jF (e := u473) (v := v2) u473 f10 (rg_T12_0_1_400 t464) (by omega) (by omega) (by decide)
    generalize e477 : x_up h5 (r462 + 12) u473 v2 = h475 at j476 f478 ⊢
    refine x_aload (np := 23) (x := 0) (by decide +kernel) rfl (x_nc_le (tn_11 t464)) ?_
    refine x_dup (np := 24) (x := 0) (by decide +kernel) (by have z := x_nc_le (k := (r462 + 11)) (tn_11 t464); unfold x_r; omega) ?_
    have q479 : h475 (r462 + 11) 2 = h5 (r462 + 11) 2 := by rw [← e477]; exact x_up_k tof_11_12
    have q480 : h5 (r462 + 11) 2 = h (r462 + 11) 2 := jK 0 f7 (rg_T11_2_0_1 t464) (by omega) (by omega) (by decide)
    refine x_getC (np := 27) (x := 130) (f := 2) (q := (h (r462 + 11) 2)) (by decide +kernel) (by decide) (tg_11_130_2_0 t464) (q479.trans q480) (fun l481 => ?_)
    refine x_const (np := 28) (x := 9223372043297226753) (a := 2147483649) (by decide +kernel) (by decide) (by decide) ?_
    refine x_iadd (np := 29) (x := 0) (v := (1 + (h (r462 + 11) 2))) (by decide +kernel) l467 (by decide) (by omega) (by omega) ?_
    refine x_putI (np := 32) (x := 130) (f := 2) (by decide +kernel) (tg_11_130_2_0 t464) (by omega) (Or.inl (by decide)) ?_
    have j483 := jU (e := 2) (v := (1 + (h (r462 + 11) 2))) 0 j476 (rg_T11_2_0_1 t464) (by omega) (by omega) (by omega)
    have f485 := jF (e := 2) (v := (1 + (h (r462 + 11) 2))) 0 f478 (rg_T11_2_0_1 t464) (by omega) (by omega) (by decide)
    generalize e484 : x_up h475 (r462 + 11) 2 (1 + (h (r462 + 11) 2)) = h482 at j483 f485 ⊢
    refine x_const (np := 33) (x := 9223372043297226753) (a := 2147483649) (by decide +kernel) (by decide) (by decide) ?_
    refine x_retI (np := 34) (x := 0) (by decide +kernel) (by decide) (Or.inr ⟨by decide +kernel, by omega, by omega⟩) ⟨_, rfl, (by decide), ?_⟩
    refine x_retI (np := 26) (x := 0) (by decide +kernel) (by decide) (Or.inr ⟨by decide +kernel, by omega, by omega⟩) ⟨_, rfl, (by decide), ?_⟩
    exact ⟨j483, f485, (by omega)⟩
  have q469 : ¬ ((h (r462 + 11) 2) < 2147484048) := q469
  refine x_const (np := 11) (x := 9223372039002259456) (a := 2147483648) (by decide +kernel) (by decide) (by decide) ?_
  refine x_retI (np := 12) (x := 0) (by decide +kernel) (by decide) (Or.inr ⟨by decide +kernel, by omega, by omega⟩) ⟨_, rfl, (by decide), ?_⟩
  refine x_retI (np := 26) (x := 0) (by decide +kernel) (by decide) (Or.inr ⟨by decide +kernel, by omega, by omega⟩) ⟨_, rfl, (by decide), ?_⟩
  exact ⟨j6, f10, (by omega)⟩
set_option maxHeartbeats 0 in
/-- LentNames$CustomReader.readSum()Z -/
theorem c49_62 {sc : Nat × Nat} {d  : Nat} {h : xh} (hJ : J h) : X sc 49 (d + 7) (xI fun r h' => J h' ∧ Fr 161 h h' ∧ (2147483648 ≤ r ∧ r ≤ 2147483649)) 0 0 0 [x_r 62, 147573952589676412928] [] h := by
  have hF := Fr.refl 161 h
  refine x_aload (np := 1) (x := 0) (by decide +kernel) rfl (x_nc_le (by decide)) ?_
  refine x_cI (t := 6) (mj := 50) (n := 1) (rc := 4) (ml := 3) (nr := 0) (np := 4) (as := [x_r 62]) (rest := []) (lo1 := [x_r 62, 147573952589676412928, 147573952589676412928]) (by decide +kernel) (by decide) (by decide +kernel) (x_rb_of (by decide +kernel)) rfl rfl (x_wr (by decide) x_wn) x_wn (by decide) rfl (c50_62 hJ ) (fun v1 h4 l2 q3 => ?_)
  obtain ⟨j5, f6, b7⟩ := q3
  have f8 := Fr.trans hF f6 (by decide)
  refine x_ifz (k := 1) (tg := 9) (np := 7) (by decide +kernel) (by decide) l2 (fun q9 => ?_) (fun q10 => ?_)
  · have q9 : v1 ≠ 2147483648 := q9
    refine x_const (np := 10) (x := 9223372039002259456) (a := 2147483648) (by decide +kernel) (by decide) (by decide) ?_
    refine x_istore (np := 11) (x := 1) (lo' := [x_r 62, iv_c 2147483648]) (by decide +kernel) (by decide) (Nat.le_of_ble_eq_true rfl) rfl ?_
    have p2103 : ∀ (n : Nat) (v2098 : Nat) (h2100 : xh), 4294967296 - v2098 < n → (2147483648 ≤ v2098 ∧ v2098 ≤ 2147484048) → J h2100 → Fr 161 h4 h2100 → X sc 49 (d + 7) (xI fun r h' => J h' ∧ Fr 161 h h' ∧ (2147483648 ≤ r ∧ r ≤ 2147483649)) 0 0 11 [x_r 62, iv_c v2098] [] h2100 := by
      intro n
      induction n with
      | zero => intro v2098 h2100 q2104; exact absurd q2104 (Nat.not_lt_zero _)
      | succ n i2105 =>
        intro v2098 h2100 q2104 b2099 j2102 f2101
        have f2106 := Fr.trans f8 f2101 (by decide)
        refine x_iload (np := 12) (x := 1) (by decide +kernel) rfl (by omega) ?_
        refine x_const (np := 15) (x := 9223373756989178256) (a := 2147484048) (by decide +kernel) (by decide) (by decide) ?_
        refine x_icmp (k := 3) (tg := 58) (np := 18) (by decide +kernel) (by decide) (by omega) (by decide) (fun q2107 => ?_) (fun q2108 => ?_)
        · have q2107 : 2147484048 ≤ v2098 := q2107
          refine x_const (np := 59) (x := 9223372043297226753) (a := 2147483649) (by decide +kernel) (by decide) (by decide) ?_
          refine x_retI (np := 60) (x := 0) (by decide +kernel) (by decide) (Or.inr ⟨by decide +kernel, by omega, by omega⟩) ⟨_, rfl, (by decide), ?_⟩
          exact ⟨j2102, f2106, (by omega)⟩
        have q2108 : ¬ (2147484048 ≤ v2098) := q2108
        refine x_aload (np := 19) (x := 0) (by decide +kernel) rfl (x_nc_le (by decide)) ?_
        have q2109 : h2100 62 0 = 1 := by have z := jB (e := 0) 0 j2102 rg_62_0_0_1 (by decide) (by decide); omega
        refine x_getR (np := 22) (x := 192) (f := 0) (q := 1) (by decide +kernel) (by decide) (by decide +kernel) q2109 ?_
        refine x_const (np := 24) (x := 9223372223685853227) (a := 2147483691) (by decide +kernel) (by decide) (by decide) ?_
        refine x_nI (t := 6) (mj := 76) (n := 2) (rc := 8) (ml := 2) (nr := 0) (np := 27) (as := [x_r 1, iv_c 2147483691]) (rest := []) (lo1 := [x_r 1, iv_c 2147483691]) (by decide +kernel) (by decide) (by decide +kernel) (x_rb_of (by decide +kernel)) rfl rfl (x_wr (by decide) (x_wi (by decide) x_wn)) x_wn (by decide) rfl ?_
        refine x_aload (np := 1) (x := 0) (by decide +kernel) rfl (x_nc_le (by decide)) ?_
        refine x_iload (np := 2) (x := 1) (by decide +kernel) rfl (by decide) ?_
        refine x_nI (t := 6) (mj := 75) (n := 2) (rc := 8) (ml := 2) (nr := 0) (np := 5) (as := [x_r 1, iv_c 2147483691]) (rest := []) (lo1 := [x_r 1, iv_c 2147483691]) (by decide +kernel) (by decide) (by decide +kernel) (x_rb_of (by decide +kernel)) rfl rfl (x_wr (by decide) (x_wi (by decide) x_wn)) x_wn (by decide) rfl ?_
        refine x_aload (np := 1) (x := 0) (by decide +kernel) rfl (x_nc_le (by decide)) ?_
        refine x_aload (np := 2) (x := 0) (by decide +kernel) rfl (x_nc_le (by decide)) ?_
        have b2110 := jB (e := 2) 0 j2102 rg_1_2_0_1 (by omega) (by omega)
        refine x_getC (np := 5) (x := 450) (f := 2) (q := (h2100 1 2)) (by decide +kernel) (by decide) (by decide +kernel) rfl (fun l2111 => ?_)
        refine x_nI (t := 6) (mj := 81) (n := 2) (rc := 8) (ml := 2) (nr := 0) (np := 8) (as := [x_r 1, iv_c (h2100 1 2)]) (rest := []) (lo1 := [x_r 1, iv_c (h2100 1 2)]) (by decide +kernel) (by decide) (by decide +kernel) (x_rb_of (by decide +kernel)) rfl rfl (x_wr (by decide) (x_wi l2111 x_wn)) x_wn (by decide) rfl ?_
        refine x_iload (np := 1) (x := 1) (by decide +kernel) rfl l2111 ?_
        refine x_aload (np := 2) (x := 0) (by decide +kernel) rfl (x_nc_le (by decide)) ?_
        have q2112 : h2100 1 1 = h4 1 1 := jK 0 f2101 rg_1_1_0_1 (by omega) (by omega) (by decide)
        have q2113 : h4 1 1 = h 1 1 := jK 0 f6 rg_1_1_0_1 (by omega) (by omega) (by decide)
        have b2114 := jB (e := 1) 0 hJ rg_1_1_0_1 (by omega) (by omega)
        refine x_getC (np := 5) (x := 449) (f := 1) (q := (h 1 1)) (by decide +kernel) (by decide) (by decide +kernel) (q2112.trans q2113) (fun l2115 => ?_)
        refine x_icmp (k := 3) (tg := 17) (np := 8) (by decide +kernel) (by decide) l2111 l2115 (fun q2116 => ?_) (fun q2117 => ?_)
        · have q2116 : (h 1 1) ≤ (h2100 1 2) := q2116
          refine x_const (np := 18) (x := 9223372034707292159) (a := 2147483647) (by decide +kernel) (by decide) (by decide) ?_
          refine x_retI (np := 19) (x := 0) (by decide +kernel) (by decide) (Or.inl (by decide +kernel)) ⟨_, rfl, (by decide), ?_⟩
          refine x_iload (np := 9) (x := 1) (by decide +kernel) rfl (by decide) ?_
          refine x_icmp (k := 1) (tg := 16) (np := 12) (by decide +kernel) (by decide) (by decide) (by decide) (fun q2118 => ?_) (fun q2119 => ?_)
          · have q2118 : 2147483647 ≠ 2147483691 := q2118
            refine x_const (np := 17) (x := 9223372039002259456) (a := 2147483648) (by decide +kernel) (by decide) (by decide) ?_
            refine x_retI (np := 18) (x := 0) (by decide +kernel) (by decide) (Or.inr ⟨by decide +kernel, by omega, by omega⟩) ⟨_, rfl, (by decide), ?_⟩
            refine x_ifz (k := 1) (tg := 10) (np := 8) (by decide +kernel) (by decide) (by decide) (fun q2120 => ?_) (fun q2121 => ?_)
            · have q2120 : 2147483648 ≠ 2147483648 := q2120
              exfalso; omega
            have q2121 : ¬ (2147483648 ≠ 2147483648) := q2121
            refine x_const (np := 9) (x := 9223372039002259456) (a := 2147483648) (by decide +kernel) (by decide) (by decide) ?_
            refine x_retI (np := 10) (x := 0) (by decide +kernel) (by decide) (Or.inr ⟨by decide +kernel, by omega, by omega⟩) ⟨_, rfl, (by decide), ?_⟩
            refine x_ifz (k := 0) (tg := 58) (np := 30) (by decide +kernel) (by decide) (by decide) (fun q2122 => ?_) (fun q2123 => ?_)
            · have q2122 : 2147483648 = 2147483648 := q2122
              refine x_const (np := 59) (x := 9223372043297226753) (a := 2147483649) (by decide +kernel) (by decide) (by decide) ?_
              refine x_retI (np := 60) (x := 0) (by decide +kernel) (by decide) (Or.inr ⟨by decide +kernel, by omega, by omega⟩) ⟨_, rfl, (by decide), ?_⟩
              exact ⟨j2102, f2106, (by omega)⟩
            have q2123 : ¬ (2147483648 = 2147483648) := q2123
            exfalso; omega
          have q2119 : ¬ (2147483647 ≠ 2147483691) := q2119
          exfalso; omega
        have q2117 : ¬ ((h 1 1) ≤ (h2100 1 2)) := q2117
        refine x_aload (np := 9) (x := 0) (by decide +kernel) rfl (x_nc_le (by decide)) ?_
        have q2124 : h2100 1 0 = 2 := by have z := jB (e := 0) 0 j2102 rg_1_0_0_1 (by decide) (by decide); omega
        refine x_getR (np := 12) (x := 448) (f := 0) (q := 2) (by decide +kernel) (by decide) (by decide +kernel) q2124 ?_
        refine x_iload (np := 13) (x := 1) (by decide +kernel) rfl l2111 ?_
        obtain ⟨u2125, q2126⟩ : ∃ z, (h2100 1 2) = 2147483648 + z := ⟨(h2100 1 2) - 2147483648, by omega⟩
        have q2127 : h2100 2 u2125 = h4 2 u2125 := jK u2125 f2101 rg_2_0_1_400 (by omega) (by omega) (by decide)
        have q2128 : h4 2 u2125 = h 2 u2125 := jK u2125 f6 rg_2_0_1_400 (by omega) (by omega) (by decide)
        refine x_aldC (np := 14) (x := 0) (n := 400) (i := u2125) (q := (h 2 u2125)) (by decide +kernel) (by decide +kernel) (by omega) (by omega) (by decide) (q2127.trans q2128) (fun l2129 => ?_)
        refine x_goto (np := 17) (x := 18) (by decide +kernel) ?_
        refine x_retI (np := 19) (x := 0) (by decide +kernel) l2129 (Or.inl (by decide +kernel)) ⟨_, rfl, l2129, ?_⟩
        refine x_iload (np := 9) (x := 1) (by decide +kernel) rfl (by decide) ?_
        refine x_icmp (k := 1) (tg := 16) (np := 12) (by decide +kernel) (by decide) l2129 (by decide) (fun q2130 => ?_) (fun q2131 => ?_)
        · have q2130 : (h 2 u2125) ≠ 2147483691 := q2130
          refine x_const (np := 17) (x := 9223372039002259456) (a := 2147483648) (by decide +kernel) (by decide) (by decide) ?_
          refine x_retI (np := 18) (x := 0) (by decide +kernel) (by decide) (Or.inr ⟨by decide +kernel, by omega, by omega⟩) ⟨_, rfl, (by decide), ?_⟩
          refine x_ifz (k := 1) (tg := 10) (np := 8) (by decide +kernel) (by decide) (by decide) (fun q2132 => ?_) (fun q2133 => ?_)
          · have q2132 : 2147483648 ≠ 2147483648 := q2132
            exfalso; omega
          have q2133 : ¬ (2147483648 ≠ 2147483648) := q2133
          refine x_const (np := 9) (x := 9223372039002259456) (a := 2147483648) (by decide +kernel) (by decide) (by decide) ?_
          refine x_retI (np := 10) (x := 0) (by decide +kernel) (by decide) (Or.inr ⟨by decide +kernel, by omega, by omega⟩) ⟨_, rfl, (by decide), ?_⟩
          refine x_ifz (k := 0) (tg := 58) (np := 30) (by decide +kernel) (by decide) (by decide) (fun q2134 => ?_) (fun q2135 => ?_)
          · have q2134 : 2147483648 = 2147483648 := q2134
            refine x_const (np := 59) (x := 9223372043297226753) (a := 2147483649) (by decide +kernel) (by decide) (by decide) ?_
            refine x_retI (np := 60) (x := 0) (by decide +kernel) (by decide) (Or.inr ⟨by decide +kernel, by omega, by omega⟩) ⟨_, rfl, (by decide), ?_⟩
            exact ⟨j2102, f2106, (by omega)⟩
          have q2135 : ¬ (2147483648 = 2147483648) := q2135
          exfalso; omega
        have q2131 : ¬ ((h 2 u2125) ≠ 2147483691) := q2131
        refine x_const (np := 13) (x := 9223372043297226753) (a := 2147483649) (by decide +kernel) (by decide) (by decide) ?_
        refine x_goto (np := 16) (x := 17) (by decide +kernel) ?_
        refine x_retI (np := 18) (x := 0) (by decide +kernel) (by decide) (Or.inr ⟨by decide +kernel, by omega, by omega⟩) ⟨_, rfl, (by decide), ?_⟩
        refine x_ifz (k := 1) (tg := 10) (np := 8) (by decide +kernel) (by decide) (by decide) (fun q2136 => ?_) (fun q2137 => ?_)
        · have q2136 : 2147483649 ≠ 2147483648 := q2136
          refine x_aload (np := 11) (x := 0) (by decide +kernel) rfl (x_nc_le (by decide)) ?_
          refine x_aload (np := 12) (x := 0) (by decide +kernel) rfl (x_nc_le (by decide)) ?_
          refine x_getC (np := 15) (x := 450) (f := 2) (q := (h2100 1 2)) (by decide +kernel) (by decide) (by decide +kernel) rfl (fun l2138 => ?_)
          refine x_const (np := 16) (x := 9223372043297226753) (a := 2147483649) (by decide +kernel) (by decide) (by decide) ?_
          refine x_iadd (np := 17) (x := 0) (v := (1 + (h2100 1 2))) (by decide +kernel) l2111 (by decide) (by omega) (by omega) ?_
          refine x_cV (t := 6) (mj := 80) (n := 2) (rc := 8) (ml := 2) (nr := 0) (np := 20) (as := [x_r 1, iv_c (1 + (h2100 1 2))]) (rest := []) (lo1 := [x_r 1, iv_c (1 + (h2100 1 2))]) (by decide +kernel) (by decide) (by decide +kernel) (x_rb_of (by decide +kernel)) rfl rfl (x_wr (by decide) (x_wi (by omega) x_wn)) x_wn (by decide) rfl (c80_1n j2102  (by omega)) (fun h2142 q2141 => ?_)
          obtain ⟨j2143, f2144⟩ := q2141
          have f2147 := Fr.trans f2106 f2144 (by decide)
          have f2148 := Fr.trans f2101 f2144 (by decide)
          refine x_const (np := 21) (x := 9223372043297226753) (a := 2147483649) (by decide +kernel) (by decide) (by decide) ?_
          refine x_retI (np := 22) (x := 0) (by decide +kernel) (by decide) (Or.inr ⟨by decide +kernel, by omega, by omega⟩) ⟨_, rfl, (by decide), ?_⟩
          refine x_ifz (k := 0) (tg := 58) (np := 30) (by decide +kernel) (by decide) (by decide) (fun q2149 => ?_) (fun q2150 => ?_)
          · have q2149 : 2147483649 = 2147483648 := q2149
            exfalso; omega
          have q2150 : ¬ (2147483649 = 2147483648) := q2150
          refine x_aload (np := 31) (x := 0) (by decide +kernel) rfl (x_nc_le (by decide)) ?_
          refine x_cI (t := 6) (mj := 50) (n := 1) (rc := 4) (ml := 3) (nr := 0) (np := 34) (as := [x_r 62]) (rest := []) (lo1 := [x_r 62, 147573952589676412928, 147573952589676412928]) (by decide +kernel) (by decide) (by decide +kernel) (x_rb_of (by decide +kernel)) rfl rfl (x_wr (by decide) x_wn) x_wn (by decide) rfl (c50_62 j2143 ) (fun v2151 h2154 l2152 q2153 => ?_)
          obtain ⟨j2155, f2156, b2157⟩ := q2153
          have f2158 := Fr.trans f2147 f2156 (by decide)
          have f2159 := Fr.trans f2148 f2156 (by decide)
          refine x_ifz (k := 0) (tg := 50) (np := 37) (by decide +kernel) (by decide) l2152 (fun q2160 => ?_) (fun q2161 => ?_)
          · have q2160 : v2151 = 2147483648 := q2160
            refine x_const (np := 51) (x := 9223372039002259456) (a := 2147483648) (by decide +kernel) (by decide) (by decide) ?_
            refine x_retI (np := 52) (x := 0) (by decide +kernel) (by decide) (Or.inr ⟨by decide +kernel, by omega, by omega⟩) ⟨_, rfl, (by decide), ?_⟩
            exact ⟨j2155, f2158, (by omega)⟩
          have q2161 : ¬ (v2151 = 2147483648) := q2161
          refine x_aload (np := 38) (x := 0) (by decide +kernel) rfl (x_nc_le (by decide)) ?_
          have q2162 : h2154 62 1 = h2142 62 1 := f2156 62 1 (by decide +kernel)
          have q2163 : h2142 62 1 = h2100 62 1 := f2144 62 1 (by decide +kernel)
          have q2164 : h2100 62 1 = h4 62 1 := f2101 62 1 (by decide +kernel)
          have q2165 : h4 62 1 = h 62 1 := f6 62 1 (by decide +kernel)
          obtain ⟨r2166, q2167, t2168⟩ : ∃ z, (h 62 1) = z + 11 ∧ tw z := by
            rcases hJ.2.2.2.2.2.2.2 with z | z
            · exact ⟨17, by rw [z], Or.inl rfl⟩
            · exact ⟨31, by rw [z], Or.inr rfl⟩
          refine x_getR (np := 41) (x := 193) (f := 1) (q := (r2166 + 11)) (by decide +kernel) (by decide) (by decide +kernel) ((((q2162.trans q2163).trans q2164).trans q2165).trans q2167) ?_
          refine x_const (np := 44) (x := 9223380628936853456) (a := 2147485648) (by decide +kernel) (by decide) (by decide) ?_
          refine x_nI (t := 6) (mj := 36) (n := 2) (rc := 3) (ml := 2) (nr := 0) (np := 47) (as := [x_r (r2166 + 11), iv_c 2147485648]) (rest := []) (lo1 := [x_r (r2166 + 11), iv_c 2147485648]) (by decide +kernel) (by decide) (by decide +kernel) (x_rb_of (tr_11_3 t2168)) rfl rfl (x_wr (tn_11 t2168) (x_wi (by decide) x_wn)) x_wn (by decide) rfl ?_
          refine x_aload (np := 1) (x := 0) (by decide +kernel) rfl (x_nc_le (tn_11 t2168)) ?_
          have b2169 := jB (e := 2) 0 j2155 (rg_T11_2_0_1 t2168) (by omega) (by omega)
          refine x_getC (np := 4) (x := 130) (f := 2) (q := (h2154 (r2166 + 11) 2)) (by decide +kernel) (by decide) (tg_11_130_2_0 t2168) rfl (fun l2170 => ?_)
          refine x_const (np := 7) (x := 9223373756989178256) (a := 2147484048) (by decide +kernel) (by decide) (by decide) ?_
          refine x_icmp (k := 2) (tg := 12) (np := 10) (by decide +kernel) (by decide) l2170 (by decide) (fun q2171 => ?_) (fun q2172 => ?_)
          · have q2171 : (h2154 (r2166 + 11) 2) < 2147484048 := q2171
            refine x_aload (np := 13) (x := 0) (by decide +kernel) rfl (x_nc_le (tn_11 t2168)) ?_
            have q2173 : h2154 (r2166 + 11) 0 = (r2166 + 12) := tf_11_0 j2155 t2168
            refine x_getR (np := 16) (x := 128) (f := 0) (q := (r2166 + 12)) (by decide +kernel) (by decide) (tg_11_128_0_1 t2168) q2173 ?_
            refine x_aload (np := 17) (x := 0) (by decide +kernel) rfl (x_nc_le (tn_11 t2168)) ?_
            refine x_getC (np := 20) (x := 130) (f := 2) (q := (h2154 (r2166 + 11) 2)) (by decide +kernel) (by decide) (tg_11_130_2_0 t2168) rfl (fun l2174 => ?_)
            refine x_iload (np := 21) (x := 1) (by decide +kernel) rfl (by decide) ?_
            obtain ⟨u2175, q2176⟩ : ∃ z, (h2154 (r2166 + 11) 2) = 2147483648 + z := ⟨(h2154 (r2166 + 11) 2) - 2147483648, by omega⟩
            refine x_ast (np := 22) (x := 0) (kd := 1) (n := 400) (i := u2175) (by decide +kernel) (Or.inl rfl) (ta_12_400 t2168) (by omega) (by omega) (by decide) (by decide) (fun z => absurd z (by decide)) ?_
            have j2178 := jU (e := u2175) (v := 2147485648) u2175 j2155 (rg_T12_0_1_400 t2168) (by omega) (by omega) (by omega)
            have f2180 := jF (e := u2175) (v := 2147485648) u2175 f2158 (rg_T12_0_1_400 t2168) (by omega) (by omega) (by decide)
            have f2181 := jF (e := u2175) (v := 2147485648) u2175 f2159 (rg_T12_0_1_400 t2168) (by omega) (by omega) (by decide)
            generalize e2179 : x_up h2154 (r2166 + 12) u2175 2147485648 = h2177 at j2178 f2180 f2181 ⊢
            refine x_aload (np := 23) (x := 0) (by decide +kernel) rfl (x_nc_le (tn_11 t2168)) ?_
            refine x_dup (np := 24) (x := 0) (by decide +kernel) (by have z := x_nc_le (k := (r2166 + 11)) (tn_11 t2168); unfold x_r; omega) ?_
            have q2182 : h2177 (r2166 + 11) 2 = h2154 (r2166 + 11) 2 := by rw [← e2179]; exact x_up_k tof_11_12
            refine x_getC (np := 27) (x := 130) (f := 2) (q := (h2154 (r2166 + 11) 2)) (by decide +kernel) (by decide) (tg_11_130_2_0 t2168) q2182 (fun l2183 => ?_)
            refine x_const (np := 28) (x := 9223372043297226753) (a := 2147483649) (by decide +kernel) (by decide) (by decide) ?_
            refine x_iadd (np := 29) (x := 0) (v := (1 + (h2154 (r2166 + 11) 2))) (by decide +kernel) l2170 (by decide) (by omega) (by omega) ?_
            refine x_putI (np := 32) (x := 130) (f := 2) (by decide +kernel) (tg_11_130_2_0 t2168) (by omega) (Or.inl (by decide)) ?_
            have j2185 := jU (e := 2) (v := (1 + (h2154 (r2166 + 11) 2))) 0 j2178 (rg_T11_2_0_1 t2168) (by omega) (by omega) (by omega)
            have f2187 := jF (e := 2) (v := (1 + (h2154 (r2166 + 11) 2))) 0 f2180 (rg_T11_2_0_1 t2168) (by omega) (by omega) (by decide)
            have f2188 := jF (e := 2) (v := (1 + (h2154 (r2166 + 11) 2))) 0 f2181 (rg_T11_2_0_1 t2168) (by omega) (by omega) (by decide)
            generalize e2186 : x_up h2177 (r2166 + 11) 2 (1 + (h2154 (r2166 + 11) 2)) = h2184 at j2185 f2187 f2188 ⊢
            refine x_const (np := 33) (x := 9223372043297226753) (a := 2147483649) (by decide +kernel) (by decide) (by decide) ?_
            refine x_retI (np := 34) (x := 0) (by decide +kernel) (by decide) (Or.inr ⟨by decide +kernel, by omega, by omega⟩) ⟨_, rfl, (by decide), ?_⟩
            refine x_ifz (k := 1) (tg := 52) (np := 50) (by decide +kernel) (by decide) (by decide) (fun q2189 => ?_) (fun q2190 => ?_)
            · have q2189 : 2147483649 ≠ 2147483648 := q2189
              refine x_iinc (np := 55) (i := 1) (j := 2147483649) (v := (1 + v2098)) (lo' := [x_r 62, iv_c (1 + v2098)]) (by decide +kernel) (by decide) (by decide) rfl (by omega) (by omega) (by omega) rfl ?_
              refine x_goto (np := 58) (x := 11) (by decide +kernel) ?_
              exact i2105 (1 + v2098) h2184 (by omega) (by omega) j2185 f2188
            have q2190 : ¬ (2147483649 ≠ 2147483648) := q2190
            exfalso; omega
          have q2172 : ¬ ((h2154 (r2166 + 11) 2) < 2147484048) := q2172
          refine x_const (np := 11) (x := 9223372039002259456) (a := 2147483648) (by decide +kernel) (by decide) (by decide) ?_
          refine x_retI (np := 12) (x := 0) (by decide +kernel) (by decide) (Or.inr ⟨by decide +kernel, by omega, by omega⟩) ⟨_, rfl, (by decide), ?_⟩
          refine x_ifz (k := 1) (tg := 52) (np := 50) (by decide +kernel) (by decide) (by decide) (fun q2191 => ?_) (fun q2192 => ?_)
          · have q2191 : 2147483648 ≠ 2147483648 := q2191
            exfalso; omega
          have q2192 : ¬ (2147483648 ≠ 2147483648) := q2192
          refine x_const (np := 51) (x := 9223372039002259456) (a := 2147483648) (by decide +kernel) (by decide) (by decide) ?_
          refine x_retI (np := 52) (x := 0) (by decide +kernel) (by decide) (Or.inr ⟨by decide +kernel, by omega, by omega⟩) ⟨_, rfl, (by decide), ?_⟩
          exact ⟨j2155, f2158, (by omega)⟩
        have q2137 : ¬ (2147483649 ≠ 2147483648) := q2137
        exfalso; omega
    exact p2103 _ 2147483648 h4 (Nat.lt_succ_self _) (by omega) j5 (Fr.refl _ _)
  have q10 : ¬ (v1 ≠ 2147483648) := q10
  refine x_const (np := 8) (x := 9223372039002259456) (a := 2147483648) (by decide +kernel) (by decide) (by decide) ?_
  refine x_retI (np := 9) (x := 0) (by decide +kernel) (by decide) (Or.inr ⟨by decide +kernel, by omega, by omega⟩) ⟨_, rfl, (by decide), ?_⟩
  exact ⟨j5, f8, (by omega)⟩
set_option maxHeartbeats 0 in
/-- LentNames$CustomReader.readAtom(I)Z -/
theorem c48_62_c6 {sc : Nat × Nat} {d  : Nat} {h : xh} (hJ : J h) : X sc 48 (d + 8) (xI fun r h' => J h' ∧ Fr 161 h h' ∧ (2147483648 ≤ r ∧ r ≤ 2147483649)) 0 0 0 [x_r 62, iv_c 2147483654] [] h := by
  have hF := Fr.refl 161 h
  refine x_aload (np := 1) (x := 0) (by decide +kernel) rfl (x_nc_le (by decide)) ?_
  have q1 : h 62 0 = 1 := by have z := jB (e := 0) 0 hJ rg_62_0_0_1 (by decide) (by decide); omega
  refine x_getR (np := 4) (x := 192) (f := 0) (q := 1) (by decide +kernel) (by decide) (by decide +kernel) q1 ?_
  refine x_ldcB (i := 24) (idx := 71) (tx := "not") (by rw [tb_y48]; exact List.mem_of_getElem? (i := 24) rfl) (by decide) (by rw [tb_b48]; decide +kernel) ?_
  refine x_cP (t := 6) (mj := 77) (n := 2) (rc := 8) (ml := 4) (nr := 0) (np := 9) (as := [x_r 1, x_b (24 + 1)]) (rest := []) (lo1 := [x_r 1, x_b (24 + 1), 147573952589676412928, 147573952589676412928]) (by decide +kernel) (by decide) (by decide +kernel) (x_rb_of (by decide +kernel)) rfl rfl (x_wr (by decide) (x_wB (by decide) x_wn)) x_wn (by decide) rfl (c77_1_S0 hJ  (by decide)) (fun v2 l3 q4 => ?_)
  obtain ⟨b6, c5⟩ := q4
  have b7 := jB (e := 2) 0 hJ rg_1_2_0_1 (by omega) (by omega)
  refine x_ifz (k := 0) (tg := 59) (np := 12) (by decide +kernel) (by decide) l3 (fun q8 => ?_) (fun q9 => ?_)
  · have q8 : v2 = 2147483648 := q8
    refine x_aload (np := 60) (x := 0) (by decide +kernel) rfl (x_nc_le (by decide)) ?_
    have q10 : h 62 0 = 1 := by have z := jB (e := 0) 0 hJ rg_62_0_0_1 (by decide) (by decide); omega
    refine x_getR (np := 63) (x := 192) (f := 0) (q := 1) (by decide +kernel) (by decide) (by decide +kernel) q10 ?_
    refine x_const (np := 65) (x := 9223372210800951336) (a := 2147483688) (by decide +kernel) (by decide) (by decide) ?_
    refine x_nI (t := 6) (mj := 75) (n := 2) (rc := 8) (ml := 2) (nr := 0) (np := 68) (as := [x_r 1, iv_c 2147483688]) (rest := []) (lo1 := [x_r 1, iv_c 2147483688]) (by decide +kernel) (by decide) (by decide +kernel) (x_rb_of (by decide +kernel)) rfl rfl (x_wr (by decide) (x_wi (by decide) x_wn)) x_wn (by decide) rfl ?_
    refine x_aload (np := 1) (x := 0) (by decide +kernel) rfl (x_nc_le (by decide)) ?_
    refine x_aload (np := 2) (x := 0) (by decide +kernel) rfl (x_nc_le (by decide)) ?_
    refine x_getC (np := 5) (x := 450) (f := 2) (q := (h 1 2)) (by decide +kernel) (by decide) (by decide +kernel) rfl (fun l11 => ?_)
    refine x_nI (t := 6) (mj := 81) (n := 2) (rc := 8) (ml := 2) (nr := 0) (np := 8) (as := [x_r 1, iv_c (h 1 2)]) (rest := []) (lo1 := [x_r 1, iv_c (h 1 2)]) (by decide +kernel) (by decide) (by decide +kernel) (x_rb_of (by decide +kernel)) rfl rfl (x_wr (by decide) (x_wi l11 x_wn)) x_wn (by decide) rfl ?_
    refine x_iload (np := 1) (x := 1) (by decide +kernel) rfl l11 ?_
    refine x_aload (np := 2) (x := 0) (by decide +kernel) rfl (x_nc_le (by decide)) ?_
    have b12 := jB (e := 1) 0 hJ rg_1_1_0_1 (by omega) (by omega)
    refine x_getC (np := 5) (x := 449) (f := 1) (q := (h 1 1)) (by decide +kernel) (by decide) (by decide +kernel) rfl (fun l13 => ?_)
    refine x_icmp (k := 3) (tg := 17) (np := 8) (by decide +kernel) (by decide) l11 l13 (fun q14 => ?_) (fun q15 => ?_)
    · have q14 : (h 1 1) ≤ (h 1 2) := q14
      refine x_const (np := 18) (x := 9223372034707292159) (a := 2147483647) (by decide +kernel) (by decide) (by decide) ?_
      refine x_retI (np := 19) (x := 0) (by decide +kernel) (by decide) (Or.inl (by decide +kernel)) ⟨_, rfl, (by decide), ?_⟩
      refine x_iload (np := 9) (x := 1) (by decide +kernel) rfl (by decide) ?_
      refine x_icmp (k := 1) (tg := 16) (np := 12) (by decide +kernel) (by decide) (by decide) (by decide) (fun q16 => ?_) (fun q17 => ?_)
      · have q16 : 2147483647 ≠ 2147483688 := q16
        refine x_const (np := 17) (x := 9223372039002259456) (a := 2147483648) (by decide +kernel) (by decide) (by decide) ?_
        refine x_retI (np := 18) (x := 0) (by decide +kernel) (by decide) (Or.inr ⟨by decide +kernel, by omega, by omega⟩) ⟨_, rfl, (by decide), ?_⟩
        refine x_ifz (k := 0) (tg := 117) (np := 71) (by decide +kernel) (by decide) (by decide) (fun q18 => ?_) (fun q19 => ?_)
        · have q18 : 2147483648 = 2147483648 := q18
          refine x_aload (np := 118) (x := 0) (by decide +kernel) rfl (x_nc_le (by decide)) ?_
          have q20 : h 62 0 = 1 := by have z := jB (e := 0) 0 hJ rg_62_0_0_1 (by decide) (by decide); omega
          refine x_getR (np := 121) (x := 192) (f := 0) (q := 1) (by decide +kernel) (by decide) (by decide +kernel) q20 ?_
          refine x_ldcB (i := 25) (idx := 79) (tx := "own") (by rw [tb_y48]; exact List.mem_of_getElem? (i := 25) rfl) (by decide) (by rw [tb_b48]; decide +kernel) ?_
          refine x_nI (t := 6) (mj := 78) (n := 2) (rc := 8) (ml := 2) (nr := 0) (np := 126) (as := [x_r 1, x_b (25 + 1)]) (rest := []) (lo1 := [x_r 1, x_b (25 + 1)]) (by decide +kernel) (by decide) (by decide +kernel) (x_rb_of (by decide +kernel)) rfl rfl (x_wr (by decide) (x_wB (by decide) x_wn)) x_wn (by decide) rfl ?_
          refine x_aload (np := 1) (x := 0) (by decide +kernel) rfl (x_nc_le (by decide)) ?_
          refine x_aloadB (i := 25) (k4 := 1) rfl (by decide) (by rw [tb_b78]; decide +kernel) ?_
          refine x_cP (t := 6) (mj := 77) (n := 2) (rc := 8) (ml := 4) (nr := 0) (np := 5) (as := [x_r 1, x_b (25 + 1)]) (rest := []) (lo1 := [x_r 1, x_b (25 + 1), 147573952589676412928, 147573952589676412928]) (by decide +kernel) (by decide) (by decide +kernel) (x_rb_of (by decide +kernel)) rfl rfl (x_wr (by decide) (x_wB (by decide) x_wn)) x_wn (by decide) rfl (c77_1_S0 hJ  (by decide)) (fun v21 l22 q23 => ?_)
          obtain ⟨b25, c24⟩ := q23
          refine x_ifz (k := 1) (tg := 10) (np := 8) (by decide +kernel) (by decide) l22 (fun q26 => ?_) (fun q27 => ?_)
          · have q26 : v21 ≠ 2147483648 := q26
            have b28 := c24 (by omega)
            refine x_aload (np := 11) (x := 0) (by decide +kernel) rfl (x_nc_le (by decide)) ?_
            refine x_aload (np := 12) (x := 0) (by decide +kernel) rfl (x_nc_le (by decide)) ?_
            refine x_getC (np := 15) (x := 450) (f := 2) (q := (h 1 2)) (by decide +kernel) (by decide) (by decide +kernel) rfl (fun l29 => ?_)
            refine x_aloadB (i := 25) (k4 := 1) rfl (by decide) (by rw [tb_b78]; decide +kernel) ?_
            have b30 := (iv_tl_lt 25 (by decide)).1
            have b31 := iv_tl_ge 25 (by decide)
            refine x_len (by decide +kernel) (by rw [tb_y78]; exact sl_Tl) (by decide) (by rw [tb_b78]; decide +kernel) (Nat.le_trans (x_wi l11 (x_wr (by decide) x_wn)) (by decide)) ?_
            refine x_iadd (np := 20) (x := 0) (v := ((h 1 2) + (iv_tl 25))) (by decide +kernel) l11 (by omega) (by omega) (by omega) ?_
            refine x_cV (t := 6) (mj := 80) (n := 2) (rc := 8) (ml := 2) (nr := 0) (np := 23) (as := [x_r 1, iv_c ((h 1 2) + (iv_tl 25))]) (rest := []) (lo1 := [x_r 1, iv_c ((h 1 2) + (iv_tl 25))]) (by decide +kernel) (by decide) (by decide +kernel) (x_rb_of (by decide +kernel)) rfl rfl (x_wr (by decide) (x_wi (by omega) x_wn)) x_wn (by decide) rfl (c80_1n hJ  (by omega)) (fun h35 q34 => ?_)
            obtain ⟨j36, f37⟩ := q34
            have f40 := Fr.trans hF f37 (by decide)
            refine x_const (np := 24) (x := 9223372043297226753) (a := 2147483649) (by decide +kernel) (by decide) (by decide) ?_
            refine x_retI (np := 25) (x := 0) (by decide +kernel) (by decide) (Or.inr ⟨by decide +kernel, by omega, by omega⟩) ⟨_, rfl, (by decide), ?_⟩
            refine x_ifz (k := 0) (tg := 140) (np := 129) (by decide +kernel) (by decide) (by decide) (fun q41 => ?_) (fun q42 => ?_)
            · have q41 : 2147483649 = 2147483648 := q41
              exfalso; omega
            have q42 : ¬ (2147483649 = 2147483648) := q42
            refine x_aload (np := 130) (x := 0) (by decide +kernel) rfl (x_nc_le (by decide)) ?_
            have q43 : h35 62 1 = h 62 1 := f37 62 1 (by decide +kernel)
            obtain ⟨r44, q45, t46⟩ : ∃ z, (h 62 1) = z + 11 ∧ tw z := by
              rcases hJ.2.2.2.2.2.2.2 with z | z
              · exact ⟨17, by rw [z], Or.inl rfl⟩
              · exact ⟨31, by rw [z], Or.inr rfl⟩
            refine x_getR (np := 133) (x := 193) (f := 1) (q := (r44 + 11)) (by decide +kernel) (by decide) (by decide +kernel) (q43.trans q45) ?_
            refine x_const (np := 136) (x := 9223376359739360238) (a := 2147484654) (by decide +kernel) (by decide) (by decide) ?_
            refine x_nI (t := 6) (mj := 36) (n := 2) (rc := 3) (ml := 2) (nr := 0) (np := 139) (as := [x_r (r44 + 11), iv_c 2147484654]) (rest := []) (lo1 := [x_r (r44 + 11), iv_c 2147484654]) (by decide +kernel) (by decide) (by decide +kernel) (x_rb_of (tr_11_3 t46)) rfl rfl (x_wr (tn_11 t46) (x_wi (by decide) x_wn)) x_wn (by decide) rfl ?_
            refine x_aload (np := 1) (x := 0) (by decide +kernel) rfl (x_nc_le (tn_11 t46)) ?_
            have q47 : h35 (r44 + 11) 2 = h (r44 + 11) 2 := jK 0 f37 (rg_T11_2_0_1 t46) (by omega) (by omega) (by decide)
            have b48 := jB (e := 2) 0 hJ (rg_T11_2_0_1 t46) (by omega) (by omega)
            refine x_getC (np := 4) (x := 130) (f := 2) (q := (h (r44 + 11) 2)) (by decide +kernel) (by decide) (tg_11_130_2_0 t46) q47 (fun l49 => ?_)
            refine x_const (np := 7) (x := 9223373756989178256) (a := 2147484048) (by decide +kernel) (by decide) (by decide) ?_
            refine x_icmp (k := 2) (tg := 12) (np := 10) (by decide +kernel) (by decide) l49 (by decide) (fun q50 => ?_) (fun q51 => ?_)
            · have q50 : (h (r44 + 11) 2) < 2147484048 := q50
              refine x_aload (np := 13) (x := 0) (by decide +kernel) rfl (x_nc_le (tn_11 t46)) ?_
              have q52 : h35 (r44 + 11) 0 = (r44 + 12) := tf_11_0 j36 t46
              refine x_getR (np := 16) (x := 128) (f := 0) (q := (r44 + 12)) (by decide +kernel) (by decide) (tg_11_128_0_1 t46) q52 ?_
              refine x_aload (np := 17) (x := 0) (by decide +kernel) rfl (x_nc_le (tn_11 t46)) ?_
              have q53 : h35 (r44 + 11) 2 = h (r44 + 11) 2 := jK 0 f37 (rg_T11_2_0_1 t46) (by omega) (by omega) (by decide)
              refine x_getC (np := 20) (x := 130) (f := 2) (q := (h (r44 + 11) 2)) (by decide +kernel) (by decide) (tg_11_130_2_0 t46) q53 (fun l54 => ?_)
              refine x_iload (np := 21) (x := 1) (by decide +kernel) rfl (by decide) ?_
              obtain ⟨u55, q56⟩ : ∃ z, (h (r44 + 11) 2) = 2147483648 + z := ⟨(h (r44 + 11) 2) - 2147483648, by omega⟩
              refine x_ast (np := 22) (x := 0) (kd := 1) (n := 400) (i := u55) (by decide +kernel) (Or.inl rfl) (ta_12_400 t46) (by omega) (by omega) (by decide) (by decide) (fun z => absurd z (by decide)) ?_
              have j58 := jU (e := u55) (v := 2147484654) u55 j36 (rg_T12_0_1_400 t46) (by omega) (by omega) (by omega)
              have f60 := jF (e := u55) (v := 2147484654) u55 f40 (rg_T12_0_1_400 t46) (by omega) (by omega) (by decide)
              generalize e59 : x_up h35 (r44 + 12) u55 2147484654 = h57 at j58 f60 ⊢
              refine x_aload (np := 23) (x := 0) (by decide +kernel) rfl (x_nc_le (tn_11 t46)) ?_
              refine x_dup (np := 24) (x := 0) (by decide +kernel) (by have z := x_nc_le (k := (r44 + 11)) (tn_11 t46); unfold x_r; omega) ?_
              have q61 : h57 (r44 + 11) 2 = h35 (r44 + 11) 2 := by rw [← e59]; exact x_up_k tof_11_12
              have q62 : h35 (r44 + 11) 2 = h (r44 + 11) 2 := jK 0 f37 (rg_T11_2_0_1 t46) (by omega) (by omega) (by decide)
              refine x_getC (np := 27) (x := 130) (f := 2) (q := (h (r44 + 11) 2)) (by decide +kernel) (by decide) (tg_11_130_2_0 t46) (q61.trans q62) (fun l63 => ?_)
              refine x_const (np := 28) (x := 9223372043297226753) (a := 2147483649) (by decide +kernel) (by decide) (by decide) ?_
              refine x_iadd (np := 29) (x := 0) (v := (1 + (h (r44 + 11) 2))) (by decide +kernel) l49 (by decide) (by omega) (by omega) ?_
              refine x_putI (np := 32) (x := 130) (f := 2) (by decide +kernel) (tg_11_130_2_0 t46) (by omega) (Or.inl (by decide)) ?_
              have j65 := jU (e := 2) (v := (1 + (h (r44 + 11) 2))) 0 j58 (rg_T11_2_0_1 t46) (by omega) (by omega) (by omega)
              have f67 := jF (e := 2) (v := (1 + (h (r44 + 11) 2))) 0 f60 (rg_T11_2_0_1 t46) (by omega) (by omega) (by decide)
              generalize e66 : x_up h57 (r44 + 11) 2 (1 + (h (r44 + 11) 2)) = h64 at j65 f67 ⊢
              refine x_const (np := 33) (x := 9223372043297226753) (a := 2147483649) (by decide +kernel) (by decide) (by decide) ?_
              refine x_retI (np := 34) (x := 0) (by decide +kernel) (by decide) (Or.inr ⟨by decide +kernel, by omega, by omega⟩) ⟨_, rfl, (by decide), ?_⟩
              refine x_retI (np := 140) (x := 0) (by decide +kernel) (by decide) (Or.inr ⟨by decide +kernel, by omega, by omega⟩) ⟨_, rfl, (by decide), ?_⟩
              exact ⟨j65, f67, (by omega)⟩
            have q51 : ¬ ((h (r44 + 11) 2) < 2147484048) := q51
            refine x_const (np := 11) (x := 9223372039002259456) (a := 2147483648) (by decide +kernel) (by decide) (by decide) ?_
            refine x_retI (np := 12) (x := 0) (by decide +kernel) (by decide) (Or.inr ⟨by decide +kernel, by omega, by omega⟩) ⟨_, rfl, (by decide), ?_⟩
            refine x_retI (np := 140) (x := 0) (by decide +kernel) (by decide) (Or.inr ⟨by decide +kernel, by omega, by omega⟩) ⟨_, rfl, (by decide), ?_⟩
            exact ⟨j36, f40, (by omega)⟩
          have q27 : ¬ (v21 ≠ 2147483648) := q27
          refine x_const (np := 9) (x := 9223372039002259456) (a := 2147483648) (by decide +kernel) (by decide) (by decide) ?_
          refine x_retI (np := 10) (x := 0) (by decide +kernel) (by decide) (Or.inr ⟨by decide +kernel, by omega, by omega⟩) ⟨_, rfl, (by decide), ?_⟩
          refine x_ifz (k := 0) (tg := 140) (np := 129) (by decide +kernel) (by decide) (by decide) (fun q68 => ?_) (fun q69 => ?_)
          · have q68 : 2147483648 = 2147483648 := q68
            refine x_aload (np := 141) (x := 0) (by decide +kernel) rfl (x_nc_le (by decide)) ?_
            have q70 : h 62 0 = 1 := by have z := jB (e := 0) 0 hJ rg_62_0_0_1 (by decide) (by decide); omega
            refine x_getR (np := 144) (x := 192) (f := 0) (q := 1) (by decide +kernel) (by decide) (by decide +kernel) q70 ?_
            refine x_ldcB (i := 26) (idx := 81) (tx := "mine") (by rw [tb_y48]; exact List.mem_of_getElem? (i := 26) rfl) (by decide) (by rw [tb_b48]; decide +kernel) ?_
            refine x_nI (t := 6) (mj := 78) (n := 2) (rc := 8) (ml := 2) (nr := 0) (np := 149) (as := [x_r 1, x_b (26 + 1)]) (rest := []) (lo1 := [x_r 1, x_b (26 + 1)]) (by decide +kernel) (by decide) (by decide +kernel) (x_rb_of (by decide +kernel)) rfl rfl (x_wr (by decide) (x_wB (by decide) x_wn)) x_wn (by decide) rfl ?_
            refine x_aload (np := 1) (x := 0) (by decide +kernel) rfl (x_nc_le (by decide)) ?_
            refine x_aloadB (i := 26) (k4 := 1) rfl (by decide) (by rw [tb_b78]; decide +kernel) ?_
            refine x_cP (t := 6) (mj := 77) (n := 2) (rc := 8) (ml := 4) (nr := 0) (np := 5) (as := [x_r 1, x_b (26 + 1)]) (rest := []) (lo1 := [x_r 1, x_b (26 + 1), 147573952589676412928, 147573952589676412928]) (by decide +kernel) (by decide) (by decide +kernel) (x_rb_of (by decide +kernel)) rfl rfl (x_wr (by decide) (x_wB (by decide) x_wn)) x_wn (by decide) rfl (c77_1_S0 hJ  (by decide)) (fun v71 l72 q73 => ?_)
            obtain ⟨b75, c74⟩ := q73
            refine x_ifz (k := 1) (tg := 10) (np := 8) (by decide +kernel) (by decide) l72 (fun q76 => ?_) (fun q77 => ?_)
            · have q76 : v71 ≠ 2147483648 := q76
              have b78 := c74 (by omega)
              refine x_aload (np := 11) (x := 0) (by decide +kernel) rfl (x_nc_le (by decide)) ?_
              refine x_aload (np := 12) (x := 0) (by decide +kernel) rfl (x_nc_le (by decide)) ?_
              refine x_getC (np := 15) (x := 450) (f := 2) (q := (h 1 2)) (by decide +kernel) (by decide) (by decide +kernel) rfl (fun l79 => ?_)
              refine x_aloadB (i := 26) (k4 := 1) rfl (by decide) (by rw [tb_b78]; decide +kernel) ?_
              have b80 := (iv_tl_lt 26 (by decide)).1
              have b81 := iv_tl_ge 26 (by decide)
              refine x_len (by decide +kernel) (by rw [tb_y78]; exact sl_Tl) (by decide) (by rw [tb_b78]; decide +kernel) (Nat.le_trans (x_wi l11 (x_wr (by decide) x_wn)) (by decide)) ?_
              refine x_iadd (np := 20) (x := 0) (v := ((h 1 2) + (iv_tl 26))) (by decide +kernel) l11 (by omega) (by omega) (by omega) ?_
              refine x_cV (t := 6) (mj := 80) (n := 2) (rc := 8) (ml := 2) (nr := 0) (np := 23) (as := [x_r 1, iv_c ((h 1 2) + (iv_tl 26))]) (rest := []) (lo1 := [x_r 1, iv_c ((h 1 2) + (iv_tl 26))]) (by decide +kernel) (by decide) (by decide +kernel) (x_rb_of (by decide +kernel)) rfl rfl (x_wr (by decide) (x_wi (by omega) x_wn)) x_wn (by decide) rfl (c80_1n hJ  (by omega)) (fun h85 q84 => ?_)
              obtain ⟨j86, f87⟩ := q84
              have f90 := Fr.trans hF f87 (by decide)
              refine x_const (np := 24) (x := 9223372043297226753) (a := 2147483649) (by decide +kernel) (by decide) (by decide) ?_
              refine x_retI (np := 25) (x := 0) (by decide +kernel) (by decide) (Or.inr ⟨by decide +kernel, by omega, by omega⟩) ⟨_, rfl, (by decide), ?_⟩
              refine x_ifz (k := 0) (tg := 163) (np := 152) (by decide +kernel) (by decide) (by decide) (fun q91 => ?_) (fun q92 => ?_)
              · have q91 : 2147483649 = 2147483648 := q91
                exfalso; omega
              have q92 : ¬ (2147483649 = 2147483648) := q92
              refine x_aload (np := 153) (x := 0) (by decide +kernel) rfl (x_nc_le (by decide)) ?_
              have q93 : h85 62 1 = h 62 1 := f87 62 1 (by decide +kernel)
              obtain ⟨r94, q95, t96⟩ : ∃ z, (h 62 1) = z + 11 ∧ tw z := by
                rcases hJ.2.2.2.2.2.2.2 with z | z
                · exact ⟨17, by rw [z], Or.inl rfl⟩
                · exact ⟨31, by rw [z], Or.inr rfl⟩
              refine x_getR (np := 156) (x := 193) (f := 1) (q := (r94 + 11)) (by decide +kernel) (by decide) (by decide +kernel) (q93.trans q95) ?_
              refine x_const (np := 159) (x := 9223376364034327535) (a := 2147484655) (by decide +kernel) (by decide) (by decide) ?_
              refine x_nI (t := 6) (mj := 36) (n := 2) (rc := 3) (ml := 2) (nr := 0) (np := 162) (as := [x_r (r94 + 11), iv_c 2147484655]) (rest := []) (lo1 := [x_r (r94 + 11), iv_c 2147484655]) (by decide +kernel) (by decide) (by decide +kernel) (x_rb_of (tr_11_3 t96)) rfl rfl (x_wr (tn_11 t96) (x_wi (by decide) x_wn)) x_wn (by decide) rfl ?_
              refine x_aload (np := 1) (x := 0) (by decide +kernel) rfl (x_nc_le (tn_11 t96)) ?_
              have q97 : h85 (r94 + 11) 2 = h (r94 + 11) 2 := jK 0 f87 (rg_T11_2_0_1 t96) (by omega) (by omega) (by decide)
              have b98 := jB (e := 2) 0 hJ (rg_T11_2_0_1 t96) (by omega) (by omega)
              refine x_getC (np := 4) (x := 130) (f := 2) (q := (h (r94 + 11) 2)) (by decide +kernel) (by decide) (tg_11_130_2_0 t96) q97 (fun l99 => ?_)
              refine x_const (np := 7) (x := 9223373756989178256) (a := 2147484048) (by decide +kernel) (by decide) (by decide) ?_
              refine x_icmp (k := 2) (tg := 12) (np := 10) (by decide +kernel) (by decide) l99 (by decide) (fun q100 => ?_) (fun q101 => ?_)
              · have q100 : (h (r94 + 11) 2) < 2147484048 := q100
                refine x_aload (np := 13) (x := 0) (by decide +kernel) rfl (x_nc_le (tn_11 t96)) ?_
                have q102 : h85 (r94 + 11) 0 = (r94 + 12) := tf_11_0 j86 t96
                refine x_getR (np := 16) (x := 128) (f := 0) (q := (r94 + 12)) (by decide +kernel) (by decide) (tg_11_128_0_1 t96) q102 ?_
                refine x_aload (np := 17) (x := 0) (by decide +kernel) rfl (x_nc_le (tn_11 t96)) ?_
                have q103 : h85 (r94 + 11) 2 = h (r94 + 11) 2 := jK 0 f87 (rg_T11_2_0_1 t96) (by omega) (by omega) (by decide)
                refine x_getC (np := 20) (x := 130) (f := 2) (q := (h (r94 + 11) 2)) (by decide +kernel) (by decide) (tg_11_130_2_0 t96) q103 (fun l104 => ?_)
                refine x_iload (np := 21) (x := 1) (by decide +kernel) rfl (by decide) ?_
                obtain ⟨u105, q106⟩ : ∃ z, (h (r94 + 11) 2) = 2147483648 + z := ⟨(h (r94 + 11) 2) - 2147483648, by omega⟩
                refine x_ast (np := 22) (x := 0) (kd := 1) (n := 400) (i := u105) (by decide +kernel) (Or.inl rfl) (ta_12_400 t96) (by omega) (by omega) (by decide) (by decide) (fun z => absurd z (by decide)) ?_
                have j108 := jU (e := u105) (v := 2147484655) u105 j86 (rg_T12_0_1_400 t96) (by omega) (by omega) (by omega)
                have f110 := jF (e := u105) (v := 2147484655) u105 f90 (rg_T12_0_1_400 t96) (by omega) (by omega) (by decide)
                generalize e109 : x_up h85 (r94 + 12) u105 2147484655 = h107 at j108 f110 ⊢
                refine x_aload (np := 23) (x := 0) (by decide +kernel) rfl (x_nc_le (tn_11 t96)) ?_
                refine x_dup (np := 24) (x := 0) (by decide +kernel) (by have z := x_nc_le (k := (r94 + 11)) (tn_11 t96); unfold x_r; omega) ?_
                have q111 : h107 (r94 + 11) 2 = h85 (r94 + 11) 2 := by rw [← e109]; exact x_up_k tof_11_12
                have q112 : h85 (r94 + 11) 2 = h (r94 + 11) 2 := jK 0 f87 (rg_T11_2_0_1 t96) (by omega) (by omega) (by decide)
                refine x_getC (np := 27) (x := 130) (f := 2) (q := (h (r94 + 11) 2)) (by decide +kernel) (by decide) (tg_11_130_2_0 t96) (q111.trans q112) (fun l113 => ?_)
                refine x_const (np := 28) (x := 9223372043297226753) (a := 2147483649) (by decide +kernel) (by decide) (by decide) ?_
                refine x_iadd (np := 29) (x := 0) (v := (1 + (h (r94 + 11) 2))) (by decide +kernel) l99 (by decide) (by omega) (by omega) ?_
                refine x_putI (np := 32) (x := 130) (f := 2) (by decide +kernel) (tg_11_130_2_0 t96) (by omega) (Or.inl (by decide)) ?_
                have j115 := jU (e := 2) (v := (1 + (h (r94 + 11) 2))) 0 j108 (rg_T11_2_0_1 t96) (by omega) (by omega) (by omega)
                have f117 := jF (e := 2) (v := (1 + (h (r94 + 11) 2))) 0 f110 (rg_T11_2_0_1 t96) (by omega) (by omega) (by decide)
                generalize e116 : x_up h107 (r94 + 11) 2 (1 + (h (r94 + 11) 2)) = h114 at j115 f117 ⊢
                refine x_const (np := 33) (x := 9223372043297226753) (a := 2147483649) (by decide +kernel) (by decide) (by decide) ?_
                refine x_retI (np := 34) (x := 0) (by decide +kernel) (by decide) (Or.inr ⟨by decide +kernel, by omega, by omega⟩) ⟨_, rfl, (by decide), ?_⟩
                refine x_retI (np := 163) (x := 0) (by decide +kernel) (by decide) (Or.inr ⟨by decide +kernel, by omega, by omega⟩) ⟨_, rfl, (by decide), ?_⟩
                exact ⟨j115, f117, (by omega)⟩
              have q101 : ¬ ((h (r94 + 11) 2) < 2147484048) := q101
              refine x_const (np := 11) (x := 9223372039002259456) (a := 2147483648) (by decide +kernel) (by decide) (by decide) ?_
              refine x_retI (np := 12) (x := 0) (by decide +kernel) (by decide) (Or.inr ⟨by decide +kernel, by omega, by omega⟩) ⟨_, rfl, (by decide), ?_⟩
              refine x_retI (np := 163) (x := 0) (by decide +kernel) (by decide) (Or.inr ⟨by decide +kernel, by omega, by omega⟩) ⟨_, rfl, (by decide), ?_⟩
              exact ⟨j86, f90, (by omega)⟩
            have q77 : ¬ (v71 ≠ 2147483648) := q77
            refine x_const (np := 9) (x := 9223372039002259456) (a := 2147483648) (by decide +kernel) (by decide) (by decide) ?_
            refine x_retI (np := 10) (x := 0) (by decide +kernel) (by decide) (Or.inr ⟨by decide +kernel, by omega, by omega⟩) ⟨_, rfl, (by decide), ?_⟩
            refine x_ifz (k := 0) (tg := 163) (np := 152) (by decide +kernel) (by decide) (by decide) (fun q118 => ?_) (fun q119 => ?_)
            · have q118 : 2147483648 = 2147483648 := q118
              refine x_aload (np := 164) (x := 0) (by decide +kernel) rfl (x_nc_le (by decide)) ?_
              refine x_cI (t := 6) (mj := 49) (n := 1) (rc := 4) (ml := 2) (nr := 0) (np := 167) (as := [x_r 62]) (rest := []) (lo1 := [x_r 62, 147573952589676412928]) (by decide +kernel) (by decide) (by decide +kernel) (x_rb_of (by decide +kernel)) rfl rfl (x_wr (by decide) x_wn) x_wn (by decide) rfl (c49_62 hJ ) (fun v120 h123 l121 q122 => ?_)
              obtain ⟨j124, f125, b126⟩ := q122
              have f127 := Fr.trans hF f125 (by decide)
              refine x_ifz (k := 1) (tg := 172) (np := 170) (by decide +kernel) (by decide) l121 (fun q128 => ?_) (fun q129 => ?_)
              · have q128 : v120 ≠ 2147483648 := q128
                refine x_aload (np := 173) (x := 0) (by decide +kernel) rfl (x_nc_le (by decide)) ?_
                have q130 : h123 62 0 = 1 := by have z := jB (e := 0) 0 j124 rg_62_0_0_1 (by decide) (by decide); omega
                refine x_getR (np := 176) (x := 192) (f := 0) (q := 1) (by decide +kernel) (by decide) (by decide +kernel) q130 ?_
                refine x_const (np := 178) (x := 9223372296700297276) (a := 2147483708) (by decide +kernel) (by decide) (by decide) ?_
                refine x_nI (t := 6) (mj := 76) (n := 2) (rc := 8) (ml := 2) (nr := 0) (np := 181) (as := [x_r 1, iv_c 2147483708]) (rest := []) (lo1 := [x_r 1, iv_c 2147483708]) (by decide +kernel) (by decide) (by decide +kernel) (x_rb_of (by decide +kernel)) rfl rfl (x_wr (by decide) (x_wi (by decide) x_wn)) x_wn (by decide) rfl ?_
                refine x_aload (np := 1) (x := 0) (by decide +kernel) rfl (x_nc_le (by decide)) ?_
                refine x_iload (np := 2) (x := 1) (by decide +kernel) rfl (by decide) ?_
                refine x_nI (t := 6) (mj := 75) (n := 2) (rc := 8) (ml := 2) (nr := 0) (np := 5) (as := [x_r 1, iv_c 2147483708]) (rest := []) (lo1 := [x_r 1, iv_c 2147483708]) (by decide +kernel) (by decide) (by decide +kernel) (x_rb_of (by decide +kernel)) rfl rfl (x_wr (by decide) (x_wi (by decide) x_wn)) x_wn (by decide) rfl ?_
                refine x_aload (np := 1) (x := 0) (by decide +kernel) rfl (x_nc_le (by decide)) ?_
                refine x_aload (np := 2) (x := 0) (by decide +kernel) rfl (x_nc_le (by decide)) ?_
                have b131 := jB (e := 2) 0 j124 rg_1_2_0_1 (by omega) (by omega)
                refine x_getC (np := 5) (x := 450) (f := 2) (q := (h123 1 2)) (by decide +kernel) (by decide) (by decide +kernel) rfl (fun l132 => ?_)
                refine x_nI (t := 6) (mj := 81) (n := 2) (rc := 8) (ml := 2) (nr := 0) (np := 8) (as := [x_r 1, iv_c (h123 1 2)]) (rest := []) (lo1 := [x_r 1, iv_c (h123 1 2)]) (by decide +kernel) (by decide) (by decide +kernel) (x_rb_of (by decide +kernel)) rfl rfl (x_wr (by decide) (x_wi l132 x_wn)) x_wn (by decide) rfl ?_
                refine x_iload (np := 1) (x := 1) (by decide +kernel) rfl l132 ?_
                refine x_aload (np := 2) (x := 0) (by decide +kernel) rfl (x_nc_le (by decide)) ?_
                have q133 : h123 1 1 = h 1 1 := jK 0 f125 rg_1_1_0_1 (by omega) (by omega) (by decide)
                refine x_getC (np := 5) (x := 449) (f := 1) (q := (h 1 1)) (by decide +kernel) (by decide) (by decide +kernel) q133 (fun l134 => ?_)
                refine x_icmp (k := 3) (tg := 17) (np := 8) (by decide +kernel) (by decide) l132 l13 (fun q135 => ?_) (fun q136 => ?_)
                · have q135 : (h 1 1) ≤ (h123 1 2) := q135
                  refine x_const (np := 18) (x := 9223372034707292159) (a := 2147483647) (by decide +kernel) (by decide) (by decide) ?_
                  refine x_retI (np := 19) (x := 0) (by decide +kernel) (by decide) (Or.inl (by decide +kernel)) ⟨_, rfl, (by decide), ?_⟩
                  refine x_iload (np := 9) (x := 1) (by decide +kernel) rfl (by decide) ?_
                  refine x_icmp (k := 1) (tg := 16) (np := 12) (by decide +kernel) (by decide) (by decide) (by decide) (fun q137 => ?_) (fun q138 => ?_)
                  · have q137 : 2147483647 ≠ 2147483708 := q137
                    refine x_const (np := 17) (x := 9223372039002259456) (a := 2147483648) (by decide +kernel) (by decide) (by decide) ?_
                    refine x_retI (np := 18) (x := 0) (by decide +kernel) (by decide) (Or.inr ⟨by decide +kernel, by omega, by omega⟩) ⟨_, rfl, (by decide), ?_⟩
                    refine x_ifz (k := 1) (tg := 10) (np := 8) (by decide +kernel) (by decide) (by decide) (fun q139 => ?_) (fun q140 => ?_)
                    · have q139 : 2147483648 ≠ 2147483648 := q139
                      exfalso; omega
                    have q140 : ¬ (2147483648 ≠ 2147483648) := q140
                    refine x_const (np := 9) (x := 9223372039002259456) (a := 2147483648) (by decide +kernel) (by decide) (by decide) ?_
                    refine x_retI (np := 10) (x := 0) (by decide +kernel) (by decide) (Or.inr ⟨by decide +kernel, by omega, by omega⟩) ⟨_, rfl, (by decide), ?_⟩
                    refine x_ifz (k := 0) (tg := 210) (np := 184) (by decide +kernel) (by decide) (by decide) (fun q141 => ?_) (fun q142 => ?_)
                    · have q141 : 2147483648 = 2147483648 := q141
                      refine x_aload (np := 211) (x := 0) (by decide +kernel) rfl (x_nc_le (by decide)) ?_
                      have q143 : h123 62 0 = 1 := by have z := jB (e := 0) 0 j124 rg_62_0_0_1 (by decide) (by decide); omega
                      refine x_getR (np := 214) (x := 192) (f := 0) (q := 1) (by decide +kernel) (by decide) (by decide +kernel) q143 ?_
                      refine x_const (np := 216) (x := 9223372305290231870) (a := 2147483710) (by decide +kernel) (by decide) (by decide) ?_
                      refine x_nI (t := 6) (mj := 76) (n := 2) (rc := 8) (ml := 2) (nr := 0) (np := 219) (as := [x_r 1, iv_c 2147483710]) (rest := []) (lo1 := [x_r 1, iv_c 2147483710]) (by decide +kernel) (by decide) (by decide +kernel) (x_rb_of (by decide +kernel)) rfl rfl (x_wr (by decide) (x_wi (by decide) x_wn)) x_wn (by decide) rfl ?_
                      refine x_aload (np := 1) (x := 0) (by decide +kernel) rfl (x_nc_le (by decide)) ?_
                      refine x_iload (np := 2) (x := 1) (by decide +kernel) rfl (by decide) ?_
                      refine x_nI (t := 6) (mj := 75) (n := 2) (rc := 8) (ml := 2) (nr := 0) (np := 5) (as := [x_r 1, iv_c 2147483710]) (rest := []) (lo1 := [x_r 1, iv_c 2147483710]) (by decide +kernel) (by decide) (by decide +kernel) (x_rb_of (by decide +kernel)) rfl rfl (x_wr (by decide) (x_wi (by decide) x_wn)) x_wn (by decide) rfl ?_
                      refine x_aload (np := 1) (x := 0) (by decide +kernel) rfl (x_nc_le (by decide)) ?_
                      refine x_aload (np := 2) (x := 0) (by decide +kernel) rfl (x_nc_le (by decide)) ?_
                      refine x_getC (np := 5) (x := 450) (f := 2) (q := (h123 1 2)) (by decide +kernel) (by decide) (by decide +kernel) rfl (fun l144 => ?_)
                      refine x_nI (t := 6) (mj := 81) (n := 2) (rc := 8) (ml := 2) (nr := 0) (np := 8) (as := [x_r 1, iv_c (h123 1 2)]) (rest := []) (lo1 := [x_r 1, iv_c (h123 1 2)]) (by decide +kernel) (by decide) (by decide +kernel) (x_rb_of (by decide +kernel)) rfl rfl (x_wr (by decide) (x_wi l132 x_wn)) x_wn (by decide) rfl ?_
                      refine x_iload (np := 1) (x := 1) (by decide +kernel) rfl l132 ?_
                      refine x_aload (np := 2) (x := 0) (by decide +kernel) rfl (x_nc_le (by decide)) ?_
                      have q145 : h123 1 1 = h 1 1 := jK 0 f125 rg_1_1_0_1 (by omega) (by omega) (by decide)
                      refine x_getC (np := 5) (x := 449) (f := 1) (q := (h 1 1)) (by decide +kernel) (by decide) (by decide +kernel) q145 (fun l146 => ?_)
                      refine x_icmp (k := 3) (tg := 17) (np := 8) (by decide +kernel) (by decide) l132 l13 (fun q147 => ?_) (fun q148 => ?_)
                      · have q147 : (h 1 1) ≤ (h123 1 2) := q147
                        refine x_const (np := 18) (x := 9223372034707292159) (a := 2147483647) (by decide +kernel) (by decide) (by decide) ?_
                        refine x_retI (np := 19) (x := 0) (by decide +kernel) (by decide) (Or.inl (by decide +kernel)) ⟨_, rfl, (by decide), ?_⟩
                        refine x_iload (np := 9) (x := 1) (by decide +kernel) rfl (by decide) ?_
                        refine x_icmp (k := 1) (tg := 16) (np := 12) (by decide +kernel) (by decide) (by decide) (by decide) (fun q149 => ?_) (fun q150 => ?_)
                        · have q149 : 2147483647 ≠ 2147483710 := q149
                          refine x_const (np := 17) (x := 9223372039002259456) (a := 2147483648) (by decide +kernel) (by decide) (by decide) ?_
                          refine x_retI (np := 18) (x := 0) (by decide +kernel) (by decide) (Or.inr ⟨by decide +kernel, by omega, by omega⟩) ⟨_, rfl, (by decide), ?_⟩
                          refine x_ifz (k := 1) (tg := 10) (np := 8) (by decide +kernel) (by decide) (by decide) (fun q151 => ?_) (fun q152 => ?_)
                          · have q151 : 2147483648 ≠ 2147483648 := q151
                            exfalso; omega
                          have q152 : ¬ (2147483648 ≠ 2147483648) := q152
                          refine x_const (np := 9) (x := 9223372039002259456) (a := 2147483648) (by decide +kernel) (by decide) (by decide) ?_
                          refine x_retI (np := 10) (x := 0) (by decide +kernel) (by decide) (Or.inr ⟨by decide +kernel, by omega, by omega⟩) ⟨_, rfl, (by decide), ?_⟩
                          refine x_ifz (k := 0) (tg := 246) (np := 222) (by decide +kernel) (by decide) (by decide) (fun q153 => ?_) (fun q154 => ?_)
                          · have q153 : 2147483648 = 2147483648 := q153
                            refine x_const (np := 247) (x := 9223372039002259456) (a := 2147483648) (by decide +kernel) (by decide) (by decide) ?_
                            refine x_retI (np := 248) (x := 0) (by decide +kernel) (by decide) (Or.inr ⟨by decide +kernel, by omega, by omega⟩) ⟨_, rfl, (by decide), ?_⟩
                            exact ⟨j124, f127, (by omega)⟩
                          have q154 : ¬ (2147483648 = 2147483648) := q154
                          exfalso; omega
                        have q150 : ¬ (2147483647 ≠ 2147483710) := q150
                        exfalso; omega
                      have q148 : ¬ ((h 1 1) ≤ (h123 1 2)) := q148
                      refine x_aload (np := 9) (x := 0) (by decide +kernel) rfl (x_nc_le (by decide)) ?_
                      have q155 : h123 1 0 = 2 := by have z := jB (e := 0) 0 j124 rg_1_0_0_1 (by decide) (by decide); omega
                      refine x_getR (np := 12) (x := 448) (f := 0) (q := 2) (by decide +kernel) (by decide) (by decide +kernel) q155 ?_
                      refine x_iload (np := 13) (x := 1) (by decide +kernel) rfl l132 ?_
                      obtain ⟨u156, q157⟩ : ∃ z, (h123 1 2) = 2147483648 + z := ⟨(h123 1 2) - 2147483648, by omega⟩
                      have q158 : h123 2 u156 = h 2 u156 := jK u156 f125 rg_2_0_1_400 (by omega) (by omega) (by decide)
                      refine x_aldC (np := 14) (x := 0) (n := 400) (i := u156) (q := (h 2 u156)) (by decide +kernel) (by decide +kernel) (by omega) (by omega) (by decide) q158 (fun l159 => ?_)
                      refine x_goto (np := 17) (x := 18) (by decide +kernel) ?_
                      refine x_retI (np := 19) (x := 0) (by decide +kernel) l159 (Or.inl (by decide +kernel)) ⟨_, rfl, l159, ?_⟩
                      refine x_iload (np := 9) (x := 1) (by decide +kernel) rfl (by decide) ?_
                      refine x_icmp (k := 1) (tg := 16) (np := 12) (by decide +kernel) (by decide) l159 (by decide) (fun q160 => ?_) (fun q161 => ?_)
                      · have q160 : (h 2 u156) ≠ 2147483710 := q160
                        refine x_const (np := 17) (x := 9223372039002259456) (a := 2147483648) (by decide +kernel) (by decide) (by decide) ?_
                        refine x_retI (np := 18) (x := 0) (by decide +kernel) (by decide) (Or.inr ⟨by decide +kernel, by omega, by omega⟩) ⟨_, rfl, (by decide), ?_⟩
                        refine x_ifz (k := 1) (tg := 10) (np := 8) (by decide +kernel) (by decide) (by decide) (fun q162 => ?_) (fun q163 => ?_)
                        · have q162 : 2147483648 ≠ 2147483648 := q162
                          exfalso; omega
                        have q163 : ¬ (2147483648 ≠ 2147483648) := q163
                        refine x_const (np := 9) (x := 9223372039002259456) (a := 2147483648) (by decide +kernel) (by decide) (by decide) ?_
                        refine x_retI (np := 10) (x := 0) (by decide +kernel) (by decide) (Or.inr ⟨by decide +kernel, by omega, by omega⟩) ⟨_, rfl, (by decide), ?_⟩
                        refine x_ifz (k := 0) (tg := 246) (np := 222) (by decide +kernel) (by decide) (by decide) (fun q164 => ?_) (fun q165 => ?_)
                        · have q164 : 2147483648 = 2147483648 := q164
                          refine x_const (np := 247) (x := 9223372039002259456) (a := 2147483648) (by decide +kernel) (by decide) (by decide) ?_
                          refine x_retI (np := 248) (x := 0) (by decide +kernel) (by decide) (Or.inr ⟨by decide +kernel, by omega, by omega⟩) ⟨_, rfl, (by decide), ?_⟩
                          exact ⟨j124, f127, (by omega)⟩
                        have q165 : ¬ (2147483648 = 2147483648) := q165
                        exfalso; omega
                      have q161 : ¬ ((h 2 u156) ≠ 2147483710) := q161
                      refine x_const (np := 13) (x := 9223372043297226753) (a := 2147483649) (by decide +kernel) (by decide) (by decide) ?_
                      refine x_goto (np := 16) (x := 17) (by decide +kernel) ?_
                      refine x_retI (np := 18) (x := 0) (by decide +kernel) (by decide) (Or.inr ⟨by decide +kernel, by omega, by omega⟩) ⟨_, rfl, (by decide), ?_⟩
                      refine x_ifz (k := 1) (tg := 10) (np := 8) (by decide +kernel) (by decide) (by decide) (fun q166 => ?_) (fun q167 => ?_)
                      · have q166 : 2147483649 ≠ 2147483648 := q166
                        refine x_aload (np := 11) (x := 0) (by decide +kernel) rfl (x_nc_le (by decide)) ?_
                        refine x_aload (np := 12) (x := 0) (by decide +kernel) rfl (x_nc_le (by decide)) ?_
                        refine x_getC (np := 15) (x := 450) (f := 2) (q := (h123 1 2)) (by decide +kernel) (by decide) (by decide +kernel) rfl (fun l168 => ?_)
                        refine x_const (np := 16) (x := 9223372043297226753) (a := 2147483649) (by decide +kernel) (by decide) (by decide) ?_
                        refine x_iadd (np := 17) (x := 0) (v := (1 + (h123 1 2))) (by decide +kernel) l132 (by decide) (by omega) (by omega) ?_
                        refine x_cV (t := 6) (mj := 80) (n := 2) (rc := 8) (ml := 2) (nr := 0) (np := 20) (as := [x_r 1, iv_c (1 + (h123 1 2))]) (rest := []) (lo1 := [x_r 1, iv_c (1 + (h123 1 2))]) (by decide +kernel) (by decide) (by decide +kernel) (x_rb_of (by decide +kernel)) rfl rfl (x_wr (by decide) (x_wi (by omega) x_wn)) x_wn (by decide) rfl (c80_1n j124  (by omega)) (fun h172 q171 => ?_)
                        obtain ⟨j173, f174⟩ := q171
                        have f177 := Fr.trans f127 f174 (by decide)
                        refine x_const (np := 21) (x := 9223372043297226753) (a := 2147483649) (by decide +kernel) (by decide) (by decide) ?_
                        refine x_retI (np := 22) (x := 0) (by decide +kernel) (by decide) (Or.inr ⟨by decide +kernel, by omega, by omega⟩) ⟨_, rfl, (by decide), ?_⟩
                        refine x_ifz (k := 0) (tg := 246) (np := 222) (by decide +kernel) (by decide) (by decide) (fun q178 => ?_) (fun q179 => ?_)
                        · have q178 : 2147483649 = 2147483648 := q178
                          exfalso; omega
                        have q179 : ¬ (2147483649 = 2147483648) := q179
                        refine x_aload (np := 223) (x := 0) (by decide +kernel) rfl (x_nc_le (by decide)) ?_
                        refine x_cI (t := 6) (mj := 49) (n := 1) (rc := 4) (ml := 2) (nr := 0) (np := 226) (as := [x_r 62]) (rest := []) (lo1 := [x_r 62, 147573952589676412928]) (by decide +kernel) (by decide) (by decide +kernel) (x_rb_of (by decide +kernel)) rfl rfl (x_wr (by decide) x_wn) x_wn (by decide) rfl (c49_62 j173 ) (fun v180 h183 l181 q182 => ?_)
                        obtain ⟨j184, f185, b186⟩ := q182
                        have f187 := Fr.trans f177 f185 (by decide)
                        refine x_ifz (k := 0) (tg := 246) (np := 229) (by decide +kernel) (by decide) l181 (fun q188 => ?_) (fun q189 => ?_)
                        · have q188 : v180 = 2147483648 := q188
                          refine x_const (np := 247) (x := 9223372039002259456) (a := 2147483648) (by decide +kernel) (by decide) (by decide) ?_
                          refine x_retI (np := 248) (x := 0) (by decide +kernel) (by decide) (Or.inr ⟨by decide +kernel, by omega, by omega⟩) ⟨_, rfl, (by decide), ?_⟩
                          exact ⟨j184, f187, (by omega)⟩
                        have q189 : ¬ (v180 = 2147483648) := q189
                        refine x_aload (np := 230) (x := 0) (by decide +kernel) rfl (x_nc_le (by decide)) ?_
                        have q190 : h183 62 1 = h172 62 1 := f185 62 1 (by decide +kernel)
                        have q191 : h172 62 1 = h123 62 1 := f174 62 1 (by decide +kernel)
                        have q192 : h123 62 1 = h 62 1 := f125 62 1 (by decide +kernel)
                        obtain ⟨r193, q194, t195⟩ : ∃ z, (h 62 1) = z + 11 ∧ tw z := by
                          rcases hJ.2.2.2.2.2.2.2 with z | z
                          · exact ⟨17, by rw [z], Or.inl rfl⟩
                          · exact ⟨31, by rw [z], Or.inr rfl⟩
                        refine x_getR (np := 233) (x := 193) (f := 1) (q := (r193 + 11)) (by decide +kernel) (by decide) (by decide +kernel) (((q190.trans q191).trans q192).trans q194) ?_
                        refine x_const (np := 236) (x := 9223380637526788050) (a := 2147485650) (by decide +kernel) (by decide) (by decide) ?_
                        refine x_nI (t := 6) (mj := 36) (n := 2) (rc := 3) (ml := 2) (nr := 0) (np := 239) (as := [x_r (r193 + 11), iv_c 2147485650]) (rest := []) (lo1 := [x_r (r193 + 11), iv_c 2147485650]) (by decide +kernel) (by decide) (by decide +kernel) (x_rb_of (tr_11_3 t195)) rfl rfl (x_wr (tn_11 t195) (x_wi (by decide) x_wn)) x_wn (by decide) rfl ?_
                        refine x_aload (np := 1) (x := 0) (by decide +kernel) rfl (x_nc_le (tn_11 t195)) ?_
                        have b196 := jB (e := 2) 0 j184 (rg_T11_2_0_1 t195) (by omega) (by omega)
                        refine x_getC (np := 4) (x := 130) (f := 2) (q := (h183 (r193 + 11) 2)) (by decide +kernel) (by decide) (tg_11_130_2_0 t195) rfl (fun l197 => ?_)
                        refine x_const (np := 7) (x := 9223373756989178256) (a := 2147484048) (by decide +kernel) (by decide) (by decide) ?_
                        refine x_icmp (k := 2) (tg := 12) (np := 10) (by decide +kernel) (by decide) l197 (by decide) (fun q198 => ?_) (fun q199 => ?_)
                        · have q198 : (h183 (r193 + 11) 2) < 2147484048 := q198
                          refine x_aload (np := 13) (x := 0) (by decide +kernel) rfl (x_nc_le (tn_11 t195)) ?_
                          have q200 : h183 (r193 + 11) 0 = (r193 + 12) := tf_11_0 j184 t195
                          refine x_getR (np := 16) (x := 128) (f := 0) (q := (r193 + 12)) (by decide +kernel) (by decide) (tg_11_128_0_1 t195) q200 ?_
                          refine x_aload (np := 17) (x := 0) (by decide +kernel) rfl (x_nc_le (tn_11 t195)) ?_
                          refine x_getC (np := 20) (x := 130) (f := 2) (q := (h183 (r193 + 11) 2)) (by decide +kernel) (by decide) (tg_11_130_2_0 t195) rfl (fun l201 => ?_)
                          refine x_iload (np := 21) (x := 1) (by decide +kernel) rfl (by decide) ?_
                          obtain ⟨u202, q203⟩ : ∃ z, (h183 (r193 + 11) 2) = 2147483648 + z := ⟨(h183 (r193 + 11) 2) - 2147483648, by omega⟩
                          refine x_ast (np := 22) (x := 0) (kd := 1) (n := 400) (i := u202) (by decide +kernel) (Or.inl rfl) (ta_12_400 t195) (by omega) (by omega) (by decide) (by decide) (fun z => absurd z (by decide)) ?_
                          have j205 := jU (e := u202) (v := 2147485650) u202 j184 (rg_T12_0_1_400 t195) (by omega) (by omega) (by omega)
                          have f207 := jF (e := u202) (v := 2147485650) u202 f187 (rg_T12_0_1_400 t195) (by omega) (by omega) (by decide)
                          generalize e206 : x_up h183 (r193 + 12) u202 2147485650 = h204 at j205 f207 ⊢
                          refine x_aload (np := 23) (x := 0) (by decide +kernel) rfl (x_nc_le (tn_11 t195)) ?_
                          refine x_dup (np := 24) (x := 0) (by decide +kernel) (by have z := x_nc_le (k := (r193 + 11)) (tn_11 t195); unfold x_r; omega) ?_
                          have q208 : h204 (r193 + 11) 2 = h183 (r193 + 11) 2 := by rw [← e206]; exact x_up_k tof_11_12
                          refine x_getC (np := 27) (x := 130) (f := 2) (q := (h183 (r193 + 11) 2)) (by decide +kernel) (by decide) (tg_11_130_2_0 t195) q208 (fun l209 => ?_)
                          refine x_const (np := 28) (x := 9223372043297226753) (a := 2147483649) (by decide +kernel) (by decide) (by decide) ?_
                          refine x_iadd (np := 29) (x := 0) (v := (1 + (h183 (r193 + 11) 2))) (by decide +kernel) l197 (by decide) (by omega) (by omega) ?_
                          refine x_putI (np := 32) (x := 130) (f := 2) (by decide +kernel) (tg_11_130_2_0 t195) (by omega) (Or.inl (by decide)) ?_
                          have j211 := jU (e := 2) (v := (1 + (h183 (r193 + 11) 2))) 0 j205 (rg_T11_2_0_1 t195) (by omega) (by omega) (by omega)
                          have f213 := jF (e := 2) (v := (1 + (h183 (r193 + 11) 2))) 0 f207 (rg_T11_2_0_1 t195) (by omega) (by omega) (by decide)
                          generalize e212 : x_up h204 (r193 + 11) 2 (1 + (h183 (r193 + 11) 2)) = h210 at j211 f213 ⊢
                          refine x_const (np := 33) (x := 9223372043297226753) (a := 2147483649) (by decide +kernel) (by decide) (by decide) ?_
                          refine x_retI (np := 34) (x := 0) (by decide +kernel) (by decide) (Or.inr ⟨by decide +kernel, by omega, by omega⟩) ⟨_, rfl, (by decide), ?_⟩
                          refine x_ifz (k := 0) (tg := 246) (np := 242) (by decide +kernel) (by decide) (by decide) (fun q214 => ?_) (fun q215 => ?_)
                          · have q214 : 2147483649 = 2147483648 := q214
                            exfalso; omega
                          have q215 : ¬ (2147483649 = 2147483648) := q215
                          refine x_const (np := 243) (x := 9223372043297226753) (a := 2147483649) (by decide +kernel) (by decide) (by decide) ?_
                          refine x_goto (np := 246) (x := 247) (by decide +kernel) ?_
                          refine x_retI (np := 248) (x := 0) (by decide +kernel) (by decide) (Or.inr ⟨by decide +kernel, by omega, by omega⟩) ⟨_, rfl, (by decide), ?_⟩
                          exact ⟨j211, f213, (by omega)⟩
                        have q199 : ¬ ((h183 (r193 + 11) 2) < 2147484048) := q199
                        refine x_const (np := 11) (x := 9223372039002259456) (a := 2147483648) (by decide +kernel) (by decide) (by decide) ?_
                        refine x_retI (np := 12) (x := 0) (by decide +kernel) (by decide) (Or.inr ⟨by decide +kernel, by omega, by omega⟩) ⟨_, rfl, (by decide), ?_⟩
                        refine x_ifz (k := 0) (tg := 246) (np := 242) (by decide +kernel) (by decide) (by decide) (fun q216 => ?_) (fun q217 => ?_)
                        · have q216 : 2147483648 = 2147483648 := q216
                          refine x_const (np := 247) (x := 9223372039002259456) (a := 2147483648) (by decide +kernel) (by decide) (by decide) ?_
                          refine x_retI (np := 248) (x := 0) (by decide +kernel) (by decide) (Or.inr ⟨by decide +kernel, by omega, by omega⟩) ⟨_, rfl, (by decide), ?_⟩
                          exact ⟨j184, f187, (by omega)⟩
                        have q217 : ¬ (2147483648 = 2147483648) := q217
                        exfalso; omega
                      have q167 : ¬ (2147483649 ≠ 2147483648) := q167
                      exfalso; omega
                    have q142 : ¬ (2147483648 = 2147483648) := q142
                    exfalso; omega
                  have q138 : ¬ (2147483647 ≠ 2147483708) := q138
                  exfalso; omega
                have q136 : ¬ ((h 1 1) ≤ (h123 1 2)) := q136
                refine x_aload (np := 9) (x := 0) (by decide +kernel) rfl (x_nc_le (by decide)) ?_
                have q218 : h123 1 0 = 2 := by have z := jB (e := 0) 0 j124 rg_1_0_0_1 (by decide) (by decide); omega
                refine x_getR (np := 12) (x := 448) (f := 0) (q := 2) (by decide +kernel) (by decide) (by decide +kernel) q218 ?_
                refine x_iload (np := 13) (x := 1) (by decide +kernel) rfl l132 ?_
                obtain ⟨u219, q220⟩ : ∃ z, (h123 1 2) = 2147483648 + z := ⟨(h123 1 2) - 2147483648, by omega⟩
                have q221 : h123 2 u219 = h 2 u219 := jK u219 f125 rg_2_0_1_400 (by omega) (by omega) (by decide)
                refine x_aldC (np := 14) (x := 0) (n := 400) (i := u219) (q := (h 2 u219)) (by decide +kernel) (by decide +kernel) (by omega) (by omega) (by decide) q221 (fun l222 => ?_)
                refine x_goto (np := 17) (x := 18) (by decide +kernel) ?_
                refine x_retI (np := 19) (x := 0) (by decide +kernel) l222 (Or.inl (by decide +kernel)) ⟨_, rfl, l222, ?_⟩
                refine x_iload (np := 9) (x := 1) (by decide +kernel) rfl (by decide) ?_
                refine x_icmp (k := 1) (tg := 16) (np := 12) (by decide +kernel) (by decide) l222 (by decide) (fun q223 => ?_) (fun q224 => ?_)
                · have q223 : (h 2 u219) ≠ 2147483708 := q223
                  refine x_const (np := 17) (x := 9223372039002259456) (a := 2147483648) (by decide +kernel) (by decide) (by decide) ?_
                  refine x_retI (np := 18) (x := 0) (by decide +kernel) (by decide) (Or.inr ⟨by decide +kernel, by omega, by omega⟩) ⟨_, rfl, (by decide), ?_⟩
                  refine x_ifz (k := 1) (tg := 10) (np := 8) (by decide +kernel) (by decide) (by decide) (fun q225 => ?_) (fun q226 => ?_)
                  · have q225 : 2147483648 ≠ 2147483648 := q225
                    exfalso; omega
                  have q226 : ¬ (2147483648 ≠ 2147483648) := q226
                  refine x_const (np := 9) (x := 9223372039002259456) (a := 2147483648) (by decide +kernel) (by decide) (by decide) ?_
                  refine x_retI (np := 10) (x := 0) (by decide +kernel) (by decide) (Or.inr ⟨by decide +kernel, by omega, by omega⟩) ⟨_, rfl, (by decide), ?_⟩
                  refine x_ifz (k := 0) (tg := 210) (np := 184) (by decide +kernel) (by decide) (by decide) (fun q227 => ?_) (fun q228 => ?_)
                  · have q227 : 2147483648 = 2147483648 := q227
                    refine x_aload (np := 211) (x := 0) (by decide +kernel) rfl (x_nc_le (by decide)) ?_
                    have q229 : h123 62 0 = 1 := by have z := jB (e := 0) 0 j124 rg_62_0_0_1 (by decide) (by decide); omega
                    refine x_getR (np := 214) (x := 192) (f := 0) (q := 1) (by decide +kernel) (by decide) (by decide +kernel) q229 ?_
                    refine x_const (np := 216) (x := 9223372305290231870) (a := 2147483710) (by decide +kernel) (by decide) (by decide) ?_
                    refine x_nI (t := 6) (mj := 76) (n := 2) (rc := 8) (ml := 2) (nr := 0) (np := 219) (as := [x_r 1, iv_c 2147483710]) (rest := []) (lo1 := [x_r 1, iv_c 2147483710]) (by decide +kernel) (by decide) (by decide +kernel) (x_rb_of (by decide +kernel)) rfl rfl (x_wr (by decide) (x_wi (by decide) x_wn)) x_wn (by decide) rfl ?_
                    refine x_aload (np := 1) (x := 0) (by decide +kernel) rfl (x_nc_le (by decide)) ?_
                    refine x_iload (np := 2) (x := 1) (by decide +kernel) rfl (by decide) ?_
                    refine x_nI (t := 6) (mj := 75) (n := 2) (rc := 8) (ml := 2) (nr := 0) (np := 5) (as := [x_r 1, iv_c 2147483710]) (rest := []) (lo1 := [x_r 1, iv_c 2147483710]) (by decide +kernel) (by decide) (by decide +kernel) (x_rb_of (by decide +kernel)) rfl rfl (x_wr (by decide) (x_wi (by decide) x_wn)) x_wn (by decide) rfl ?_
                    refine x_aload (np := 1) (x := 0) (by decide +kernel) rfl (x_nc_le (by decide)) ?_
                    refine x_aload (np := 2) (x := 0) (by decide +kernel) rfl (x_nc_le (by decide)) ?_
                    refine x_getC (np := 5) (x := 450) (f := 2) (q := (h123 1 2)) (by decide +kernel) (by decide) (by decide +kernel) rfl (fun l230 => ?_)
                    refine x_nI (t := 6) (mj := 81) (n := 2) (rc := 8) (ml := 2) (nr := 0) (np := 8) (as := [x_r 1, iv_c (h123 1 2)]) (rest := []) (lo1 := [x_r 1, iv_c (h123 1 2)]) (by decide +kernel) (by decide) (by decide +kernel) (x_rb_of (by decide +kernel)) rfl rfl (x_wr (by decide) (x_wi l132 x_wn)) x_wn (by decide) rfl ?_
                    refine x_iload (np := 1) (x := 1) (by decide +kernel) rfl l132 ?_
                    refine x_aload (np := 2) (x := 0) (by decide +kernel) rfl (x_nc_le (by decide)) ?_
                    have q231 : h123 1 1 = h 1 1 := jK 0 f125 rg_1_1_0_1 (by omega) (by omega) (by decide)
                    refine x_getC (np := 5) (x := 449) (f := 1) (q := (h 1 1)) (by decide +kernel) (by decide) (by decide +kernel) q231 (fun l232 => ?_)
                    refine x_icmp (k := 3) (tg := 17) (np := 8) (by decide +kernel) (by decide) l132 l13 (fun q233 => ?_) (fun q234 => ?_)
                    · have q233 : (h 1 1) ≤ (h123 1 2) := q233
                      refine x_const (np := 18) (x := 9223372034707292159) (a := 2147483647) (by decide +kernel) (by decide) (by decide) ?_
                      refine x_retI (np := 19) (x := 0) (by decide +kernel) (by decide) (Or.inl (by decide +kernel)) ⟨_, rfl, (by decide), ?_⟩
                      refine x_iload (np := 9) (x := 1) (by decide +kernel) rfl (by decide) ?_
                      refine x_icmp (k := 1) (tg := 16) (np := 12) (by decide +kernel) (by decide) (by decide) (by decide) (fun q235 => ?_) (fun q236 => ?_)
                      · have q235 : 2147483647 ≠ 2147483710 := q235
                        refine x_const (np := 17) (x := 9223372039002259456) (a := 2147483648) (by decide +kernel) (by decide) (by decide) ?_
                        refine x_retI (np := 18) (x := 0) (by decide +kernel) (by decide) (Or.inr ⟨by decide +kernel, by omega, by omega⟩) ⟨_, rfl, (by decide), ?_⟩
                        refine x_ifz (k := 1) (tg := 10) (np := 8) (by decide +kernel) (by decide) (by decide) (fun q237 => ?_) (fun q238 => ?_)
                        · have q237 : 2147483648 ≠ 2147483648 := q237
                          exfalso; omega
                        have q238 : ¬ (2147483648 ≠ 2147483648) := q238
                        refine x_const (np := 9) (x := 9223372039002259456) (a := 2147483648) (by decide +kernel) (by decide) (by decide) ?_
                        refine x_retI (np := 10) (x := 0) (by decide +kernel) (by decide) (Or.inr ⟨by decide +kernel, by omega, by omega⟩) ⟨_, rfl, (by decide), ?_⟩
                        refine x_ifz (k := 0) (tg := 246) (np := 222) (by decide +kernel) (by decide) (by decide) (fun q239 => ?_) (fun q240 => ?_)
                        · have q239 : 2147483648 = 2147483648 := q239
                          refine x_const (np := 247) (x := 9223372039002259456) (a := 2147483648) (by decide +kernel) (by decide) (by decide) ?_
                          refine x_retI (np := 248) (x := 0) (by decide +kernel) (by decide) (Or.inr ⟨by decide +kernel, by omega, by omega⟩) ⟨_, rfl, (by decide), ?_⟩
                          exact ⟨j124, f127, (by omega)⟩
                        have q240 : ¬ (2147483648 = 2147483648) := q240
                        exfalso; omega
                      have q236 : ¬ (2147483647 ≠ 2147483710) := q236
                      exfalso; omega
                    have q234 : ¬ ((h 1 1) ≤ (h123 1 2)) := q234
                    refine x_aload (np := 9) (x := 0) (by decide +kernel) rfl (x_nc_le (by decide)) ?_
                    have q241 : h123 1 0 = 2 := by have z := jB (e := 0) 0 j124 rg_1_0_0_1 (by decide) (by decide); omega
                    refine x_getR (np := 12) (x := 448) (f := 0) (q := 2) (by decide +kernel) (by decide) (by decide +kernel) q241 ?_
                    refine x_iload (np := 13) (x := 1) (by decide +kernel) rfl l132 ?_
                    have q242 : h123 2 u219 = h 2 u219 := jK u219 f125 rg_2_0_1_400 (by omega) (by omega) (by decide)
                    refine x_aldC (np := 14) (x := 0) (n := 400) (i := u219) (q := (h 2 u219)) (by decide +kernel) (by decide +kernel) (by omega) (by omega) (by decide) q242 (fun l243 => ?_)
                    refine x_goto (np := 17) (x := 18) (by decide +kernel) ?_
                    refine x_retI (np := 19) (x := 0) (by decide +kernel) l222 (Or.inl (by decide +kernel)) ⟨_, rfl, l222, ?_⟩
                    refine x_iload (np := 9) (x := 1) (by decide +kernel) rfl (by decide) ?_
                    refine x_icmp (k := 1) (tg := 16) (np := 12) (by decide +kernel) (by decide) l222 (by decide) (fun q244 => ?_) (fun q245 => ?_)
                    · have q244 : (h 2 u219) ≠ 2147483710 := q244
                      refine x_const (np := 17) (x := 9223372039002259456) (a := 2147483648) (by decide +kernel) (by decide) (by decide) ?_
                      refine x_retI (np := 18) (x := 0) (by decide +kernel) (by decide) (Or.inr ⟨by decide +kernel, by omega, by omega⟩) ⟨_, rfl, (by decide), ?_⟩
                      refine x_ifz (k := 1) (tg := 10) (np := 8) (by decide +kernel) (by decide) (by decide) (fun q246 => ?_) (fun q247 => ?_)
                      · have q246 : 2147483648 ≠ 2147483648 := q246
                        exfalso; omega
                      have q247 : ¬ (2147483648 ≠ 2147483648) := q247
                      refine x_const (np := 9) (x := 9223372039002259456) (a := 2147483648) (by decide +kernel) (by decide) (by decide) ?_
                      refine x_retI (np := 10) (x := 0) (by decide +kernel) (by decide) (Or.inr ⟨by decide +kernel, by omega, by omega⟩) ⟨_, rfl, (by decide), ?_⟩
                      refine x_ifz (k := 0) (tg := 246) (np := 222) (by decide +kernel) (by decide) (by decide) (fun q248 => ?_) (fun q249 => ?_)
                      · have q248 : 2147483648 = 2147483648 := q248
                        refine x_const (np := 247) (x := 9223372039002259456) (a := 2147483648) (by decide +kernel) (by decide) (by decide) ?_
                        refine x_retI (np := 248) (x := 0) (by decide +kernel) (by decide) (Or.inr ⟨by decide +kernel, by omega, by omega⟩) ⟨_, rfl, (by decide), ?_⟩
                        exact ⟨j124, f127, (by omega)⟩
                      have q249 : ¬ (2147483648 = 2147483648) := q249
                      exfalso; omega
                    have q245 : ¬ ((h 2 u219) ≠ 2147483710) := q245
                    refine x_const (np := 13) (x := 9223372043297226753) (a := 2147483649) (by decide +kernel) (by decide) (by decide) ?_
                    refine x_goto (np := 16) (x := 17) (by decide +kernel) ?_
                    refine x_retI (np := 18) (x := 0) (by decide +kernel) (by decide) (Or.inr ⟨by decide +kernel, by omega, by omega⟩) ⟨_, rfl, (by decide), ?_⟩
                    refine x_ifz (k := 1) (tg := 10) (np := 8) (by decide +kernel) (by decide) (by decide) (fun q250 => ?_) (fun q251 => ?_)
                    · have q250 : 2147483649 ≠ 2147483648 := q250
                      refine x_aload (np := 11) (x := 0) (by decide +kernel) rfl (x_nc_le (by decide)) ?_
                      refine x_aload (np := 12) (x := 0) (by decide +kernel) rfl (x_nc_le (by decide)) ?_
                      refine x_getC (np := 15) (x := 450) (f := 2) (q := (h123 1 2)) (by decide +kernel) (by decide) (by decide +kernel) rfl (fun l252 => ?_)
                      refine x_const (np := 16) (x := 9223372043297226753) (a := 2147483649) (by decide +kernel) (by decide) (by decide) ?_
                      refine x_iadd (np := 17) (x := 0) (v := (1 + (h123 1 2))) (by decide +kernel) l132 (by decide) (by omega) (by omega) ?_
                      refine x_cV (t := 6) (mj := 80) (n := 2) (rc := 8) (ml := 2) (nr := 0) (np := 20) (as := [x_r 1, iv_c (1 + (h123 1 2))]) (rest := []) (lo1 := [x_r 1, iv_c (1 + (h123 1 2))]) (by decide +kernel) (by decide) (by decide +kernel) (x_rb_of (by decide +kernel)) rfl rfl (x_wr (by decide) (x_wi (by omega) x_wn)) x_wn (by decide) rfl (c80_1n j124  (by omega)) (fun h256 q255 => ?_)
                      obtain ⟨j257, f258⟩ := q255
                      have f261 := Fr.trans f127 f258 (by decide)
                      refine x_const (np := 21) (x := 9223372043297226753) (a := 2147483649) (by decide +kernel) (by decide) (by decide) ?_
                      refine x_retI (np := 22) (x := 0) (by decide +kernel) (by decide) (Or.inr ⟨by decide +kernel, by omega, by omega⟩) ⟨_, rfl, (by decide), ?_⟩
                      refine x_ifz (k := 0) (tg := 246) (np := 222) (by decide +kernel) (by decide) (by decide) (fun q262 => ?_) (fun q263 => ?_)
                      · have q262 : 2147483649 = 2147483648 := q262
                        exfalso; omega
                      have q263 : ¬ (2147483649 = 2147483648) := q263
                      refine x_aload (np := 223) (x := 0) (by decide +kernel) rfl (x_nc_le (by decide)) ?_
                      refine x_cI (t := 6) (mj := 49) (n := 1) (rc := 4) (ml := 2) (nr := 0) (np := 226) (as := [x_r 62]) (rest := []) (lo1 := [x_r 62, 147573952589676412928]) (by decide +kernel) (by decide) (by decide +kernel) (x_rb_of (by decide +kernel)) rfl rfl (x_wr (by decide) x_wn) x_wn (by decide) rfl (c49_62 j257 ) (fun v264 h267 l265 q266 => ?_)
                      obtain ⟨j268, f269, b270⟩ := q266
                      have f271 := Fr.trans f261 f269 (by decide)
                      refine x_ifz (k := 0) (tg := 246) (np := 229) (by decide +kernel) (by decide) l265 (fun q272 => ?_) (fun q273 => ?_)
                      · have q272 : v264 = 2147483648 := q272
                        refine x_const (np := 247) (x := 9223372039002259456) (a := 2147483648) (by decide +kernel) (by decide) (by decide) ?_
                        refine x_retI (np := 248) (x := 0) (by decide +kernel) (by decide) (Or.inr ⟨by decide +kernel, by omega, by omega⟩) ⟨_, rfl, (by decide), ?_⟩
                        exact ⟨j268, f271, (by omega)⟩
                      have q273 : ¬ (v264 = 2147483648) := q273
                      refine x_aload (np := 230) (x := 0) (by decide +kernel) rfl (x_nc_le (by decide)) ?_
                      have q274 : h267 62 1 = h256 62 1 := f269 62 1 (by decide +kernel)
                      have q275 : h256 62 1 = h123 62 1 := f258 62 1 (by decide +kernel)
                      have q276 : h123 62 1 = h 62 1 := f125 62 1 (by decide +kernel)
                      obtain ⟨r277, q278, t279⟩ : ∃ z, (h 62 1) = z + 11 ∧ tw z := by
                        rcases hJ.2.2.2.2.2.2.2 with z | z
                        · exact ⟨17, by rw [z], Or.inl rfl⟩
                        · exact ⟨31, by rw [z], Or.inr rfl⟩
                      refine x_getR (np := 233) (x := 193) (f := 1) (q := (r277 + 11)) (by decide +kernel) (by decide) (by decide +kernel) (((q274.trans q275).trans q276).trans q278) ?_
                      refine x_const (np := 236) (x := 9223380637526788050) (a := 2147485650) (by decide +kernel) (by decide) (by decide) ?_
                      refine x_nI (t := 6) (mj := 36) (n := 2) (rc := 3) (ml := 2) (nr := 0) (np := 239) (as := [x_r (r277 + 11), iv_c 2147485650]) (rest := []) (lo1 := [x_r (r277 + 11), iv_c 2147485650]) (by decide +kernel) (by decide) (by decide +kernel) (x_rb_of (tr_11_3 t279)) rfl rfl (x_wr (tn_11 t279) (x_wi (by decide) x_wn)) x_wn (by decide) rfl ?_
                      refine x_aload (np := 1) (x := 0) (by decide +kernel) rfl (x_nc_le (tn_11 t279)) ?_
                      have b280 := jB (e := 2) 0 j268 (rg_T11_2_0_1 t279) (by omega) (by omega)
                      refine x_getC (np := 4) (x := 130) (f := 2) (q := (h267 (r277 + 11) 2)) (by decide +kernel) (by decide) (tg_11_130_2_0 t279) rfl (fun l281 => ?_)
                      refine x_const (np := 7) (x := 9223373756989178256) (a := 2147484048) (by decide +kernel) (by decide) (by decide) ?_
                      refine x_icmp (k := 2) (tg := 12) (np := 10) (by decide +kernel) (by decide) l281 (by decide) (fun q282 => ?_) (fun q283 => ?_)
                      · have q282 : (h267 (r277 + 11) 2) < 2147484048 := q282
                        refine x_aload (np := 13) (x := 0) (by decide +kernel) rfl (x_nc_le (tn_11 t279)) ?_
                        have q284 : h267 (r277 + 11) 0 = (r277 + 12) := tf_11_0 j268 t279
                        refine x_getR (np := 16) (x := 128) (f := 0) (q := (r277 + 12)) (by decide +kernel) (by decide) (tg_11_128_0_1 t279) q284 ?_
                        refine x_aload (np := 17) (x := 0) (by decide +kernel) rfl (x_nc_le (tn_11 t279)) ?_
                        refine x_getC (np := 20) (x := 130) (f := 2) (q := (h267 (r277 + 11) 2)) (by decide +kernel) (by decide) (tg_11_130_2_0 t279) rfl (fun l285 => ?_)
                        refine x_iload (np := 21) (x := 1) (by decide +kernel) rfl (by decide) ?_
                        obtain ⟨u286, q287⟩ : ∃ z, (h267 (r277 + 11) 2) = 2147483648 + z := ⟨(h267 (r277 + 11) 2) - 2147483648, by omega⟩
                        refine x_ast (np := 22) (x := 0) (kd := 1) (n := 400) (i := u286) (by decide +kernel) (Or.inl rfl) (ta_12_400 t279) (by omega) (by omega) (by decide) (by decide) (fun z => absurd z (by decide)) ?_
                        have j289 := jU (e := u286) (v := 2147485650) u286 j268 (rg_T12_0_1_400 t279) (by omega) (by omega) (by omega)
                        have f291 := jF (e := u286) (v := 2147485650) u286 f271 (rg_T12_0_1_400 t279) (by omega) (by omega) (by decide)
                        generalize e290 : x_up h267 (r277 + 12) u286 2147485650 = h288 at j289 f291 ⊢
                        refine x_aload (np := 23) (x := 0) (by decide +kernel) rfl (x_nc_le (tn_11 t279)) ?_
                        refine x_dup (np := 24) (x := 0) (by decide +kernel) (by have z := x_nc_le (k := (r277 + 11)) (tn_11 t279); unfold x_r; omega) ?_
                        have q292 : h288 (r277 + 11) 2 = h267 (r277 + 11) 2 := by rw [← e290]; exact x_up_k tof_11_12
                        refine x_getC (np := 27) (x := 130) (f := 2) (q := (h267 (r277 + 11) 2)) (by decide +kernel) (by decide) (tg_11_130_2_0 t279) q292 (fun l293 => ?_)
                        refine x_const (np := 28) (x := 9223372043297226753) (a := 2147483649) (by decide +kernel) (by decide) (by decide) ?_
                        refine x_iadd (np := 29) (x := 0) (v := (1 + (h267 (r277 + 11) 2))) (by decide +kernel) l281 (by decide) (by omega) (by omega) ?_
                        refine x_putI (np := 32) (x := 130) (f := 2) (by decide +kernel) (tg_11_130_2_0 t279) (by omega) (Or.inl (by decide)) ?_
                        have j295 := jU (e := 2) (v := (1 + (h267 (r277 + 11) 2))) 0 j289 (rg_T11_2_0_1 t279) (by omega) (by omega) (by omega)
                        have f297 := jF (e := 2) (v := (1 + (h267 (r277 + 11) 2))) 0 f291 (rg_T11_2_0_1 t279) (by omega) (by omega) (by decide)
                        generalize e296 : x_up h288 (r277 + 11) 2 (1 + (h267 (r277 + 11) 2)) = h294 at j295 f297 ⊢
                        refine x_const (np := 33) (x := 9223372043297226753) (a := 2147483649) (by decide +kernel) (by decide) (by decide) ?_
                        refine x_retI (np := 34) (x := 0) (by decide +kernel) (by decide) (Or.inr ⟨by decide +kernel, by omega, by omega⟩) ⟨_, rfl, (by decide), ?_⟩
                        refine x_ifz (k := 0) (tg := 246) (np := 242) (by decide +kernel) (by decide) (by decide) (fun q298 => ?_) (fun q299 => ?_)
                        · have q298 : 2147483649 = 2147483648 := q298
                          exfalso; omega
                        have q299 : ¬ (2147483649 = 2147483648) := q299
                        refine x_const (np := 243) (x := 9223372043297226753) (a := 2147483649) (by decide +kernel) (by decide) (by decide) ?_
                        refine x_goto (np := 246) (x := 247) (by decide +kernel) ?_
                        refine x_retI (np := 248) (x := 0) (by decide +kernel) (by decide) (Or.inr ⟨by decide +kernel, by omega, by omega⟩) ⟨_, rfl, (by decide), ?_⟩
                        exact ⟨j295, f297, (by omega)⟩
                      have q283 : ¬ ((h267 (r277 + 11) 2) < 2147484048) := q283
                      refine x_const (np := 11) (x := 9223372039002259456) (a := 2147483648) (by decide +kernel) (by decide) (by decide) ?_
                      refine x_retI (np := 12) (x := 0) (by decide +kernel) (by decide) (Or.inr ⟨by decide +kernel, by omega, by omega⟩) ⟨_, rfl, (by decide), ?_⟩
                      refine x_ifz (k := 0) (tg := 246) (np := 242) (by decide +kernel) (by decide) (by decide) (fun q300 => ?_) (fun q301 => ?_)
                      · have q300 : 2147483648 = 2147483648 := q300
                        refine x_const (np := 247) (x := 9223372039002259456) (a := 2147483648) (by decide +kernel) (by decide) (by decide) ?_
                        refine x_retI (np := 248) (x := 0) (by decide +kernel) (by decide) (Or.inr ⟨by decide +kernel, by omega, by omega⟩) ⟨_, rfl, (by decide), ?_⟩
                        exact ⟨j268, f271, (by omega)⟩
                      have q301 : ¬ (2147483648 = 2147483648) := q301
                      exfalso; omega
                    have q251 : ¬ (2147483649 ≠ 2147483648) := q251
                    exfalso; omega
                  have q228 : ¬ (2147483648 = 2147483648) := q228
                  exfalso; omega
                have q224 : ¬ ((h 2 u219) ≠ 2147483708) := q224
                refine x_const (np := 13) (x := 9223372043297226753) (a := 2147483649) (by decide +kernel) (by decide) (by decide) ?_
                refine x_goto (np := 16) (x := 17) (by decide +kernel) ?_
                refine x_retI (np := 18) (x := 0) (by decide +kernel) (by decide) (Or.inr ⟨by decide +kernel, by omega, by omega⟩) ⟨_, rfl, (by decide), ?_⟩
                refine x_ifz (k := 1) (tg := 10) (np := 8) (by decide +kernel) (by decide) (by decide) (fun q302 => ?_) (fun q303 => ?_)
                · have q302 : 2147483649 ≠ 2147483648 := q302
                  refine x_aload (np := 11) (x := 0) (by decide +kernel) rfl (x_nc_le (by decide)) ?_
                  refine x_aload (np := 12) (x := 0) (by decide +kernel) rfl (x_nc_le (by decide)) ?_
                  refine x_getC (np := 15) (x := 450) (f := 2) (q := (h123 1 2)) (by decide +kernel) (by decide) (by decide +kernel) rfl (fun l304 => ?_)
                  refine x_const (np := 16) (x := 9223372043297226753) (a := 2147483649) (by decide +kernel) (by decide) (by decide) ?_
                  refine x_iadd (np := 17) (x := 0) (v := (1 + (h123 1 2))) (by decide +kernel) l132 (by decide) (by omega) (by omega) ?_
                  refine x_cV (t := 6) (mj := 80) (n := 2) (rc := 8) (ml := 2) (nr := 0) (np := 20) (as := [x_r 1, iv_c (1 + (h123 1 2))]) (rest := []) (lo1 := [x_r 1, iv_c (1 + (h123 1 2))]) (by decide +kernel) (by decide) (by decide +kernel) (x_rb_of (by decide +kernel)) rfl rfl (x_wr (by decide) (x_wi (by omega) x_wn)) x_wn (by decide) rfl (c80_1n j124  (by omega)) (fun h308 q307 => ?_)
                  obtain ⟨j309, f310⟩ := q307
                  have f313 := Fr.trans f127 f310 (by decide)
                  refine x_const (np := 21) (x := 9223372043297226753) (a := 2147483649) (by decide +kernel) (by decide) (by decide) ?_
                  refine x_retI (np := 22) (x := 0) (by decide +kernel) (by decide) (Or.inr ⟨by decide +kernel, by omega, by omega⟩) ⟨_, rfl, (by decide), ?_⟩
                  refine x_ifz (k := 0) (tg := 210) (np := 184) (by decide +kernel) (by decide) (by decide) (fun q314 => ?_) (fun q315 => ?_)
                  · have q314 : 2147483649 = 2147483648 := q314
                    exfalso; omega
                  have q315 : ¬ (2147483649 = 2147483648) := q315
                  refine x_aload (np := 185) (x := 0) (by decide +kernel) rfl (x_nc_le (by decide)) ?_
                  refine x_cI (t := 6) (mj := 49) (n := 1) (rc := 4) (ml := 2) (nr := 0) (np := 188) (as := [x_r 62]) (rest := []) (lo1 := [x_r 62, 147573952589676412928]) (by decide +kernel) (by decide) (by decide +kernel) (x_rb_of (by decide +kernel)) rfl rfl (x_wr (by decide) x_wn) x_wn (by decide) rfl (c49_62 j309 ) (fun v316 h319 l317 q318 => ?_)
                  obtain ⟨j320, f321, b322⟩ := q318
                  have f323 := Fr.trans f313 f321 (by decide)
                  refine x_ifz (k := 0) (tg := 208) (np := 191) (by decide +kernel) (by decide) l317 (fun q324 => ?_) (fun q325 => ?_)
                  · have q324 : v316 = 2147483648 := q324
                    refine x_const (np := 209) (x := 9223372039002259456) (a := 2147483648) (by decide +kernel) (by decide) (by decide) ?_
                    refine x_retI (np := 210) (x := 0) (by decide +kernel) (by decide) (Or.inr ⟨by decide +kernel, by omega, by omega⟩) ⟨_, rfl, (by decide), ?_⟩
                    exact ⟨j320, f323, (by omega)⟩
                  have q325 : ¬ (v316 = 2147483648) := q325
                  refine x_aload (np := 192) (x := 0) (by decide +kernel) rfl (x_nc_le (by decide)) ?_
                  have q326 : h319 62 1 = h308 62 1 := f321 62 1 (by decide +kernel)
                  have q327 : h308 62 1 = h123 62 1 := f310 62 1 (by decide +kernel)
                  have q328 : h123 62 1 = h 62 1 := f125 62 1 (by decide +kernel)
                  obtain ⟨r329, q330, t331⟩ : ∃ z, (h 62 1) = z + 11 ∧ tw z := by
                    rcases hJ.2.2.2.2.2.2.2 with z | z
                    · exact ⟨17, by rw [z], Or.inl rfl⟩
                    · exact ⟨31, by rw [z], Or.inr rfl⟩
                  refine x_getR (np := 195) (x := 193) (f := 1) (q := (r329 + 11)) (by decide +kernel) (by decide) (by decide +kernel) (((q326.trans q327).trans q328).trans q330) ?_
                  refine x_const (np := 198) (x := 9223380633231820753) (a := 2147485649) (by decide +kernel) (by decide) (by decide) ?_
                  refine x_nI (t := 6) (mj := 36) (n := 2) (rc := 3) (ml := 2) (nr := 0) (np := 201) (as := [x_r (r329 + 11), iv_c 2147485649]) (rest := []) (lo1 := [x_r (r329 + 11), iv_c 2147485649]) (by decide +kernel) (by decide) (by decide +kernel) (x_rb_of (tr_11_3 t331)) rfl rfl (x_wr (tn_11 t331) (x_wi (by decide) x_wn)) x_wn (by decide) rfl ?_
                  refine x_aload (np := 1) (x := 0) (by decide +kernel) rfl (x_nc_le (tn_11 t331)) ?_
                  have b332 := jB (e := 2) 0 j320 (rg_T11_2_0_1 t331) (by omega) (by omega)
                  refine x_getC (np := 4) (x := 130) (f := 2) (q := (h319 (r329 + 11) 2)) (by decide +kernel) (by decide) (tg_11_130_2_0 t331) rfl (fun l333 => ?_)
                  refine x_const (np := 7) (x := 9223373756989178256) (a := 2147484048) (by decide +kernel) (by decide) (by decide) ?_
                  refine x_icmp (k := 2) (tg := 12) (np := 10) (by decide +kernel) (by decide) l333 (by decide) (fun q334 => ?_) (fun q335 => ?_)
                  · have q334 : (h319 (r329 + 11) 2) < 2147484048 := q334
                    refine x_aload (np := 13) (x := 0) (by decide +kernel) rfl (x_nc_le (tn_11 t331)) ?_
                    have q336 : h319 (r329 + 11) 0 = (r329 + 12) := tf_11_0 j320 t331
                    refine x_getR (np := 16) (x := 128) (f := 0) (q := (r329 + 12)) (by decide +kernel) (by decide) (tg_11_128_0_1 t331) q336 ?_
                    refine x_aload (np := 17) (x := 0) (by decide +kernel) rfl (x_nc_le (tn_11 t331)) ?_
                    refine x_getC (np := 20) (x := 130) (f := 2) (q := (h319 (r329 + 11) 2)) (by decide +kernel) (by decide) (tg_11_130_2_0 t331) rfl (fun l337 => ?_)
                    refine x_iload (np := 21) (x := 1) (by decide +kernel) rfl (by decide) ?_
                    obtain ⟨u338, q339⟩ : ∃ z, (h319 (r329 + 11) 2) = 2147483648 + z := ⟨(h319 (r329 + 11) 2) - 2147483648, by omega⟩
                    refine x_ast (np := 22) (x := 0) (kd := 1) (n := 400) (i := u338) (by decide +kernel) (Or.inl rfl) (ta_12_400 t331) (by omega) (by omega) (by decide) (by decide) (fun z => absurd z (by decide)) ?_
                    have j341 := jU (e := u338) (v := 2147485649) u338 j320 (rg_T12_0_1_400 t331) (by omega) (by omega) (by omega)
                    have f343 := jF (e := u338) (v := 2147485649) u338 f323 (rg_T12_0_1_400 t331) (by omega) (by omega) (by decide)
                    generalize e342 : x_up h319 (r329 + 12) u338 2147485649 = h340 at j341 f343 ⊢
                    refine x_aload (np := 23) (x := 0) (by decide +kernel) rfl (x_nc_le (tn_11 t331)) ?_
                    refine x_dup (np := 24) (x := 0) (by decide +kernel) (by have z := x_nc_le (k := (r329 + 11)) (tn_11 t331); unfold x_r; omega) ?_
                    have q344 : h340 (r329 + 11) 2 = h319 (r329 + 11) 2 := by rw [← e342]; exact x_up_k tof_11_12
                    refine x_getC (np := 27) (x := 130) (f := 2) (q := (h319 (r329 + 11) 2)) (by decide +kernel) (by decide) (tg_11_130_2_0 t331) q344 (fun l345 => ?_)
                    refine x_const (np := 28) (x := 9223372043297226753) (a := 2147483649) (by decide +kernel) (by decide) (by decide) ?_
                    refine x_iadd (np := 29) (x := 0) (v := (1 + (h319 (r329 + 11) 2))) (by decide +kernel) l333 (by decide) (by omega) (by omega) ?_
                    refine x_putI (np := 32) (x := 130) (f := 2) (by decide +kernel) (tg_11_130_2_0 t331) (by omega) (Or.inl (by decide)) ?_
                    have j347 := jU (e := 2) (v := (1 + (h319 (r329 + 11) 2))) 0 j341 (rg_T11_2_0_1 t331) (by omega) (by omega) (by omega)
                    have f349 := jF (e := 2) (v := (1 + (h319 (r329 + 11) 2))) 0 f343 (rg_T11_2_0_1 t331) (by omega) (by omega) (by decide)
                    generalize e348 : x_up h340 (r329 + 11) 2 (1 + (h319 (r329 + 11) 2)) = h346 at j347 f349 ⊢
                    refine x_const (np := 33) (x := 9223372043297226753) (a := 2147483649) (by decide +kernel) (by decide) (by decide) ?_
                    refine x_retI (np := 34) (x := 0) (by decide +kernel) (by decide) (Or.inr ⟨by decide +kernel, by omega, by omega⟩) ⟨_, rfl, (by decide), ?_⟩
                    refine x_ifz (k := 0) (tg := 208) (np := 204) (by decide +kernel) (by decide) (by decide) (fun q350 => ?_) (fun q351 => ?_)
                    · have q350 : 2147483649 = 2147483648 := q350
                      exfalso; omega
                    have q351 : ¬ (2147483649 = 2147483648) := q351
                    refine x_const (np := 205) (x := 9223372043297226753) (a := 2147483649) (by decide +kernel) (by decide) (by decide) ?_
                    refine x_goto (np := 208) (x := 209) (by decide +kernel) ?_
                    refine x_retI (np := 210) (x := 0) (by decide +kernel) (by decide) (Or.inr ⟨by decide +kernel, by omega, by omega⟩) ⟨_, rfl, (by decide), ?_⟩
                    exact ⟨j347, f349, (by omega)⟩
                  have q335 : ¬ ((h319 (r329 + 11) 2) < 2147484048) := q335
                  refine x_const (np := 11) (x := 9223372039002259456) (a := 2147483648) (by decide +kernel) (by decide) (by decide) ?_
                  refine x_retI (np := 12) (x := 0) (by decide +kernel) (by decide) (Or.inr ⟨by decide +kernel, by omega, by omega⟩) ⟨_, rfl, (by decide), ?_⟩
                  refine x_ifz (k := 0) (tg := 208) (np := 204) (by decide +kernel) (by decide) (by decide) (fun q352 => ?_) (fun q353 => ?_)
                  · have q352 : 2147483648 = 2147483648 := q352
                    refine x_const (np := 209) (x := 9223372039002259456) (a := 2147483648) (by decide +kernel) (by decide) (by decide) ?_
                    refine x_retI (np := 210) (x := 0) (by decide +kernel) (by decide) (Or.inr ⟨by decide +kernel, by omega, by omega⟩) ⟨_, rfl, (by decide), ?_⟩
                    exact ⟨j320, f323, (by omega)⟩
                  have q353 : ¬ (2147483648 = 2147483648) := q353
                  exfalso; omega
                have q303 : ¬ (2147483649 ≠ 2147483648) := q303
                exfalso; omega
              have q129 : ¬ (v120 ≠ 2147483648) := q129
              refine x_const (np := 171) (x := 9223372039002259456) (a := 2147483648) (by decide +kernel) (by decide) (by decide) ?_
              refine x_retI (np := 172) (x := 0) (by decide +kernel) (by decide) (Or.inr ⟨by decide +kernel, by omega, by omega⟩) ⟨_, rfl, (by decide), ?_⟩
              exact ⟨j124, f127, (by omega)⟩
            have q119 : ¬ (2147483648 = 2147483648) := q119
            exfalso; omega
          have q69 : ¬ (2147483648 = 2147483648) := q69
          exfalso; omega
        have q19 : ¬ (2147483648 = 2147483648) := q19
        exfalso; omega
      have q17 : ¬ (2147483647 ≠ 2147483688) := q17
      exfalso; omega
    have q15 : ¬ ((h 1 1) ≤ (h 1 2)) := q15
    refine x_aload (np := 9) (x := 0) (by decide +kernel) rfl (x_nc_le (by decide)) ?_
    have q354 : h 1 0 = 2 := by have z := jB (e := 0) 0 hJ rg_1_0_0_1 (by decide) (by decide); omega
    refine x_getR (np := 12) (x := 448) (f := 0) (q := 2) (by decide +kernel) (by decide) (by decide +kernel) q354 ?_
    refine x_iload (np := 13) (x := 1) (by decide +kernel) rfl l11 ?_
    obtain ⟨u355, q356⟩ : ∃ z, (h 1 2) = 2147483648 + z := ⟨(h 1 2) - 2147483648, by omega⟩
    refine x_aldC (np := 14) (x := 0) (n := 400) (i := u355) (q := (h 2 u355)) (by decide +kernel) (by decide +kernel) (by omega) (by omega) (by decide) rfl (fun l357 => ?_)
    refine x_goto (np := 17) (x := 18) (by decide +kernel) ?_
    refine x_retI (np := 19) (x := 0) (by decide +kernel) l357 (Or.inl (by decide +kernel)) ⟨_, rfl, l357, ?_⟩
    refine x_iload (np := 9) (x := 1) (by decide +kernel) rfl (by decide) ?_
    refine x_icmp (k := 1) (tg := 16) (np := 12) (by decide +kernel) (by decide) l357 (by decide) (fun q358 => ?_) (fun q359 => ?_)
    · have q358 : (h 2 u355) ≠ 2147483688 := q358
      refine x_const (np := 17) (x := 9223372039002259456) (a := 2147483648) (by decide +kernel) (by decide) (by decide) ?_
      refine x_retI (np := 18) (x := 0) (by decide +kernel) (by decide) (Or.inr ⟨by decide +kernel, by omega, by omega⟩) ⟨_, rfl, (by decide), ?_⟩
      refine x_ifz (k := 0) (tg := 117) (np := 71) (by decide +kernel) (by decide) (by decide) (fun q360 => ?_) (fun q361 => ?_)
      · have q360 : 2147483648 = 2147483648 := q360
        refine x_aload (np := 118) (x := 0) (by decide +kernel) rfl (x_nc_le (by decide)) ?_
        have q362 : h 62 0 = 1 := by have z := jB (e := 0) 0 hJ rg_62_0_0_1 (by decide) (by decide); omega
        refine x_getR (np := 121) (x := 192) (f := 0) (q := 1) (by decide +kernel) (by decide) (by decide +kernel) q362 ?_
        refine x_ldcB (i := 25) (idx := 79) (tx := "own") (by rw [tb_y48]; exact List.mem_of_getElem? (i := 25) rfl) (by decide) (by rw [tb_b48]; decide +kernel) ?_
        refine x_nI (t := 6) (mj := 78) (n := 2) (rc := 8) (ml := 2) (nr := 0) (np := 126) (as := [x_r 1, x_b (25 + 1)]) (rest := []) (lo1 := [x_r 1, x_b (25 + 1)]) (by decide +kernel) (by decide) (by decide +kernel) (x_rb_of (by decide +kernel)) rfl rfl (x_wr (by decide) (x_wB (by decide) x_wn)) x_wn (by decide) rfl ?_
        refine x_aload (np := 1) (x := 0) (by decide +kernel) rfl (x_nc_le (by decide)) ?_
        refine x_aloadB (i := 25) (k4 := 1) rfl (by decide) (by rw [tb_b78]; decide +kernel) ?_
        refine x_cP (t := 6) (mj := 77) (n := 2) (rc := 8) (ml := 4) (nr := 0) (np := 5) (as := [x_r 1, x_b (25 + 1)]) (rest := []) (lo1 := [x_r 1, x_b (25 + 1), 147573952589676412928, 147573952589676412928]) (by decide +kernel) (by decide) (by decide +kernel) (x_rb_of (by decide +kernel)) rfl rfl (x_wr (by decide) (x_wB (by decide) x_wn)) x_wn (by decide) rfl (c77_1_S0 hJ  (by decide)) (fun v363 l364 q365 => ?_)
        obtain ⟨b367, c366⟩ := q365
        refine x_ifz (k := 1) (tg := 10) (np := 8) (by decide +kernel) (by decide) l364 (fun q368 => ?_) (fun q369 => ?_)
        · have q368 : v363 ≠ 2147483648 := q368
          have b370 := c366 (by omega)
          refine x_aload (np := 11) (x := 0) (by decide +kernel) rfl (x_nc_le (by decide)) ?_
          refine x_aload (np := 12) (x := 0) (by decide +kernel) rfl (x_nc_le (by decide)) ?_
          refine x_getC (np := 15) (x := 450) (f := 2) (q := (h 1 2)) (by decide +kernel) (by decide) (by decide +kernel) rfl (fun l371 => ?_)
          refine x_aloadB (i := 25) (k4 := 1) rfl (by decide) (by rw [tb_b78]; decide +kernel) ?_
          have b372 := (iv_tl_lt 25 (by decide)).1
          have b373 := iv_tl_ge 25 (by decide)
          refine x_len (by decide +kernel) (by rw [tb_y78]; exact sl_Tl) (by decide) (by rw [tb_b78]; decide +kernel) (Nat.le_trans (x_wi l11 (x_wr (by decide) x_wn)) (by decide)) ?_
          refine x_iadd (np := 20) (x := 0) (v := ((h 1 2) + (iv_tl 25))) (by decide +kernel) l11 (by omega) (by omega) (by omega) ?_
          refine x_cV (t := 6) (mj := 80) (n := 2) (rc := 8) (ml := 2) (nr := 0) (np := 23) (as := [x_r 1, iv_c ((h 1 2) + (iv_tl 25))]) (rest := []) (lo1 := [x_r 1, iv_c ((h 1 2) + (iv_tl 25))]) (by decide +kernel) (by decide) (by decide +kernel) (x_rb_of (by decide +kernel)) rfl rfl (x_wr (by decide) (x_wi (by omega) x_wn)) x_wn (by decide) rfl (c80_1n hJ  (by omega)) (fun h377 q376 => ?_)
          obtain ⟨j378, f379⟩ := q376
          have f382 := Fr.trans hF f379 (by decide)
          refine x_const (np := 24) (x := 9223372043297226753) (a := 2147483649) (by decide +kernel) (by decide) (by decide) ?_
          refine x_retI (np := 25) (x := 0) (by decide +kernel) (by decide) (Or.inr ⟨by decide +kernel, by omega, by omega⟩) ⟨_, rfl, (by decide), ?_⟩
          refine x_ifz (k := 0) (tg := 140) (np := 129) (by decide +kernel) (by decide) (by decide) (fun q383 => ?_) (fun q384 => ?_)
          · have q383 : 2147483649 = 2147483648 := q383
            exfalso; omega
          have q384 : ¬ (2147483649 = 2147483648) := q384
          refine x_aload (np := 130) (x := 0) (by decide +kernel) rfl (x_nc_le (by decide)) ?_
          have q385 : h377 62 1 = h 62 1 := f379 62 1 (by decide +kernel)
          obtain ⟨r386, q387, t388⟩ : ∃ z, (h 62 1) = z + 11 ∧ tw z := by
            rcases hJ.2.2.2.2.2.2.2 with z | z
            · exact ⟨17, by rw [z], Or.inl rfl⟩
            · exact ⟨31, by rw [z], Or.inr rfl⟩
          refine x_getR (np := 133) (x := 193) (f := 1) (q := (r386 + 11)) (by decide +kernel) (by decide) (by decide +kernel) (q385.trans q387) ?_
          refine x_const (np := 136) (x := 9223376359739360238) (a := 2147484654) (by decide +kernel) (by decide) (by decide) ?_
          refine x_nI (t := 6) (mj := 36) (n := 2) (rc := 3) (ml := 2) (nr := 0) (np := 139) (as := [x_r (r386 + 11), iv_c 2147484654]) (rest := []) (lo1 := [x_r (r386 + 11), iv_c 2147484654]) (by decide +kernel) (by decide) (by decide +kernel) (x_rb_of (tr_11_3 t388)) rfl rfl (x_wr (tn_11 t388) (x_wi (by decide) x_wn)) x_wn (by decide) rfl ?_
          refine x_aload (np := 1) (x := 0) (by decide +kernel) rfl (x_nc_le (tn_11 t388)) ?_
          have q389 : h377 (r386 + 11) 2 = h (r386 + 11) 2 := jK 0 f379 (rg_T11_2_0_1 t388) (by omega) (by omega) (by decide)
          have b390 := jB (e := 2) 0 hJ (rg_T11_2_0_1 t388) (by omega) (by omega)
          refine x_getC (np := 4) (x := 130) (f := 2) (q := (h (r386 + 11) 2)) (by decide +kernel) (by decide) (tg_11_130_2_0 t388) q389 (fun l391 => ?_)
          refine x_const (np := 7) (x := 9223373756989178256) (a := 2147484048) (by decide +kernel) (by decide) (by decide) ?_
          refine x_icmp (k := 2) (tg := 12) (np := 10) (by decide +kernel) (by decide) l391 (by decide) (fun q392 => ?_) (fun q393 => ?_)
          · have q392 : (h (r386 + 11) 2) < 2147484048 := q392
            refine x_aload (np := 13) (x := 0) (by decide +kernel) rfl (x_nc_le (tn_11 t388)) ?_
            have q394 : h377 (r386 + 11) 0 = (r386 + 12) := tf_11_0 j378 t388
            refine x_getR (np := 16) (x := 128) (f := 0) (q := (r386 + 12)) (by decide +kernel) (by decide) (tg_11_128_0_1 t388) q394 ?_
            refine x_aload (np := 17) (x := 0) (by decide +kernel) rfl (x_nc_le (tn_11 t388)) ?_
            have q395 : h377 (r386 + 11) 2 = h (r386 + 11) 2 := jK 0 f379 (rg_T11_2_0_1 t388) (by omega) (by omega) (by decide)
            refine x_getC (np := 20) (x := 130) (f := 2) (q := (h (r386 + 11) 2)) (by decide +kernel) (by decide) (tg_11_130_2_0 t388) q395 (fun l396 => ?_)
            refine x_iload (np := 21) (x := 1) (by decide +kernel) rfl (by decide) ?_
            obtain ⟨u397, q398⟩ : ∃ z, (h (r386 + 11) 2) = 2147483648 + z := ⟨(h (r386 + 11) 2) - 2147483648, by omega⟩
            refine x_ast (np := 22) (x := 0) (kd := 1) (n := 400) (i := u397) (by decide +kernel) (Or.inl rfl) (ta_12_400 t388) (by omega) (by omega) (by decide) (by decide) (fun z => absurd z (by decide)) ?_
            have j400 := jU (e := u397) (v := 2147484654) u397 j378 (rg_T12_0_1_400 t388) (by omega) (by omega) (by omega)
            have f402 := jF (e := u397) (v := 2147484654) u397 f382 (rg_T12_0_1_400 t388) (by omega) (by omega) (by decide)
            generalize e401 : x_up h377 (r386 + 12) u397 2147484654 = h399 at j400 f402 ⊢
            refine x_aload (np := 23) (x := 0) (by decide +kernel) rfl (x_nc_le (tn_11 t388)) ?_
            refine x_dup (np := 24) (x := 0) (by decide +kernel) (by have z := x_nc_le (k := (r386 + 11)) (tn_11 t388); unfold x_r; omega) ?_
            have q403 : h399 (r386 + 11) 2 = h377 (r386 + 11) 2 := by rw [← e401]; exact x_up_k tof_11_12
            have q404 : h377 (r386 + 11) 2 = h (r386 + 11) 2 := jK 0 f379 (rg_T11_2_0_1 t388) (by omega) (by omega) (by decide)
            refine x_getC (np := 27) (x := 130) (f := 2) (q := (h (r386 + 11) 2)) (by decide +kernel) (by decide) (tg_11_130_2_0 t388) (q403.trans q404) (fun l405 => ?_)
            refine x_const (np := 28) (x := 9223372043297226753) (a := 2147483649) (by decide +kernel) (by decide) (by decide) ?_
            refine x_iadd (np := 29) (x := 0) (v := (1 + (h (r386 + 11) 2))) (by decide +kernel) l391 (by decide) (by omega) (by omega) ?_
            refine x_putI (np := 32) (x := 130) (f := 2) (by decide +kernel) (tg_11_130_2_0 t388) (by omega) (Or.inl (by decide)) ?_
            have j407 := jU (e := 2) (v := (1 + (h (r386 + 11) 2))) 0 j400 (rg_T11_2_0_1 t388) (by omega) (by omega) (by omega)
            have f409 := jF (e := 2) (v := (1 + (h (r386 + 11) 2))) 0 f402 (rg_T11_2_0_1 t388) (by omega) (by omega) (by decide)
            generalize e408 : x_up h399 (r386 + 11) 2 (1 + (h (r386 + 11) 2)) = h406 at j407 f409 ⊢
            refine x_const (np := 33) (x := 9223372043297226753) (a := 2147483649) (by decide +kernel) (by decide) (by decide) ?_
            refine x_retI (np := 34) (x := 0) (by decide +kernel) (by decide) (Or.inr ⟨by decide +kernel, by omega, by omega⟩) ⟨_, rfl, (by decide), ?_⟩
            refine x_retI (np := 140) (x := 0) (by decide +kernel) (by decide) (Or.inr ⟨by decide +kernel, by omega, by omega⟩) ⟨_, rfl, (by decide), ?_⟩
            exact ⟨j407, f409, (by omega)⟩
          have q393 : ¬ ((h (r386 + 11) 2) < 2147484048) := q393
          refine x_const (np := 11) (x := 9223372039002259456) (a := 2147483648) (by decide +kernel) (by decide) (by decide) ?_
          refine x_retI (np := 12) (x := 0) (by decide +kernel) (by decide) (Or.inr ⟨by decide +kernel, by omega, by omega⟩) ⟨_, rfl, (by decide), ?_⟩
          refine x_retI (np := 140) (x := 0) (by decide +kernel) (by decide) (Or.inr ⟨by decide +kernel, by omega, by omega⟩) ⟨_, rfl, (by decide), ?_⟩
          exact ⟨j378, f382, (by omega)⟩
        have q369 : ¬ (v363 ≠ 2147483648) := q369
        refine x_const (np := 9) (x := 9223372039002259456) (a := 2147483648) (by decide +kernel) (by decide) (by decide) ?_
        refine x_retI (np := 10) (x := 0) (by decide +kernel) (by decide) (Or.inr ⟨by decide +kernel, by omega, by omega⟩) ⟨_, rfl, (by decide), ?_⟩
        refine x_ifz (k := 0) (tg := 140) (np := 129) (by decide +kernel) (by decide) (by decide) (fun q410 => ?_) (fun q411 => ?_)
        · have q410 : 2147483648 = 2147483648 := q410
          refine x_aload (np := 141) (x := 0) (by decide +kernel) rfl (x_nc_le (by decide)) ?_
          have q412 : h 62 0 = 1 := by have z := jB (e := 0) 0 hJ rg_62_0_0_1 (by decide) (by decide); omega
          refine x_getR (np := 144) (x := 192) (f := 0) (q := 1) (by decide +kernel) (by decide) (by decide +kernel) q412 ?_
          refine x_ldcB (i := 26) (idx := 81) (tx := "mine") (by rw [tb_y48]; exact List.mem_of_getElem? (i := 26) rfl) (by decide) (by rw [tb_b48]; decide +kernel) ?_
          refine x_nI (t := 6) (mj := 78) (n := 2) (rc := 8) (ml := 2) (nr := 0) (np := 149) (as := [x_r 1, x_b (26 + 1)]) (rest := []) (lo1 := [x_r 1, x_b (26 + 1)]) (by decide +kernel) (by decide) (by decide +kernel) (x_rb_of (by decide +kernel)) rfl rfl (x_wr (by decide) (x_wB (by decide) x_wn)) x_wn (by decide) rfl ?_
          refine x_aload (np := 1) (x := 0) (by decide +kernel) rfl (x_nc_le (by decide)) ?_
          refine x_aloadB (i := 26) (k4 := 1) rfl (by decide) (by rw [tb_b78]; decide +kernel) ?_
          refine x_cP (t := 6) (mj := 77) (n := 2) (rc := 8) (ml := 4) (nr := 0) (np := 5) (as := [x_r 1, x_b (26 + 1)]) (rest := []) (lo1 := [x_r 1, x_b (26 + 1), 147573952589676412928, 147573952589676412928]) (by decide +kernel) (by decide) (by decide +kernel) (x_rb_of (by decide +kernel)) rfl rfl (x_wr (by decide) (x_wB (by decide) x_wn)) x_wn (by decide) rfl (c77_1_S0 hJ  (by decide)) (fun v413 l414 q415 => ?_)
          obtain ⟨b417, c416⟩ := q415
          refine x_ifz (k := 1) (tg := 10) (np := 8) (by decide +kernel) (by decide) l414 (fun q418 => ?_) (fun q419 => ?_)
          · have q418 : v413 ≠ 2147483648 := q418
            have b420 := c416 (by omega)
            refine x_aload (np := 11) (x := 0) (by decide +kernel) rfl (x_nc_le (by decide)) ?_
            refine x_aload (np := 12) (x := 0) (by decide +kernel) rfl (x_nc_le (by decide)) ?_
            refine x_getC (np := 15) (x := 450) (f := 2) (q := (h 1 2)) (by decide +kernel) (by decide) (by decide +kernel) rfl (fun l421 => ?_)
            refine x_aloadB (i := 26) (k4 := 1) rfl (by decide) (by rw [tb_b78]; decide +kernel) ?_
            have b422 := (iv_tl_lt 26 (by decide)).1
            have b423 := iv_tl_ge 26 (by decide)
            refine x_len (by decide +kernel) (by rw [tb_y78]; exact sl_Tl) (by decide) (by rw [tb_b78]; decide +kernel) (Nat.le_trans (x_wi l11 (x_wr (by decide) x_wn)) (by decide)) ?_
            refine x_iadd (np := 20) (x := 0) (v := ((h 1 2) + (iv_tl 26))) (by decide +kernel) l11 (by omega) (by omega) (by omega) ?_
            refine x_cV (t := 6) (mj := 80) (n := 2) (rc := 8) (ml := 2) (nr := 0) (np := 23) (as := [x_r 1, iv_c ((h 1 2) + (iv_tl 26))]) (rest := []) (lo1 := [x_r 1, iv_c ((h 1 2) + (iv_tl 26))]) (by decide +kernel) (by decide) (by decide +kernel) (x_rb_of (by decide +kernel)) rfl rfl (x_wr (by decide) (x_wi (by omega) x_wn)) x_wn (by decide) rfl (c80_1n hJ  (by omega)) (fun h427 q426 => ?_)
            obtain ⟨j428, f429⟩ := q426
            have f432 := Fr.trans hF f429 (by decide)
            refine x_const (np := 24) (x := 9223372043297226753) (a := 2147483649) (by decide +kernel) (by decide) (by decide) ?_
            refine x_retI (np := 25) (x := 0) (by decide +kernel) (by decide) (Or.inr ⟨by decide +kernel, by omega, by omega⟩) ⟨_, rfl, (by decide), ?_⟩
            refine x_ifz (k := 0) (tg := 163) (np := 152) (by decide +kernel) (by decide) (by decide) (fun q433 => ?_) (fun q434 => ?_)
            · have q433 : 2147483649 = 2147483648 := q433
              exfalso; omega
            have q434 : ¬ (2147483649 = 2147483648) := q434
            refine x_aload (np := 153) (x := 0) (by decide +kernel) rfl (x_nc_le (by decide)) ?_
            have q435 : h427 62 1 = h 62 1 := f429 62 1 (by decide +kernel)
            obtain ⟨r436, q437, t438⟩ : ∃ z, (h 62 1) = z + 11 ∧ tw z := by
              rcases hJ.2.2.2.2.2.2.2 with z | z
              · exact ⟨17, by rw [z], Or.inl rfl⟩
              · exact ⟨31, by rw [z], Or.inr rfl⟩
            refine x_getR (np := 156) (x := 193) (f := 1) (q := (r436 + 11)) (by decide +kernel) (by decide) (by decide +kernel) (q435.trans q437) ?_
            refine x_const (np := 159) (x := 9223376364034327535) (a := 2147484655) (by decide +kernel) (by decide) (by decide) ?_
            refine x_nI (t := 6) (mj := 36) (n := 2) (rc := 3) (ml := 2) (nr := 0) (np := 162) (as := [x_r (r436 + 11), iv_c 2147484655]) (rest := []) (lo1 := [x_r (r436 + 11), iv_c 2147484655]) (by decide +kernel) (by decide) (by decide +kernel) (x_rb_of (tr_11_3 t438)) rfl rfl (x_wr (tn_11 t438) (x_wi (by decide) x_wn)) x_wn (by decide) rfl ?_
            refine x_aload (np := 1) (x := 0) (by decide +kernel) rfl (x_nc_le (tn_11 t438)) ?_
            have q439 : h427 (r436 + 11) 2 = h (r436 + 11) 2 := jK 0 f429 (rg_T11_2_0_1 t438) (by omega) (by omega) (by decide)
            have b440 := jB (e := 2) 0 hJ (rg_T11_2_0_1 t438) (by omega) (by omega)
            refine x_getC (np := 4) (x := 130) (f := 2) (q := (h (r436 + 11) 2)) (by decide +kernel) (by decide) (tg_11_130_2_0 t438) q439 (fun l441 => ?_)
            refine x_const (np := 7) (x := 9223373756989178256) (a := 2147484048) (by decide +kernel) (by decide) (by decide) ?_
            refine x_icmp (k := 2) (tg := 12) (np := 10) (by decide +kernel) (by decide) l441 (by decide) (fun q442 => ?_) (fun q443 => ?_)
            · have q442 : (h (r436 + 11) 2) < 2147484048 := q442
              refine x_aload (np := 13) (x := 0) (by decide +kernel) rfl (x_nc_le (tn_11 t438)) ?_
              have q444 : h427 (r436 + 11) 0 = (r436 + 12) := tf_11_0 j428 t438
              refine x_getR (np := 16) (x := 128) (f := 0) (q := (r436 + 12)) (by decide +kernel) (by decide) (tg_11_128_0_1 t438) q444 ?_
              refine x_aload (np := 17) (x := 0) (by decide +kernel) rfl (x_nc_le (tn_11 t438)) ?_
              have q445 : h427 (r436 + 11) 2 = h (r436 + 11) 2 := jK 0 f429 (rg_T11_2_0_1 t438) (by omega) (by omega) (by decide)
              refine x_getC (np := 20) (x := 130) (f := 2) (q := (h (r436 + 11) 2)) (by decide +kernel) (by decide) (tg_11_130_2_0 t438) q445 (fun l446 => ?_)
              refine x_iload (np := 21) (x := 1) (by decide +kernel) rfl (by decide) ?_
              obtain ⟨u447, q448⟩ : ∃ z, (h (r436 + 11) 2) = 2147483648 + z := ⟨(h (r436 + 11) 2) - 2147483648, by omega⟩
              refine x_ast (np := 22) (x := 0) (kd := 1) (n := 400) (i := u447) (by decide +kernel) (Or.inl rfl) (ta_12_400 t438) (by omega) (by omega) (by decide) (by decide) (fun z => absurd z (by decide)) ?_
              have j450 := jU (e := u447) (v := 2147484655) u447 j428 (rg_T12_0_1_400 t438) (by omega) (by omega) (by omega)
              have f452 := jF (e := u447) (v := 2147484655) u447 f432 (rg_T12_0_1_400 t438) (by omega) (by omega) (by decide)
              generalize e451 : x_up h427 (r436 + 12) u447 2147484655 = h449 at j450 f452 ⊢
              refine x_aload (np := 23) (x := 0) (by decide +kernel) rfl (x_nc_le (tn_11 t438)) ?_
              refine x_dup (np := 24) (x := 0) (by decide +kernel) (by have z := x_nc_le (k := (r436 + 11)) (tn_11 t438); unfold x_r; omega) ?_
              have q453 : h449 (r436 + 11) 2 = h427 (r436 + 11) 2 := by rw [← e451]; exact x_up_k tof_11_12
              have q454 : h427 (r436 + 11) 2 = h (r436 + 11) 2 := jK 0 f429 (rg_T11_2_0_1 t438) (by omega) (by omega) (by decide)
              refine x_getC (np := 27) (x := 130) (f := 2) (q := (h (r436 + 11) 2)) (by decide +kernel) (by decide) (tg_11_130_2_0 t438) (q453.trans q454) (fun l455 => ?_)
              refine x_const (np := 28) (x := 9223372043297226753) (a := 2147483649) (by decide +kernel) (by decide) (by decide) ?_
              refine x_iadd (np := 29) (x := 0) (v := (1 + (h (r436 + 11) 2))) (by decide +kernel) l441 (by decide) (by omega) (by omega) ?_
              refine x_putI (np := 32) (x := 130) (f := 2) (by decide +kernel) (tg_11_130_2_0 t438) (by omega) (Or.inl (by decide)) ?_
              have j457 := jU (e := 2) (v := (1 + (h (r436 + 11) 2))) 0 j450 (rg_T11_2_0_1 t438) (by omega) (by omega) (by omega)
              have f459 := jF (e := 2) (v := (1 + (h (r436 + 11) 2))) 0 f452 (rg_T11_2_0_1 t438) (by omega) (by omega) (by decide)
              generalize e458 : x_up h449 (r436 + 11) 2 (1 + (h (r436 + 11) 2)) = h456 at j457 f459 ⊢
              refine x_const (np := 33) (x := 9223372043297226753) (a := 2147483649) (by decide +kernel) (by decide) (by decide) ?_
              refine x_retI (np := 34) (x := 0) (by decide +kernel) (by decide) (Or.inr ⟨by decide +kernel, by omega, by omega⟩) ⟨_, rfl, (by decide), ?_⟩
              refine x_retI (np := 163) (x := 0) (by decide +kernel) (by decide) (Or.inr ⟨by decide +kernel, by omega, by omega⟩) ⟨_, rfl, (by decide), ?_⟩
              exact ⟨j457, f459, (by omega)⟩
            have q443 : ¬ ((h (r436 + 11) 2) < 2147484048) := q443
            refine x_const (np := 11) (x := 9223372039002259456) (a := 2147483648) (by decide +kernel) (by decide) (by decide) ?_
            refine x_retI (np := 12) (x := 0) (by decide +kernel) (by decide) (Or.inr ⟨by decide +kernel, by omega, by omega⟩) ⟨_, rfl, (by decide), ?_⟩
            refine x_retI (np := 163) (x := 0) (by decide +kernel) (by decide) (Or.inr ⟨by decide +kernel, by omega, by omega⟩) ⟨_, rfl, (by decide), ?_⟩
            exact ⟨j428, f432, (by omega)⟩
          have q419 : ¬ (v413 ≠ 2147483648) := q419
          refine x_const (np := 9) (x := 9223372039002259456) (a := 2147483648) (by decide +kernel) (by decide) (by decide) ?_
          refine x_retI (np := 10) (x := 0) (by decide +kernel) (by decide) (Or.inr ⟨by decide +kernel, by omega, by omega⟩) ⟨_, rfl, (by decide), ?_⟩
          refine x_ifz (k := 0) (tg := 163) (np := 152) (by decide +kernel) (by decide) (by decide) (fun q460 => ?_) (fun q461 => ?_)
          · have q460 : 2147483648 = 2147483648 := q460
            refine x_aload (np := 164) (x := 0) (by decide +kernel) rfl (x_nc_le (by decide)) ?_
            refine x_cI (t := 6) (mj := 49) (n := 1) (rc := 4) (ml := 2) (nr := 0) (np := 167) (as := [x_r 62]) (rest := []) (lo1 := [x_r 62, 147573952589676412928]) (by decide +kernel) (by decide) (by decide +kernel) (x_rb_of (by decide +kernel)) rfl rfl (x_wr (by decide) x_wn) x_wn (by decide) rfl (c49_62 hJ ) (fun v462 h465 l463 q464 => ?_)
            obtain ⟨j466, f467, b468⟩ := q464
            have f469 := Fr.trans hF f467 (by decide)
            refine x_ifz (k := 1) (tg := 172) (np := 170) (by decide +kernel) (by decide) l463 (fun q470 => ?_) (fun q471 => ?_)
            · have q470 : v462 ≠ 2147483648 := q470
              refine x_aload (np := 173) (x := 0) (by decide +kernel) rfl (x_nc_le (by decide)) ?_
              have q472 : h465 62 0 = 1 := by have z := jB (e := 0) 0 j466 rg_62_0_0_1 (by decide) (by decide); omega
              refine x_getR (np := 176) (x := 192) (f := 0) (q := 1) (by decide +kernel) (by decide) (by decide +kernel) q472 ?_
              refine x_const (np := 178) (x := 9223372296700297276) (a := 2147483708) (by decide +kernel) (by decide) (by decide) ?_
              refine x_nI (t := 6) (mj := 76) (n := 2) (rc := 8) (ml := 2) (nr := 0) (np := 181) (as := [x_r 1, iv_c 2147483708]) (rest := []) (lo1 := [x_r 1, iv_c 2147483708]) (by decide +kernel) (by decide) (by decide +kernel) (x_rb_of (by decide +kernel)) rfl rfl (x_wr (by decide) (x_wi (by decide) x_wn)) x_wn (by decide) rfl ?_
              refine x_aload (np := 1) (x := 0) (by decide +kernel) rfl (x_nc_le (by decide)) ?_
              refine x_iload (np := 2) (x := 1) (by decide +kernel) rfl (by decide) ?_
              refine x_nI (t := 6) (mj := 75) (n := 2) (rc := 8) (ml := 2) (nr := 0) (np := 5) (as := [x_r 1, iv_c 2147483708]) (rest := []) (lo1 := [x_r 1, iv_c 2147483708]) (by decide +kernel) (by decide) (by decide +kernel) (x_rb_of (by decide +kernel)) rfl rfl (x_wr (by decide) (x_wi (by decide) x_wn)) x_wn (by decide) rfl ?_
              refine x_aload (np := 1) (x := 0) (by decide +kernel) rfl (x_nc_le (by decide)) ?_
              refine x_aload (np := 2) (x := 0) (by decide +kernel) rfl (x_nc_le (by decide)) ?_
              have b473 := jB (e := 2) 0 j466 rg_1_2_0_1 (by omega) (by omega)
              refine x_getC (np := 5) (x := 450) (f := 2) (q := (h465 1 2)) (by decide +kernel) (by decide) (by decide +kernel) rfl (fun l474 => ?_)
              refine x_nI (t := 6) (mj := 81) (n := 2) (rc := 8) (ml := 2) (nr := 0) (np := 8) (as := [x_r 1, iv_c (h465 1 2)]) (rest := []) (lo1 := [x_r 1, iv_c (h465 1 2)]) (by decide +kernel) (by decide) (by decide +kernel) (x_rb_of (by decide +kernel)) rfl rfl (x_wr (by decide) (x_wi l474 x_wn)) x_wn (by decide) rfl ?_
              refine x_iload (np := 1) (x := 1) (by decide +kernel) rfl l474 ?_
              refine x_aload (np := 2) (x := 0) (by decide +kernel) rfl (x_nc_le (by decide)) ?_
              have q475 : h465 1 1 = h 1 1 := jK 0 f467 rg_1_1_0_1 (by omega) (by omega) (by decide)
              refine x_getC (np := 5) (x := 449) (f := 1) (q := (h 1 1)) (by decide +kernel) (by decide) (by decide +kernel) q475 (fun l476 => ?_)
              refine x_icmp (k := 3) (tg := 17) (np := 8) (by decide +kernel) (by decide) l474 l13 (fun q477 => ?_) (fun q478 => ?_)
              · have q477 : (h 1 1) ≤ (h465 1 2) := q477
                refine x_const (np := 18) (x := 9223372034707292159) (a := 2147483647) (by decide +kernel) (by decide) (by decide) ?_
                refine x_retI (np := 19) (x := 0) (by decide +kernel) (by decide) (Or.inl (by decide +kernel)) ⟨_, rfl, (by decide), ?_⟩
                refine x_iload (np := 9) (x := 1) (by decide +kernel) rfl (by decide) ?_
                refine x_icmp (k := 1) (tg := 16) (np := 12) (by decide +kernel) (by decide) (by decide) (by decide) (fun q479 => ?_) (fun q480 => ?_)
                · have q479 : 2147483647 ≠ 2147483708 := q479
                  refine x_const (np := 17) (x := 9223372039002259456) (a := 2147483648) (by decide +kernel) (by decide) (by decide) ?_
                  refine x_retI (np := 18) (x := 0) (by decide +kernel) (by decide) (Or.inr ⟨by decide +kernel, by omega, by omega⟩) ⟨_, rfl, (by decide), ?_⟩
                  refine x_ifz (k := 1) (tg := 10) (np := 8) (by decide +kernel) (by decide) (by decide) (fun q481 => ?_) (fun q482 => ?_)
                  · have q481 : 2147483648 ≠ 2147483648 := q481
                    exfalso; omega
                  have q482 : ¬ (2147483648 ≠ 2147483648) := q482
                  refine x_const (np := 9) (x := 9223372039002259456) (a := 2147483648) (by decide +kernel) (by decide) (by decide) ?_
                  refine x_retI (np := 10) (x := 0) (by decide +kernel) (by decide) (Or.inr ⟨by decide +kernel, by omega, by omega⟩) ⟨_, rfl, (by decide), ?_⟩
                  refine x_ifz (k := 0) (tg := 210) (np := 184) (by decide +kernel) (by decide) (by decide) (fun q483 => ?_) (fun q484 => ?_)
                  · have q483 : 2147483648 = 2147483648 := q483
                    refine x_aload (np := 211) (x := 0) (by decide +kernel) rfl (x_nc_le (by decide)) ?_
                    have q485 : h465 62 0 = 1 := by have z := jB (e := 0) 0 j466 rg_62_0_0_1 (by decide) (by decide); omega
                    refine x_getR (np := 214) (x := 192) (f := 0) (q := 1) (by decide +kernel) (by decide) (by decide +kernel) q485 ?_
                    refine x_const (np := 216) (x := 9223372305290231870) (a := 2147483710) (by decide +kernel) (by decide) (by decide) ?_
                    refine x_nI (t := 6) (mj := 76) (n := 2) (rc := 8) (ml := 2) (nr := 0) (np := 219) (as := [x_r 1, iv_c 2147483710]) (rest := []) (lo1 := [x_r 1, iv_c 2147483710]) (by decide +kernel) (by decide) (by decide +kernel) (x_rb_of (by decide +kernel)) rfl rfl (x_wr (by decide) (x_wi (by decide) x_wn)) x_wn (by decide) rfl ?_
                    refine x_aload (np := 1) (x := 0) (by decide +kernel) rfl (x_nc_le (by decide)) ?_
                    refine x_iload (np := 2) (x := 1) (by decide +kernel) rfl (by decide) ?_
                    refine x_nI (t := 6) (mj := 75) (n := 2) (rc := 8) (ml := 2) (nr := 0) (np := 5) (as := [x_r 1, iv_c 2147483710]) (rest := []) (lo1 := [x_r 1, iv_c 2147483710]) (by decide +kernel) (by decide) (by decide +kernel) (x_rb_of (by decide +kernel)) rfl rfl (x_wr (by decide) (x_wi (by decide) x_wn)) x_wn (by decide) rfl ?_
                    refine x_aload (np := 1) (x := 0) (by decide +kernel) rfl (x_nc_le (by decide)) ?_
                    refine x_aload (np := 2) (x := 0) (by decide +kernel) rfl (x_nc_le (by decide)) ?_
                    refine x_getC (np := 5) (x := 450) (f := 2) (q := (h465 1 2)) (by decide +kernel) (by decide) (by decide +kernel) rfl (fun l486 => ?_)
                    refine x_nI (t := 6) (mj := 81) (n := 2) (rc := 8) (ml := 2) (nr := 0) (np := 8) (as := [x_r 1, iv_c (h465 1 2)]) (rest := []) (lo1 := [x_r 1, iv_c (h465 1 2)]) (by decide +kernel) (by decide) (by decide +kernel) (x_rb_of (by decide +kernel)) rfl rfl (x_wr (by decide) (x_wi l474 x_wn)) x_wn (by decide) rfl ?_
                    refine x_iload (np := 1) (x := 1) (by decide +kernel) rfl l474 ?_
                    refine x_aload (np := 2) (x := 0) (by decide +kernel) rfl (x_nc_le (by decide)) ?_
                    have q487 : h465 1 1 = h 1 1 := jK 0 f467 rg_1_1_0_1 (by omega) (by omega) (by decide)
                    refine x_getC (np := 5) (x := 449) (f := 1) (q := (h 1 1)) (by decide +kernel) (by decide) (by decide +kernel) q487 (fun l488 => ?_)
                    refine x_icmp (k := 3) (tg := 17) (np := 8) (by decide +kernel) (by decide) l474 l13 (fun q489 => ?_) (fun q490 => ?_)
                    · have q489 : (h 1 1) ≤ (h465 1 2) := q489
                      refine x_const (np := 18) (x := 9223372034707292159) (a := 2147483647) (by decide +kernel) (by decide) (by decide) ?_
                      refine x_retI (np := 19) (x := 0) (by decide +kernel) (by decide) (Or.inl (by decide +kernel)) ⟨_, rfl, (by decide), ?_⟩
                      refine x_iload (np := 9) (x := 1) (by decide +kernel) rfl (by decide) ?_
                      refine x_icmp (k := 1) (tg := 16) (np := 12) (by decide +kernel) (by decide) (by decide) (by decide) (fun q491 => ?_) (fun q492 => ?_)
                      · have q491 : 2147483647 ≠ 2147483710 := q491
                        refine x_const (np := 17) (x := 9223372039002259456) (a := 2147483648) (by decide +kernel) (by decide) (by decide) ?_
                        refine x_retI (np := 18) (x := 0) (by decide +kernel) (by decide) (Or.inr ⟨by decide +kernel, by omega, by omega⟩) ⟨_, rfl, (by decide), ?_⟩
                        refine x_ifz (k := 1) (tg := 10) (np := 8) (by decide +kernel) (by decide) (by decide) (fun q493 => ?_) (fun q494 => ?_)
                        · have q493 : 2147483648 ≠ 2147483648 := q493
                          exfalso; omega
                        have q494 : ¬ (2147483648 ≠ 2147483648) := q494
                        refine x_const (np := 9) (x := 9223372039002259456) (a := 2147483648) (by decide +kernel) (by decide) (by decide) ?_
                        refine x_retI (np := 10) (x := 0) (by decide +kernel) (by decide) (Or.inr ⟨by decide +kernel, by omega, by omega⟩) ⟨_, rfl, (by decide), ?_⟩
                        refine x_ifz (k := 0) (tg := 246) (np := 222) (by decide +kernel) (by decide) (by decide) (fun q495 => ?_) (fun q496 => ?_)
                        · have q495 : 2147483648 = 2147483648 := q495
                          refine x_const (np := 247) (x := 9223372039002259456) (a := 2147483648) (by decide +kernel) (by decide) (by decide) ?_
                          refine x_retI (np := 248) (x := 0) (by decide +kernel) (by decide) (Or.inr ⟨by decide +kernel, by omega, by omega⟩) ⟨_, rfl, (by decide), ?_⟩
                          exact ⟨j466, f469, (by omega)⟩
                        have q496 : ¬ (2147483648 = 2147483648) := q496
                        exfalso; omega
                      have q492 : ¬ (2147483647 ≠ 2147483710) := q492
                      exfalso; omega
                    have q490 : ¬ ((h 1 1) ≤ (h465 1 2)) := q490
                    refine x_aload (np := 9) (x := 0) (by decide +kernel) rfl (x_nc_le (by decide)) ?_
                    have q497 : h465 1 0 = 2 := by have z := jB (e := 0) 0 j466 rg_1_0_0_1 (by decide) (by decide); omega
                    refine x_getR (np := 12) (x := 448) (f := 0) (q := 2) (by decide +kernel) (by decide) (by decide +kernel) q497 ?_
                    refine x_iload (np := 13) (x := 1) (by decide +kernel) rfl l474 ?_
                    obtain ⟨u498, q499⟩ : ∃ z, (h465 1 2) = 2147483648 + z := ⟨(h465 1 2) - 2147483648, by omega⟩
                    have q500 : h465 2 u498 = h 2 u498 := jK u498 f467 rg_2_0_1_400 (by omega) (by omega) (by decide)
                    refine x_aldC (np := 14) (x := 0) (n := 400) (i := u498) (q := (h 2 u498)) (by decide +kernel) (by decide +kernel) (by omega) (by omega) (by decide) q500 (fun l501 => ?_)
                    refine x_goto (np := 17) (x := 18) (by decide +kernel) ?_
                    refine x_retI (np := 19) (x := 0) (by decide +kernel) l501 (Or.inl (by decide +kernel)) ⟨_, rfl, l501, ?_⟩
                    refine x_iload (np := 9) (x := 1) (by decide +kernel) rfl (by decide) ?_
                    refine x_icmp (k := 1) (tg := 16) (np := 12) (by decide +kernel) (by decide) l501 (by decide) (fun q502 => ?_) (fun q503 => ?_)
                    · have q502 : (h 2 u498) ≠ 2147483710 := q502
                      refine x_const (np := 17) (x := 9223372039002259456) (a := 2147483648) (by decide +kernel) (by decide) (by decide) ?_
                      refine x_retI (np := 18) (x := 0) (by decide +kernel) (by decide) (Or.inr ⟨by decide +kernel, by omega, by omega⟩) ⟨_, rfl, (by decide), ?_⟩
                      refine x_ifz (k := 1) (tg := 10) (np := 8) (by decide +kernel) (by decide) (by decide) (fun q504 => ?_) (fun q505 => ?_)
                      · have q504 : 2147483648 ≠ 2147483648 := q504
                        exfalso; omega
                      have q505 : ¬ (2147483648 ≠ 2147483648) := q505
                      refine x_const (np := 9) (x := 9223372039002259456) (a := 2147483648) (by decide +kernel) (by decide) (by decide) ?_
                      refine x_retI (np := 10) (x := 0) (by decide +kernel) (by decide) (Or.inr ⟨by decide +kernel, by omega, by omega⟩) ⟨_, rfl, (by decide), ?_⟩
                      refine x_ifz (k := 0) (tg := 246) (np := 222) (by decide +kernel) (by decide) (by decide) (fun q506 => ?_) (fun q507 => ?_)
                      · have q506 : 2147483648 = 2147483648 := q506
                        refine x_const (np := 247) (x := 9223372039002259456) (a := 2147483648) (by decide +kernel) (by decide) (by decide) ?_
                        refine x_retI (np := 248) (x := 0) (by decide +kernel) (by decide) (Or.inr ⟨by decide +kernel, by omega, by omega⟩) ⟨_, rfl, (by decide), ?_⟩
                        exact ⟨j466, f469, (by omega)⟩
                      have q507 : ¬ (2147483648 = 2147483648) := q507
                      exfalso; omega
                    have q503 : ¬ ((h 2 u498) ≠ 2147483710) := q503
                    refine x_const (np := 13) (x := 9223372043297226753) (a := 2147483649) (by decide +kernel) (by decide) (by decide) ?_
                    refine x_goto (np := 16) (x := 17) (by decide +kernel) ?_
                    refine x_retI (np := 18) (x := 0) (by decide +kernel) (by decide) (Or.inr ⟨by decide +kernel, by omega, by omega⟩) ⟨_, rfl, (by decide), ?_⟩
                    refine x_ifz (k := 1) (tg := 10) (np := 8) (by decide +kernel) (by decide) (by decide) (fun q508 => ?_) (fun q509 => ?_)
                    · have q508 : 2147483649 ≠ 2147483648 := q508
                      refine x_aload (np := 11) (x := 0) (by decide +kernel) rfl (x_nc_le (by decide)) ?_
                      refine x_aload (np := 12) (x := 0) (by decide +kernel) rfl (x_nc_le (by decide)) ?_
                      refine x_getC (np := 15) (x := 450) (f := 2) (q := (h465 1 2)) (by decide +kernel) (by decide) (by decide +kernel) rfl (fun l510 => ?_)
                      refine x_const (np := 16) (x := 9223372043297226753) (a := 2147483649) (by decide +kernel) (by decide) (by decide) ?_
                      refine x_iadd (np := 17) (x := 0) (v := (1 + (h465 1 2))) (by decide +kernel) l474 (by decide) (by omega) (by omega) ?_
                      refine x_cV (t := 6) (mj := 80) (n := 2) (rc := 8) (ml := 2) (nr := 0) (np := 20) (as := [x_r 1, iv_c (1 + (h465 1 2))]) (rest := []) (lo1 := [x_r 1, iv_c (1 + (h465 1 2))]) (by decide +kernel) (by decide) (by decide +kernel) (x_rb_of (by decide +kernel)) rfl rfl (x_wr (by decide) (x_wi (by omega) x_wn)) x_wn (by decide) rfl (c80_1n j466  (by omega)) (fun h514 q513 => ?_)
                      obtain ⟨j515, f516⟩ := q513
                      have f519 := Fr.trans f469 f516 (by decide)
                      refine x_const (np := 21) (x := 9223372043297226753) (a := 2147483649) (by decide +kernel) (by decide) (by decide) ?_
                      refine x_retI (np := 22) (x := 0) (by decide +kernel) (by decide) (Or.inr ⟨by decide +kernel, by omega, by omega⟩) ⟨_, rfl, (by decide), ?_⟩
                      refine x_ifz (k := 0) (tg := 246) (np := 222) (by decide +kernel) (by decide) (by decide) (fun q520 => ?_) (fun q521 => ?_)
                      · have q520 : 2147483649 = 2147483648 := q520
                        exfalso; omega
                      have q521 : ¬ (2147483649 = 2147483648) := q521
                      refine x_aload (np := 223) (x := 0) (by decide +kernel) rfl (x_nc_le (by decide)) ?_
                      refine x_cI (t := 6) (mj := 49) (n := 1) (rc := 4) (ml := 2) (nr := 0) (np := 226) (as := [x_r 62]) (rest := []) (lo1 := [x_r 62, 147573952589676412928]) (by decide +kernel) (by decide) (by decide +kernel) (x_rb_of (by decide +kernel)) rfl rfl (x_wr (by decide) x_wn) x_wn (by decide) rfl (c49_62 j515 ) (fun v522 h525 l523 q524 => ?_)
                      obtain ⟨j526, f527, b528⟩ := q524
                      have f529 := Fr.trans f519 f527 (by decide)
                      refine x_ifz (k := 0) (tg := 246) (np := 229) (by decide +kernel) (by decide) l523 (fun q530 => ?_) (fun q531 => ?_)
                      · have q530 : v522 = 2147483648 := q530
                        refine x_const (np := 247) (x := 9223372039002259456) (a := 2147483648) (by decide +kernel) (by decide) (by decide) ?_
                        refine x_retI (np := 248) (x := 0) (by decide +kernel) (by decide) (Or.inr ⟨by decide +kernel, by omega, by omega⟩) ⟨_, rfl, (by decide), ?_⟩
                        exact ⟨j526, f529, (by omega)⟩
                      have q531 : ¬ (v522 = 2147483648) := q531
                      refine x_aload (np := 230) (x := 0) (by decide +kernel) rfl (x_nc_le (by decide)) ?_
                      have q532 : h525 62 1 = h514 62 1 := f527 62 1 (by decide +kernel)
                      have q533 : h514 62 1 = h465 62 1 := f516 62 1 (by decide +kernel)
                      have q534 : h465 62 1 = h 62 1 := f467 62 1 (by decide +kernel)
                      obtain ⟨r535, q536, t537⟩ : ∃ z, (h 62 1) = z + 11 ∧ tw z := by
                        rcases hJ.2.2.2.2.2.2.2 with z | z
                        · exact ⟨17, by rw [z], Or.inl rfl⟩
                        · exact ⟨31, by rw [z], Or.inr rfl⟩
                      refine x_getR (np := 233) (x := 193) (f := 1) (q := (r535 + 11)) (by decide +kernel) (by decide) (by decide +kernel) (((q532.trans q533).trans q534).trans q536) ?_
                      refine x_const (np := 236) (x := 9223380637526788050) (a := 2147485650) (by decide +kernel) (by decide) (by decide) ?_
                      refine x_nI (t := 6) (mj := 36) (n := 2) (rc := 3) (ml := 2) (nr := 0) (np := 239) (as := [x_r (r535 + 11), iv_c 2147485650]) (rest := []) (lo1 := [x_r (r535 + 11), iv_c 2147485650]) (by decide +kernel) (by decide) (by decide +kernel) (x_rb_of (tr_11_3 t537)) rfl rfl (x_wr (tn_11 t537) (x_wi (by decide) x_wn)) x_wn (by decide) rfl ?_
                      refine x_aload (np := 1) (x := 0) (by decide +kernel) rfl (x_nc_le (tn_11 t537)) ?_
                      have b538 := jB (e := 2) 0 j526 (rg_T11_2_0_1 t537) (by omega) (by omega)
                      refine x_getC (np := 4) (x := 130) (f := 2) (q := (h525 (r535 + 11) 2)) (by decide +kernel) (by decide) (tg_11_130_2_0 t537) rfl (fun l539 => ?_)
                      refine x_const (np := 7) (x := 9223373756989178256) (a := 2147484048) (by decide +kernel) (by decide) (by decide) ?_
                      refine x_icmp (k := 2) (tg := 12) (np := 10) (by decide +kernel) (by decide) l539 (by decide) (fun q540 => ?_) (fun q541 => ?_)
                      · have q540 : (h525 (r535 + 11) 2) < 2147484048 := q540
                        refine x_aload (np := 13) (x := 0) (by decide +kernel) rfl (x_nc_le (tn_11 t537)) ?_
                        have q542 : h525 (r535 + 11) 0 = (r535 + 12) := tf_11_0 j526 t537
                        refine x_getR (np := 16) (x := 128) (f := 0) (q := (r535 + 12)) (by decide +kernel) (by decide) (tg_11_128_0_1 t537) q542 ?_
                        refine x_aload (np := 17) (x := 0) (by decide +kernel) rfl (x_nc_le (tn_11 t537)) ?_
                        refine x_getC (np := 20) (x := 130) (f := 2) (q := (h525 (r535 + 11) 2)) (by decide +kernel) (by decide) (tg_11_130_2_0 t537) rfl (fun l543 => ?_)
                        refine x_iload (np := 21) (x := 1) (by decide +kernel) rfl (by decide) ?_
                        obtain ⟨u544, q545⟩ : ∃ z, (h525 (r535 + 11) 2) = 2147483648 + z := ⟨(h525 (r535 + 11) 2) - 2147483648, by omega⟩
                        refine x_ast (np := 22) (x := 0) (kd := 1) (n := 400) (i := u544) (by decide +kernel) (Or.inl rfl) (ta_12_400 t537) (by omega) (by omega) (by decide) (by decide) (fun z => absurd z (by decide)) ?_
                        have j547 := jU (e := u544) (v := 2147485650) u544 j526 (rg_T12_0_1_400 t537) (by omega) (by omega) (by omega)
                        have f549 := jF (e := u544) (v := 2147485650) u544 f529 (rg_T12_0_1_400 t537) (by omega) (by omega) (by decide)
                        generalize e548 : x_up h525 (r535 + 12) u544 2147485650 = h546 at j547 f549 ⊢
                        refine x_aload (np := 23) (x := 0) (by decide +kernel) rfl (x_nc_le (tn_11 t537)) ?_
                        refine x_dup (np := 24) (x := 0) (by decide +kernel) (by have z := x_nc_le (k := (r535 + 11)) (tn_11 t537); unfold x_r; omega) ?_
                        have q550 : h546 (r535 + 11) 2 = h525 (r535 + 11) 2 := by rw [← e548]; exact x_up_k tof_11_12
                        refine x_getC (np := 27) (x := 130) (f := 2) (q := (h525 (r535 + 11) 2)) (by decide +kernel) (by decide) (tg_11_130_2_0 t537) q550 (fun l551 => ?_)
                        refine x_const (np := 28) (x := 9223372043297226753) (a := 2147483649) (by decide +kernel) (by decide) (by decide) ?_
                        refine x_iadd (np := 29) (x := 0) (v := (1 + (h525 (r535 + 11) 2))) (by decide +kernel) l539 (by decide) (by omega) (by omega) ?_
                        refine x_putI (np := 32) (x := 130) (f := 2) (by decide +kernel) (tg_11_130_2_0 t537) (by omega) (Or.inl (by decide)) ?_
                        have j553 := jU (e := 2) (v := (1 + (h525 (r535 + 11) 2))) 0 j547 (rg_T11_2_0_1 t537) (by omega) (by omega) (by omega)
                        have f555 := jF (e := 2) (v := (1 + (h525 (r535 + 11) 2))) 0 f549 (rg_T11_2_0_1 t537) (by omega) (by omega) (by decide)
                        generalize e554 : x_up h546 (r535 + 11) 2 (1 + (h525 (r535 + 11) 2)) = h552 at j553 f555 ⊢
                        refine x_const (np := 33) (x := 9223372043297226753) (a := 2147483649) (by decide +kernel) (by decide) (by decide) ?_
                        refine x_retI (np := 34) (x := 0) (by decide +kernel) (by decide) (Or.inr ⟨by decide +kernel, by omega, by omega⟩) ⟨_, rfl, (by decide), ?_⟩
                        refine x_ifz (k := 0) (tg := 246) (np := 242) (by decide +kernel) (by decide) (by decide) (fun q556 => ?_) (fun q557 => ?_)
                        · have q556 : 2147483649 = 2147483648 := q556
                          exfalso; omega
                        have q557 : ¬ (2147483649 = 2147483648) := q557
                        refine x_const (np := 243) (x := 9223372043297226753) (a := 2147483649) (by decide +kernel) (by decide) (by decide) ?_
                        refine x_goto (np := 246) (x := 247) (by decide +kernel) ?_
                        refine x_retI (np := 248) (x := 0) (by decide +kernel) (by decide) (Or.inr ⟨by decide +kernel, by omega, by omega⟩) ⟨_, rfl, (by decide), ?_⟩
                        exact ⟨j553, f555, (by omega)⟩
                      have q541 : ¬ ((h525 (r535 + 11) 2) < 2147484048) := q541
                      refine x_const (np := 11) (x := 9223372039002259456) (a := 2147483648) (by decide +kernel) (by decide) (by decide) ?_
                      refine x_retI (np := 12) (x := 0) (by decide +kernel) (by decide) (Or.inr ⟨by decide +kernel, by omega, by omega⟩) ⟨_, rfl, (by decide), ?_⟩
                      refine x_ifz (k := 0) (tg := 246) (np := 242) (by decide +kernel) (by decide) (by decide) (fun q558 => ?_) (fun q559 => ?_)
                      · have q558 : 2147483648 = 2147483648 := q558
                        refine x_const (np := 247) (x := 9223372039002259456) (a := 2147483648) (by decide +kernel) (by decide) (by decide) ?_
                        refine x_retI (np := 248) (x := 0) (by decide +kernel) (by decide) (Or.inr ⟨by decide +kernel, by omega, by omega⟩) ⟨_, rfl, (by decide), ?_⟩
                        exact ⟨j526, f529, (by omega)⟩
                      have q559 : ¬ (2147483648 = 2147483648) := q559
                      exfalso; omega
                    have q509 : ¬ (2147483649 ≠ 2147483648) := q509
                    exfalso; omega
                  have q484 : ¬ (2147483648 = 2147483648) := q484
                  exfalso; omega
                have q480 : ¬ (2147483647 ≠ 2147483708) := q480
                exfalso; omega
              have q478 : ¬ ((h 1 1) ≤ (h465 1 2)) := q478
              refine x_aload (np := 9) (x := 0) (by decide +kernel) rfl (x_nc_le (by decide)) ?_
              have q560 : h465 1 0 = 2 := by have z := jB (e := 0) 0 j466 rg_1_0_0_1 (by decide) (by decide); omega
              refine x_getR (np := 12) (x := 448) (f := 0) (q := 2) (by decide +kernel) (by decide) (by decide +kernel) q560 ?_
              refine x_iload (np := 13) (x := 1) (by decide +kernel) rfl l474 ?_
              obtain ⟨u561, q562⟩ : ∃ z, (h465 1 2) = 2147483648 + z := ⟨(h465 1 2) - 2147483648, by omega⟩
              have q563 : h465 2 u561 = h 2 u561 := jK u561 f467 rg_2_0_1_400 (by omega) (by omega) (by decide)
              refine x_aldC (np := 14) (x := 0) (n := 400) (i := u561) (q := (h 2 u561)) (by decide +kernel) (by decide +kernel) (by omega) (by omega) (by decide) q563 (fun l564 => ?_)
              refine x_goto (np := 17) (x := 18) (by decide +kernel) ?_
              refine x_retI (np := 19) (x := 0) (by decide +kernel) l564 (Or.inl (by decide +kernel)) ⟨_, rfl, l564, ?_⟩
              refine x_iload (np := 9) (x := 1) (by decide +kernel) rfl (by decide) ?_
              refine x_icmp (k := 1) (tg := 16) (np := 12) (by decide +kernel) (by decide) l564 (by decide) (fun q565 => ?_) (fun q566 => ?_)
              · have q565 : (h 2 u561) ≠ 2147483708 := q565
                refine x_const (np := 17) (x := 9223372039002259456) (a := 2147483648) (by decide +kernel) (by decide) (by decide) ?_
                refine x_retI (np := 18) (x := 0) (by decide +kernel) (by decide) (Or.inr ⟨by decide +kernel, by omega, by omega⟩) ⟨_, rfl, (by decide), ?_⟩
                refine x_ifz (k := 1) (tg := 10) (np := 8) (by decide +kernel) (by decide) (by decide) (fun q567 => ?_) (fun q568 => ?_)
                · have q567 : 2147483648 ≠ 2147483648 := q567
                  exfalso; omega
                have q568 : ¬ (2147483648 ≠ 2147483648) := q568
                refine x_const (np := 9) (x := 9223372039002259456) (a := 2147483648) (by decide +kernel) (by decide) (by decide) ?_
                refine x_retI (np := 10) (x := 0) (by decide +kernel) (by decide) (Or.inr ⟨by decide +kernel, by omega, by omega⟩) ⟨_, rfl, (by decide), ?_⟩
                refine x_ifz (k := 0) (tg := 210) (np := 184) (by decide +kernel) (by decide) (by decide) (fun q569 => ?_) (fun q570 => ?_)
                · have q569 : 2147483648 = 2147483648 := q569
                  refine x_aload (np := 211) (x := 0) (by decide +kernel) rfl (x_nc_le (by decide)) ?_
                  have q571 : h465 62 0 = 1 := by have z := jB (e := 0) 0 j466 rg_62_0_0_1 (by decide) (by decide); omega
                  refine x_getR (np := 214) (x := 192) (f := 0) (q := 1) (by decide +kernel) (by decide) (by decide +kernel) q571 ?_
                  refine x_const (np := 216) (x := 9223372305290231870) (a := 2147483710) (by decide +kernel) (by decide) (by decide) ?_
                  refine x_nI (t := 6) (mj := 76) (n := 2) (rc := 8) (ml := 2) (nr := 0) (np := 219) (as := [x_r 1, iv_c 2147483710]) (rest := []) (lo1 := [x_r 1, iv_c 2147483710]) (by decide +kernel) (by decide) (by decide +kernel) (x_rb_of (by decide +kernel)) rfl rfl (x_wr (by decide) (x_wi (by decide) x_wn)) x_wn (by decide) rfl ?_
                  refine x_aload (np := 1) (x := 0) (by decide +kernel) rfl (x_nc_le (by decide)) ?_
                  refine x_iload (np := 2) (x := 1) (by decide +kernel) rfl (by decide) ?_
                  refine x_nI (t := 6) (mj := 75) (n := 2) (rc := 8) (ml := 2) (nr := 0) (np := 5) (as := [x_r 1, iv_c 2147483710]) (rest := []) (lo1 := [x_r 1, iv_c 2147483710]) (by decide +kernel) (by decide) (by decide +kernel) (x_rb_of (by decide +kernel)) rfl rfl (x_wr (by decide) (x_wi (by decide) x_wn)) x_wn (by decide) rfl ?_
                  refine x_aload (np := 1) (x := 0) (by decide +kernel) rfl (x_nc_le (by decide)) ?_
                  refine x_aload (np := 2) (x := 0) (by decide +kernel) rfl (x_nc_le (by decide)) ?_
                  refine x_getC (np := 5) (x := 450) (f := 2) (q := (h465 1 2)) (by decide +kernel) (by decide) (by decide +kernel) rfl (fun l572 => ?_)
                  refine x_nI (t := 6) (mj := 81) (n := 2) (rc := 8) (ml := 2) (nr := 0) (np := 8) (as := [x_r 1, iv_c (h465 1 2)]) (rest := []) (lo1 := [x_r 1, iv_c (h465 1 2)]) (by decide +kernel) (by decide) (by decide +kernel) (x_rb_of (by decide +kernel)) rfl rfl (x_wr (by decide) (x_wi l474 x_wn)) x_wn (by decide) rfl ?_
                  refine x_iload (np := 1) (x := 1) (by decide +kernel) rfl l474 ?_
                  refine x_aload (np := 2) (x := 0) (by decide +kernel) rfl (x_nc_le (by decide)) ?_
                  have q573 : h465 1 1 = h 1 1 := jK 0 f467 rg_1_1_0_1 (by omega) (by omega) (by decide)
                  refine x_getC (np := 5) (x := 449) (f := 1) (q := (h 1 1)) (by decide +kernel) (by decide) (by decide +kernel) q573 (fun l574 => ?_)
                  refine x_icmp (k := 3) (tg := 17) (np := 8) (by decide +kernel) (by decide) l474 l13 (fun q575 => ?_) (fun q576 => ?_)
                  · have q575 : (h 1 1) ≤ (h465 1 2) := q575
                    refine x_const (np := 18) (x := 9223372034707292159) (a := 2147483647) (by decide +kernel) (by decide) (by decide) ?_
                    refine x_retI (np := 19) (x := 0) (by decide +kernel) (by decide) (Or.inl (by decide +kernel)) ⟨_, rfl, (by decide), ?_⟩
                    refine x_iload (np := 9) (x := 1) (by decide +kernel) rfl (by decide) ?_
                    refine x_icmp (k := 1) (tg := 16) (np := 12) (by decide +kernel) (by decide) (by decide) (by decide) (fun q577 => ?_) (fun q578 => ?_)
                    · have q577 : 2147483647 ≠ 2147483710 := q577
                      refine x_const (np := 17) (x := 9223372039002259456) (a := 2147483648) (by decide +kernel) (by decide) (by decide) ?_
                      refine x_retI (np := 18) (x := 0) (by decide +kernel) (by decide) (Or.inr ⟨by decide +kernel, by omega, by omega⟩) ⟨_, rfl, (by decide), ?_⟩
                      refine x_ifz (k := 1) (tg := 10) (np := 8) (by decide +kernel) (by decide) (by decide) (fun q579 => ?_) (fun q580 => ?_)
                      · have q579 : 2147483648 ≠ 2147483648 := q579
                        exfalso; omega
                      have q580 : ¬ (2147483648 ≠ 2147483648) := q580
                      refine x_const (np := 9) (x := 9223372039002259456) (a := 2147483648) (by decide +kernel) (by decide) (by decide) ?_
                      refine x_retI (np := 10) (x := 0) (by decide +kernel) (by decide) (Or.inr ⟨by decide +kernel, by omega, by omega⟩) ⟨_, rfl, (by decide), ?_⟩
                      refine x_ifz (k := 0) (tg := 246) (np := 222) (by decide +kernel) (by decide) (by decide) (fun q581 => ?_) (fun q582 => ?_)
                      · have q581 : 2147483648 = 2147483648 := q581
                        refine x_const (np := 247) (x := 9223372039002259456) (a := 2147483648) (by decide +kernel) (by decide) (by decide) ?_
                        refine x_retI (np := 248) (x := 0) (by decide +kernel) (by decide) (Or.inr ⟨by decide +kernel, by omega, by omega⟩) ⟨_, rfl, (by decide), ?_⟩
                        exact ⟨j466, f469, (by omega)⟩
                      have q582 : ¬ (2147483648 = 2147483648) := q582
                      exfalso; omega
                    have q578 : ¬ (2147483647 ≠ 2147483710) := q578
                    exfalso; omega
                  have q576 : ¬ ((h 1 1) ≤ (h465 1 2)) := q576
                  refine x_aload (np := 9) (x := 0) (by decide +kernel) rfl (x_nc_le (by decide)) ?_
                  have q583 : h465 1 0 = 2 := by have z := jB (e := 0) 0 j466 rg_1_0_0_1 (by decide) (by decide); omega
                  refine x_getR (np := 12) (x := 448) (f := 0) (q := 2) (by decide +kernel) (by decide) (by decide +kernel) q583 ?_
                  refine x_iload (np := 13) (x := 1) (by decide +kernel) rfl l474 ?_
                  have q584 : h465 2 u561 = h 2 u561 := jK u561 f467 rg_2_0_1_400 (by omega) (by omega) (by decide)
                  refine x_aldC (np := 14) (x := 0) (n := 400) (i := u561) (q := (h 2 u561)) (by decide +kernel) (by decide +kernel) (by omega) (by omega) (by decide) q584 (fun l585 => ?_)
                  refine x_goto (np := 17) (x := 18) (by decide +kernel) ?_
                  refine x_retI (np := 19) (x := 0) (by decide +kernel) l564 (Or.inl (by decide +kernel)) ⟨_, rfl, l564, ?_⟩
                  refine x_iload (np := 9) (x := 1) (by decide +kernel) rfl (by decide) ?_
                  refine x_icmp (k := 1) (tg := 16) (np := 12) (by decide +kernel) (by decide) l564 (by decide) (fun q586 => ?_) (fun q587 => ?_)
                  · have q586 : (h 2 u561) ≠ 2147483710 := q586
                    refine x_const (np := 17) (x := 9223372039002259456) (a := 2147483648) (by decide +kernel) (by decide) (by decide) ?_
                    refine x_retI (np := 18) (x := 0) (by decide +kernel) (by decide) (Or.inr ⟨by decide +kernel, by omega, by omega⟩) ⟨_, rfl, (by decide), ?_⟩
                    refine x_ifz (k := 1) (tg := 10) (np := 8) (by decide +kernel) (by decide) (by decide) (fun q588 => ?_) (fun q589 => ?_)
                    · have q588 : 2147483648 ≠ 2147483648 := q588
                      exfalso; omega
                    have q589 : ¬ (2147483648 ≠ 2147483648) := q589
                    refine x_const (np := 9) (x := 9223372039002259456) (a := 2147483648) (by decide +kernel) (by decide) (by decide) ?_
                    refine x_retI (np := 10) (x := 0) (by decide +kernel) (by decide) (Or.inr ⟨by decide +kernel, by omega, by omega⟩) ⟨_, rfl, (by decide), ?_⟩
                    refine x_ifz (k := 0) (tg := 246) (np := 222) (by decide +kernel) (by decide) (by decide) (fun q590 => ?_) (fun q591 => ?_)
                    · have q590 : 2147483648 = 2147483648 := q590
                      refine x_const (np := 247) (x := 9223372039002259456) (a := 2147483648) (by decide +kernel) (by decide) (by decide) ?_
                      refine x_retI (np := 248) (x := 0) (by decide +kernel) (by decide) (Or.inr ⟨by decide +kernel, by omega, by omega⟩) ⟨_, rfl, (by decide), ?_⟩
                      exact ⟨j466, f469, (by omega)⟩
                    have q591 : ¬ (2147483648 = 2147483648) := q591
                    exfalso; omega
                  have q587 : ¬ ((h 2 u561) ≠ 2147483710) := q587
                  refine x_const (np := 13) (x := 9223372043297226753) (a := 2147483649) (by decide +kernel) (by decide) (by decide) ?_
                  refine x_goto (np := 16) (x := 17) (by decide +kernel) ?_
                  refine x_retI (np := 18) (x := 0) (by decide +kernel) (by decide) (Or.inr ⟨by decide +kernel, by omega, by omega⟩) ⟨_, rfl, (by decide), ?_⟩
                  refine x_ifz (k := 1) (tg := 10) (np := 8) (by decide +kernel) (by decide) (by decide) (fun q592 => ?_) (fun q593 => ?_)
                  · have q592 : 2147483649 ≠ 2147483648 := q592
                    refine x_aload (np := 11) (x := 0) (by decide +kernel) rfl (x_nc_le (by decide)) ?_
                    refine x_aload (np := 12) (x := 0) (by decide +kernel) rfl (x_nc_le (by decide)) ?_
                    refine x_getC (np := 15) (x := 450) (f := 2) (q := (h465 1 2)) (by decide +kernel) (by decide) (by decide +kernel) rfl (fun l594 => ?_)
                    refine x_const (np := 16) (x := 9223372043297226753) (a := 2147483649) (by decide +kernel) (by decide) (by decide) ?_
                    refine x_iadd (np := 17) (x := 0) (v := (1 + (h465 1 2))) (by decide +kernel) l474 (by decide) (by omega) (by omega) ?_
                    refine x_cV (t := 6) (mj := 80) (n := 2) (rc := 8) (ml := 2) (nr := 0) (np := 20) (as := [x_r 1, iv_c (1 + (h465 1 2))]) (rest := []) (lo1 := [x_r 1, iv_c (1 + (h465 1 2))]) (by decide +kernel) (by decide) (by decide +kernel) (x_rb_of (by decide +kernel)) rfl rfl (x_wr (by decide) (x_wi (by omega) x_wn)) x_wn (by decide) rfl (c80_1n j466  (by omega)) (fun h598 q597 => ?_)
                    obtain ⟨j599, f600⟩ := q597
                    have f603 := Fr.trans f469 f600 (by decide)
                    refine x_const (np := 21) (x := 9223372043297226753) (a := 2147483649) (by decide +kernel) (by decide) (by decide) ?_
                    refine x_retI (np := 22) (x := 0) (by decide +kernel) (by decide) (Or.inr ⟨by decide +kernel, by omega, by omega⟩) ⟨_, rfl, (by decide), ?_⟩
                    refine x_ifz (k := 0) (tg := 246) (np := 222) (by decide +kernel) (by decide) (by decide) (fun q604 => ?_) (fun q605 => ?_)
                    · have q604 : 2147483649 = 2147483648 := q604
                      exfalso; omega
                    have q605 : ¬ (2147483649 = 2147483648) := q605
                    refine x_aload (np := 223) (x := 0) (by decide +kernel) rfl (x_nc_le (by decide)) ?_
                    refine x_cI (t := 6) (mj := 49) (n := 1) (rc := 4) (ml := 2) (nr := 0) (np := 226) (as := [x_r 62]) (rest := []) (lo1 := [x_r 62, 147573952589676412928]) (by decide +kernel) (by decide) (by decide +kernel) (x_rb_of (by decide +kernel)) rfl rfl (x_wr (by decide) x_wn) x_wn (by decide) rfl (c49_62 j599 ) (fun v606 h609 l607 q608 => ?_)
                    obtain ⟨j610, f611, b612⟩ := q608
                    have f613 := Fr.trans f603 f611 (by decide)
                    refine x_ifz (k := 0) (tg := 246) (np := 229) (by decide +kernel) (by decide) l607 (fun q614 => ?_) (fun q615 => ?_)
                    · have q614 : v606 = 2147483648 := q614
                      refine x_const (np := 247) (x := 9223372039002259456) (a := 2147483648) (by decide +kernel) (by decide) (by decide) ?_
                      refine x_retI (np := 248) (x := 0) (by decide +kernel) (by decide) (Or.inr ⟨by decide +kernel, by omega, by omega⟩) ⟨_, rfl, (by decide), ?_⟩
                      exact ⟨j610, f613, (by omega)⟩
                    have q615 : ¬ (v606 = 2147483648) := q615
                    refine x_aload (np := 230) (x := 0) (by decide +kernel) rfl (x_nc_le (by decide)) ?_
                    have q616 : h609 62 1 = h598 62 1 := f611 62 1 (by decide +kernel)
                    have q617 : h598 62 1 = h465 62 1 := f600 62 1 (by decide +kernel)
                    have q618 : h465 62 1 = h 62 1 := f467 62 1 (by decide +kernel)
                    obtain ⟨r619, q620, t621⟩ : ∃ z, (h 62 1) = z + 11 ∧ tw z := by
                      rcases hJ.2.2.2.2.2.2.2 with z | z
                      · exact ⟨17, by rw [z], Or.inl rfl⟩
                      · exact ⟨31, by rw [z], Or.inr rfl⟩
                    refine x_getR (np := 233) (x := 193) (f := 1) (q := (r619 + 11)) (by decide +kernel) (by decide) (by decide +kernel) (((q616.trans q617).trans q618).trans q620) ?_
                    refine x_const (np := 236) (x := 9223380637526788050) (a := 2147485650) (by decide +kernel) (by decide) (by decide) ?_
                    refine x_nI (t := 6) (mj := 36) (n := 2) (rc := 3) (ml := 2) (nr := 0) (np := 239) (as := [x_r (r619 + 11), iv_c 2147485650]) (rest := []) (lo1 := [x_r (r619 + 11), iv_c 2147485650]) (by decide +kernel) (by decide) (by decide +kernel) (x_rb_of (tr_11_3 t621)) rfl rfl (x_wr (tn_11 t621) (x_wi (by decide) x_wn)) x_wn (by decide) rfl ?_
                    refine x_aload (np := 1) (x := 0) (by decide +kernel) rfl (x_nc_le (tn_11 t621)) ?_
                    have b622 := jB (e := 2) 0 j610 (rg_T11_2_0_1 t621) (by omega) (by omega)
                    refine x_getC (np := 4) (x := 130) (f := 2) (q := (h609 (r619 + 11) 2)) (by decide +kernel) (by decide) (tg_11_130_2_0 t621) rfl (fun l623 => ?_)
                    refine x_const (np := 7) (x := 9223373756989178256) (a := 2147484048) (by decide +kernel) (by decide) (by decide) ?_
                    refine x_icmp (k := 2) (tg := 12) (np := 10) (by decide +kernel) (by decide) l623 (by decide) (fun q624 => ?_) (fun q625 => ?_)
                    · have q624 : (h609 (r619 + 11) 2) < 2147484048 := q624
                      refine x_aload (np := 13) (x := 0) (by decide +kernel) rfl (x_nc_le (tn_11 t621)) ?_
                      have q626 : h609 (r619 + 11) 0 = (r619 + 12) := tf_11_0 j610 t621
                      refine x_getR (np := 16) (x := 128) (f := 0) (q := (r619 + 12)) (by decide +kernel) (by decide) (tg_11_128_0_1 t621) q626 ?_
                      refine x_aload (np := 17) (x := 0) (by decide +kernel) rfl (x_nc_le (tn_11 t621)) ?_
                      refine x_getC (np := 20) (x := 130) (f := 2) (q := (h609 (r619 + 11) 2)) (by decide +kernel) (by decide) (tg_11_130_2_0 t621) rfl (fun l627 => ?_)
                      refine x_iload (np := 21) (x := 1) (by decide +kernel) rfl (by decide) ?_
                      obtain ⟨u628, q629⟩ : ∃ z, (h609 (r619 + 11) 2) = 2147483648 + z := ⟨(h609 (r619 + 11) 2) - 2147483648, by omega⟩
                      refine x_ast (np := 22) (x := 0) (kd := 1) (n := 400) (i := u628) (by decide +kernel) (Or.inl rfl) (ta_12_400 t621) (by omega) (by omega) (by decide) (by decide) (fun z => absurd z (by decide)) ?_
                      have j631 := jU (e := u628) (v := 2147485650) u628 j610 (rg_T12_0_1_400 t621) (by omega) (by omega) (by omega)
                      have f633 := jF (e := u628) (v := 2147485650) u628 f613 (rg_T12_0_1_400 t621) (by omega) (by omega) (by decide)
                      generalize e632 : x_up h609 (r619 + 12) u628 2147485650 = h630 at j631 f633 ⊢
                      refine x_aload (np := 23) (x := 0) (by decide +kernel) rfl (x_nc_le (tn_11 t621)) ?_
                      refine x_dup (np := 24) (x := 0) (by decide +kernel) (by have z := x_nc_le (k := (r619 + 11)) (tn_11 t621); unfold x_r; omega) ?_
                      have q634 : h630 (r619 + 11) 2 = h609 (r619 + 11) 2 := by rw [← e632]; exact x_up_k tof_11_12
                      refine x_getC (np := 27) (x := 130) (f := 2) (q := (h609 (r619 + 11) 2)) (by decide +kernel) (by decide) (tg_11_130_2_0 t621) q634 (fun l635 => ?_)
                      refine x_const (np := 28) (x := 9223372043297226753) (a := 2147483649) (by decide +kernel) (by decide) (by decide) ?_
                      refine x_iadd (np := 29) (x := 0) (v := (1 + (h609 (r619 + 11) 2))) (by decide +kernel) l623 (by decide) (by omega) (by omega) ?_
                      refine x_putI (np := 32) (x := 130) (f := 2) (by decide +kernel) (tg_11_130_2_0 t621) (by omega) (Or.inl (by decide)) ?_
                      have j637 := jU (e := 2) (v := (1 + (h609 (r619 + 11) 2))) 0 j631 (rg_T11_2_0_1 t621) (by omega) (by omega) (by omega)
                      have f639 := jF (e := 2) (v := (1 + (h609 (r619 + 11) 2))) 0 f633 (rg_T11_2_0_1 t621) (by omega) (by omega) (by decide)
                      generalize e638 : x_up h630 (r619 + 11) 2 (1 + (h609 (r619 + 11) 2)) = h636 at j637 f639 ⊢
                      refine x_const (np := 33) (x := 9223372043297226753) (a := 2147483649) (by decide +kernel) (by decide) (by decide) ?_
                      refine x_retI (np := 34) (x := 0) (by decide +kernel) (by decide) (Or.inr ⟨by decide +kernel, by omega, by omega⟩) ⟨_, rfl, (by decide), ?_⟩
                      refine x_ifz (k := 0) (tg := 246) (np := 242) (by decide +kernel) (by decide) (by decide) (fun q640 => ?_) (fun q641 => ?_)
                      · have q640 : 2147483649 = 2147483648 := q640
                        exfalso; omega
                      have q641 : ¬ (2147483649 = 2147483648) := q641
                      refine x_const (np := 243) (x := 9223372043297226753) (a := 2147483649) (by decide +kernel) (by decide) (by decide) ?_
                      refine x_goto (np := 246) (x := 247) (by decide +kernel) ?_
                      refine x_retI (np := 248) (x := 0) (by decide +kernel) (by decide) (Or.inr ⟨by decide +kernel, by omega, by omega⟩) ⟨_, rfl, (by decide), ?_⟩
                      exact ⟨j637, f639, (by omega)⟩
                    have q625 : ¬ ((h609 (r619 + 11) 2) < 2147484048) := q625
                    refine x_const (np := 11) (x := 9223372039002259456) (a := 2147483648) (by decide +kernel) (by decide) (by decide) ?_
                    refine x_retI (np := 12) (x := 0) (by decide +kernel) (by decide) (Or.inr ⟨by decide +kernel, by omega, by omega⟩) ⟨_, rfl, (by decide), ?_⟩
                    refine x_ifz (k := 0) (tg := 246) (np := 242) (by decide +kernel) (by decide) (by decide) (fun q642 => ?_) (fun q643 => ?_)
                    · have q642 : 2147483648 = 2147483648 := q642
                      refine x_const (np := 247) (x := 9223372039002259456) (a := 2147483648) (by decide +kernel) (by decide) (by decide) ?_
                      refine x_retI (np := 248) (x := 0) (by decide +kernel) (by decide) (Or.inr ⟨by decide +kernel, by omega, by omega⟩) ⟨_, rfl, (by decide), ?_⟩
                      exact ⟨j610, f613, (by omega)⟩
                    have q643 : ¬ (2147483648 = 2147483648) := q643
                    exfalso; omega
                  have q593 : ¬ (2147483649 ≠ 2147483648) := q593
                  exfalso; omega
                have q570 : ¬ (2147483648 = 2147483648) := q570
                exfalso; omega
              have q566 : ¬ ((h 2 u561) ≠ 2147483708) := q566
              refine x_const (np := 13) (x := 9223372043297226753) (a := 2147483649) (by decide +kernel) (by decide) (by decide) ?_
              refine x_goto (np := 16) (x := 17) (by decide +kernel) ?_
              refine x_retI (np := 18) (x := 0) (by decide +kernel) (by decide) (Or.inr ⟨by decide +kernel, by omega, by omega⟩) ⟨_, rfl, (by decide), ?_⟩
              refine x_ifz (k := 1) (tg := 10) (np := 8) (by decide +kernel) (by decide) (by decide) (fun q644 => ?_) (fun q645 => ?_)
              · have q644 : 2147483649 ≠ 2147483648 := q644
                refine x_aload (np := 11) (x := 0) (by decide +kernel) rfl (x_nc_le (by decide)) ?_
                refine x_aload (np := 12) (x := 0) (by decide +kernel) rfl (x_nc_le (by decide)) ?_
                refine x_getC (np := 15) (x := 450) (f := 2) (q := (h465 1 2)) (by decide +kernel) (by decide) (by decide +kernel) rfl (fun l646 => ?_)
                refine x_const (np := 16) (x := 9223372043297226753) (a := 2147483649) (by decide +kernel) (by decide) (by decide) ?_
                refine x_iadd (np := 17) (x := 0) (v := (1 + (h465 1 2))) (by decide +kernel) l474 (by decide) (by omega) (by omega) ?_
                refine x_cV (t := 6) (mj := 80) (n := 2) (rc := 8) (ml := 2) (nr := 0) (np := 20) (as := [x_r 1, iv_c (1 + (h465 1 2))]) (rest := []) (lo1 := [x_r 1, iv_c (1 + (h465 1 2))]) (by decide +kernel) (by decide) (by decide +kernel) (x_rb_of (by decide +kernel)) rfl rfl (x_wr (by decide) (x_wi (by omega) x_wn)) x_wn (by decide) rfl (c80_1n j466  (by omega)) (fun h650 q649 => ?_)
                obtain ⟨j651, f652⟩ := q649
                have f655 := Fr.trans f469 f652 (by decide)
                refine x_const (np := 21) (x := 9223372043297226753) (a := 2147483649) (by decide +kernel) (by decide) (by decide) ?_
                refine x_retI (np := 22) (x := 0) (by decide +kernel) (by decide) (Or.inr ⟨by decide +kernel, by omega, by omega⟩) ⟨_, rfl, (by decide), ?_⟩
                refine x_ifz (k := 0) (tg := 210) (np := 184) (by decide +kernel) (by decide) (by decide) (fun q656 => ?_) (fun q657 => ?_)
                · have q656 : 2147483649 = 2147483648 := q656
                  exfalso; omega
                have q657 : ¬ (2147483649 = 2147483648) := q657
                refine x_aload (np := 185) (x := 0) (by decide +kernel) rfl (x_nc_le (by decide)) ?_
                refine x_cI (t := 6) (mj := 49) (n := 1) (rc := 4) (ml := 2) (nr := 0) (np := 188) (as := [x_r 62]) (rest := []) (lo1 := [x_r 62, 147573952589676412928]) (by decide +kernel) (by decide) (by decide +kernel) (x_rb_of (by decide +kernel)) rfl rfl (x_wr (by decide) x_wn) x_wn (by decide) rfl (c49_62 j651 ) (fun v658 h661 l659 q660 => ?_)
                obtain ⟨j662, f663, b664⟩ := q660
                have f665 := Fr.trans f655 f663 (by decide)
                refine x_ifz (k := 0) (tg := 208) (np := 191) (by decide +kernel) (by decide) l659 (fun q666 => ?_) (fun q667 => ?_)
                · have q666 : v658 = 2147483648 := q666
                  refine x_const (np := 209) (x := 9223372039002259456) (a := 2147483648) (by decide +kernel) (by decide) (by decide) ?_
                  refine x_retI (np := 210) (x := 0) (by decide +kernel) (by decide) (Or.inr ⟨by decide +kernel, by omega, by omega⟩) ⟨_, rfl, (by decide), ?_⟩
                  exact ⟨j662, f665, (by omega)⟩
                have q667 : ¬ (v658 = 2147483648) := q667
                refine x_aload (np := 192) (x := 0) (by decide +kernel) rfl (x_nc_le (by decide)) ?_
                have q668 : h661 62 1 = h650 62 1 := f663 62 1 (by decide +kernel)
                have q669 : h650 62 1 = h465 62 1 := f652 62 1 (by decide +kernel)
                have q670 : h465 62 1 = h 62 1 := f467 62 1 (by decide +kernel)
                obtain ⟨r671, q672, t673⟩ : ∃ z, (h 62 1) = z + 11 ∧ tw z := by
                  rcases hJ.2.2.2.2.2.2.2 with z | z
                  · exact ⟨17, by rw [z], Or.inl rfl⟩
                  · exact ⟨31, by rw [z], Or.inr rfl⟩
                refine x_getR (np := 195) (x := 193) (f := 1) (q := (r671 + 11)) (by decide +kernel) (by decide) (by decide +kernel) (((q668.trans q669).trans q670).trans q672) ?_
                refine x_const (np := 198) (x := 9223380633231820753) (a := 2147485649) (by decide +kernel) (by decide) (by decide) ?_
                refine x_nI (t := 6) (mj := 36) (n := 2) (rc := 3) (ml := 2) (nr := 0) (np := 201) (as := [x_r (r671 + 11), iv_c 2147485649]) (rest := []) (lo1 := [x_r (r671 + 11), iv_c 2147485649]) (by decide +kernel) (by decide) (by decide +kernel) (x_rb_of (tr_11_3 t673)) rfl rfl (x_wr (tn_11 t673) (x_wi (by decide) x_wn)) x_wn (by decide) rfl ?_
                refine x_aload (np := 1) (x := 0) (by decide +kernel) rfl (x_nc_le (tn_11 t673)) ?_
                have b674 := jB (e := 2) 0 j662 (rg_T11_2_0_1 t673) (by omega) (by omega)
                refine x_getC (np := 4) (x := 130) (f := 2) (q := (h661 (r671 + 11) 2)) (by decide +kernel) (by decide) (tg_11_130_2_0 t673) rfl (fun l675 => ?_)
                refine x_const (np := 7) (x := 9223373756989178256) (a := 2147484048) (by decide +kernel) (by decide) (by decide) ?_
                refine x_icmp (k := 2) (tg := 12) (np := 10) (by decide +kernel) (by decide) l675 (by decide) (fun q676 => ?_) (fun q677 => ?_)
                · have q676 : (h661 (r671 + 11) 2) < 2147484048 := q676
                  refine x_aload (np := 13) (x := 0) (by decide +kernel) rfl (x_nc_le (tn_11 t673)) ?_
                  have q678 : h661 (r671 + 11) 0 = (r671 + 12) := tf_11_0 j662 t673
                  refine x_getR (np := 16) (x := 128) (f := 0) (q := (r671 + 12)) (by decide +kernel) (by decide) (tg_11_128_0_1 t673) q678 ?_
                  refine x_aload (np := 17) (x := 0) (by decide +kernel) rfl (x_nc_le (tn_11 t673)) ?_
                  refine x_getC (np := 20) (x := 130) (f := 2) (q := (h661 (r671 + 11) 2)) (by decide +kernel) (by decide) (tg_11_130_2_0 t673) rfl (fun l679 => ?_)
                  refine x_iload (np := 21) (x := 1) (by decide +kernel) rfl (by decide) ?_
                  obtain ⟨u680, q681⟩ : ∃ z, (h661 (r671 + 11) 2) = 2147483648 + z := ⟨(h661 (r671 + 11) 2) - 2147483648, by omega⟩
                  refine x_ast (np := 22) (x := 0) (kd := 1) (n := 400) (i := u680) (by decide +kernel) (Or.inl rfl) (ta_12_400 t673) (by omega) (by omega) (by decide) (by decide) (fun z => absurd z (by decide)) ?_
                  have j683 := jU (e := u680) (v := 2147485649) u680 j662 (rg_T12_0_1_400 t673) (by omega) (by omega) (by omega)
                  have f685 := jF (e := u680) (v := 2147485649) u680 f665 (rg_T12_0_1_400 t673) (by omega) (by omega) (by decide)
                  generalize e684 : x_up h661 (r671 + 12) u680 2147485649 = h682 at j683 f685 ⊢
                  refine x_aload (np := 23) (x := 0) (by decide +kernel) rfl (x_nc_le (tn_11 t673)) ?_
                  refine x_dup (np := 24) (x := 0) (by decide +kernel) (by have z := x_nc_le (k := (r671 + 11)) (tn_11 t673); unfold x_r; omega) ?_
                  have q686 : h682 (r671 + 11) 2 = h661 (r671 + 11) 2 := by rw [← e684]; exact x_up_k tof_11_12
                  refine x_getC (np := 27) (x := 130) (f := 2) (q := (h661 (r671 + 11) 2)) (by decide +kernel) (by decide) (tg_11_130_2_0 t673) q686 (fun l687 => ?_)
                  refine x_const (np := 28) (x := 9223372043297226753) (a := 2147483649) (by decide +kernel) (by decide) (by decide) ?_
                  refine x_iadd (np := 29) (x := 0) (v := (1 + (h661 (r671 + 11) 2))) (by decide +kernel) l675 (by decide) (by omega) (by omega) ?_
                  refine x_putI (np := 32) (x := 130) (f := 2) (by decide +kernel) (tg_11_130_2_0 t673) (by omega) (Or.inl (by decide)) ?_
                  have j689 := jU (e := 2) (v := (1 + (h661 (r671 + 11) 2))) 0 j683 (rg_T11_2_0_1 t673) (by omega) (by omega) (by omega)
                  have f691 := jF (e := 2) (v := (1 + (h661 (r671 + 11) 2))) 0 f685 (rg_T11_2_0_1 t673) (by omega) (by omega) (by decide)
                  generalize e690 : x_up h682 (r671 + 11) 2 (1 + (h661 (r671 + 11) 2)) = h688 at j689 f691 ⊢
                  refine x_const (np := 33) (x := 9223372043297226753) (a := 2147483649) (by decide +kernel) (by decide) (by decide) ?_
                  refine x_retI (np := 34) (x := 0) (by decide +kernel) (by decide) (Or.inr ⟨by decide +kernel, by omega, by omega⟩) ⟨_, rfl, (by decide), ?_⟩
                  refine x_ifz (k := 0) (tg := 208) (np := 204) (by decide +kernel) (by decide) (by decide) (fun q692 => ?_) (fun q693 => ?_)
                  · have q692 : 2147483649 = 2147483648 := q692
                    exfalso; omega
                  have q693 : ¬ (2147483649 = 2147483648) := q693
                  refine x_const (np := 205) (x := 9223372043297226753) (a := 2147483649) (by decide +kernel) (by decide) (by decide) ?_
                  refine x_goto (np := 208) (x := 209) (by decide +kernel) ?_
                  refine x_retI (np := 210) (x := 0) (by decide +kernel) (by decide) (Or.inr ⟨by decide +kernel, by omega, by omega⟩) ⟨_, rfl, (by decide), ?_⟩
                  exact ⟨j689, f691, (by omega)⟩
                have q677 : ¬ ((h661 (r671 + 11) 2) < 2147484048) := q677
                refine x_const (np := 11) (x := 9223372039002259456) (a := 2147483648) (by decide +kernel) (by decide) (by decide) ?_
                refine x_retI (np := 12) (x := 0) (by decide +kernel) (by decide) (Or.inr ⟨by decide +kernel, by omega, by omega⟩) ⟨_, rfl, (by decide), ?_⟩
                refine x_ifz (k := 0) (tg := 208) (np := 204) (by decide +kernel) (by decide) (by decide) (fun q694 => ?_) (fun q695 => ?_)
                · have q694 : 2147483648 = 2147483648 := q694
                  refine x_const (np := 209) (x := 9223372039002259456) (a := 2147483648) (by decide +kernel) (by decide) (by decide) ?_
                  refine x_retI (np := 210) (x := 0) (by decide +kernel) (by decide) (Or.inr ⟨by decide +kernel, by omega, by omega⟩) ⟨_, rfl, (by decide), ?_⟩
                  exact ⟨j662, f665, (by omega)⟩
                have q695 : ¬ (2147483648 = 2147483648) := q695
                exfalso; omega
              have q645 : ¬ (2147483649 ≠ 2147483648) := q645
              exfalso; omega
            have q471 : ¬ (v462 ≠ 2147483648) := q471
            refine x_const (np := 171) (x := 9223372039002259456) (a := 2147483648) (by decide +kernel) (by decide) (by decide) ?_
            refine x_retI (np := 172) (x := 0) (by decide +kernel) (by decide) (Or.inr ⟨by decide +kernel, by omega, by omega⟩) ⟨_, rfl, (by decide), ?_⟩
            exact ⟨j466, f469, (by omega)⟩
          have q461 : ¬ (2147483648 = 2147483648) := q461
          exfalso; omega
        have q411 : ¬ (2147483648 = 2147483648) := q411
        exfalso; omega
      have q361 : ¬ (2147483648 = 2147483648) := q361
      exfalso; omega
    have q359 : ¬ ((h 2 u355) ≠ 2147483688) := q359
    refine x_const (np := 13) (x := 9223372043297226753) (a := 2147483649) (by decide +kernel) (by decide) (by decide) ?_
    refine x_goto (np := 16) (x := 17) (by decide +kernel) ?_
    refine x_retI (np := 18) (x := 0) (by decide +kernel) (by decide) (Or.inr ⟨by decide +kernel, by omega, by omega⟩) ⟨_, rfl, (by decide), ?_⟩
    refine x_ifz (k := 0) (tg := 117) (np := 71) (by decide +kernel) (by decide) (by decide) (fun q696 => ?_) (fun q697 => ?_)
    · have q696 : 2147483649 = 2147483648 := q696
      exfalso; omega
    have q697 : ¬ (2147483649 = 2147483648) := q697
    refine x_iload (np := 72) (x := 1) (by decide +kernel) rfl (by decide) ?_
    refine x_const (np := 74) (x := 9223372064772063238) (a := 2147483654) (by decide +kernel) (by decide) (by decide) ?_
    refine x_icmp (k := 3) (tg := 115) (np := 77) (by decide +kernel) (by decide) (by decide) (by decide) (fun q698 => ?_) (fun q699 => ?_)
    · have q698 : 2147483654 ≤ 2147483654 := q698
      refine x_const (np := 116) (x := 9223372039002259456) (a := 2147483648) (by decide +kernel) (by decide) (by decide) ?_
      refine x_retI (np := 117) (x := 0) (by decide +kernel) (by decide) (Or.inr ⟨by decide +kernel, by omega, by omega⟩) ⟨_, rfl, (by decide), ?_⟩
      exact ⟨hJ, hF, (by omega)⟩
    have q699 : ¬ (2147483654 ≤ 2147483654) := q699
    exfalso; omega
  have q9 : ¬ (v2 = 2147483648) := q9
  have b700 := c5 (by omega)
  refine x_iload (np := 13) (x := 1) (by decide +kernel) rfl (by decide) ?_
  refine x_const (np := 15) (x := 9223372064772063238) (a := 2147483654) (by decide +kernel) (by decide) (by decide) ?_
  refine x_icmp (k := 3) (tg := 57) (np := 18) (by decide +kernel) (by decide) (by decide) (by decide) (fun q701 => ?_) (fun q702 => ?_)
  · have q701 : 2147483654 ≤ 2147483654 := q701
    refine x_const (np := 58) (x := 9223372039002259456) (a := 2147483648) (by decide +kernel) (by decide) (by decide) ?_
    refine x_retI (np := 59) (x := 0) (by decide +kernel) (by decide) (Or.inr ⟨by decide +kernel, by omega, by omega⟩) ⟨_, rfl, (by decide), ?_⟩
    exact ⟨hJ, hF, (by omega)⟩
  have q702 : ¬ (2147483654 ≤ 2147483654) := q702
  exfalso; omega
