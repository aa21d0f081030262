/-! ===== methods ===== -/
set_option maxHeartbeats 0 in
/-- LentNames$Search.tryLoans(IIIII)V -/
theorem c276_69_c2 {sc : Nat × Nat} {d a2 a3 a4 a5 : Nat} {h : xh} (hJ : J h) (ba2 : 2147483648 ≤ a2 ∧ a2 ≤ 2147483653) (ba3 : 2147483648 ≤ a3 ∧ a3 ≤ 2147483653) (ba4 : 0 ≤ a4 ∧ a4 ≤ 4294967295) (ba5 : 0 ≤ a5 ∧ a5 ≤ 4294967295) : X sc 276 (d + 13) (xV fun h' => J h' ∧ Fr 65537 h h') 0 0 0 [x_r 69, iv_c 2147483650, iv_c a2, iv_c a3, iv_c a4, iv_c a5, 147573952589676412928, 147573952589676412928, 147573952589676412928, 147573952589676412928] [] h := by
  have la2 : a2 < 4294967296 := by first | decide | omega
  have la3 : a3 < 4294967296 := by first | decide | omega
  have la4 : a4 < 4294967296 := by first | decide | omega
  have la5 : a5 < 4294967296 := by first | decide | omega
  have hF := Fr.refl 65537 h
  refine x_aload (np := 1) (x := 0) (by decide +kernel) rfl (x_nc_le (by decide)) ?_
  have q1 : h 69 5 = 45 := by have z := jB (e := 5) 0 hJ rg_69_5_0_1 (by decide) (by decide); omega
  refine x_getR (np := 4) (x := 773) (f := 5) (q := 45) (by decide +kernel) (by decide) (by decide +kernel) q1 ?_
  have q2 : h 45 0 = 46 := by have z := jB (e := 0) 0 hJ rg_45_0_0_1 (by decide) (by decide); omega
  refine x_getR (np := 7) (x := 64) (f := 0) (q := 46) (by decide +kernel) (by decide) (by decide +kernel) q2 ?_
  refine x_iload (np := 8) (x := 3) (by decide +kernel) rfl la3 ?_
  obtain ⟨u3, q4⟩ : ∃ z, a3 = 2147483648 + z := ⟨a3 - 2147483648, by first | decide | omega⟩
  refine x_aldC (np := 9) (x := 0) (n := 6) (i := u3) (q := (h 46 u3)) (by decide +kernel) (by decide +kernel) (by first | decide | omega) (by first | decide | omega) (by decide) rfl (fun l5 => ?_)
  refine x_aload (np := 10) (x := 0) (by decide +kernel) rfl (x_nc_le (by decide)) ?_
  have q6 : h 69 5 = 45 := by have z := jB (e := 5) 0 hJ rg_69_5_0_1 (by decide) (by decide); omega
  refine x_getR (np := 13) (x := 773) (f := 5) (q := 45) (by decide +kernel) (by decide) (by decide +kernel) q6 ?_
  have q7 : h 45 1 = 47 := by have z := jB (e := 1) 0 hJ rg_45_1_0_1 (by decide) (by decide); omega
  refine x_getR (np := 16) (x := 65) (f := 1) (q := 47) (by decide +kernel) (by decide) (by decide +kernel) q7 ?_
  refine x_iload (np := 17) (x := 2) (by decide +kernel) rfl la2 ?_
  refine x_iload (np := 18) (x := 3) (by decide +kernel) rfl la3 ?_
  refine x_nI (t := 7) (mj := 149) (n := 2) (rc := 0) (ml := 2) (nr := 2) (np := 21) (as := [iv_c a2, iv_c a3]) (rest := [x_r 47, iv_c (h 46 u3)]) (lo1 := [iv_c a2, iv_c a3]) (by decide +kernel) (by decide) (by decide +kernel) (Or.inl rfl) rfl rfl (x_wi la2 (x_wi la3 x_wn)) (x_wr (by decide) (x_wi l5 x_wn)) (by decide) rfl ?_
  refine x_iload (np := 1) (x := 0) (by decide +kernel) rfl la2 ?_
  refine x_const (np := 3) (x := 9223372064772063238) (a := 2147483654) (by decide +kernel) (by decide) (by decide) ?_
  obtain ⟨u8, q9⟩ : ∃ z, a2 = 2147483648 + z := ⟨a2 - 2147483648, by first | decide | omega⟩
  refine x_imul (np := 4) (x := 0) (i := u8) (j := 6) (v := (2147483648 + 6 * u8)) (by decide +kernel) (by first | decide | omega) (by first | decide | omega) (by first | decide | omega) (by first | decide | omega) la2 (by decide) ?_
  refine x_iload (np := 5) (x := 1) (by decide +kernel) rfl la3 ?_
  refine x_iadd (np := 6) (x := 0) (v := (6 * u8 + a3)) (by decide +kernel) (by first | decide | omega) la3 (by first | decide | omega) (by first | decide | omega) ?_
  refine x_retI (np := 7) (x := 0) (by decide +kernel) (by first | decide | omega) (Or.inl (by decide +kernel)) ⟨_, rfl, (by first | decide | omega), ?_⟩
  refine x_aldC (np := 22) (x := 0) (n := 36) (i := (6 * u8 + u3)) (q := ((h 47 (6 * u8 + u3)))) (by decide +kernel) (by decide +kernel) (by first | decide | omega) (by first | decide | omega) (by decide) rfl (fun l11 => ?_)
  refine x_const (np := 23) (x := 9223372034707292159) (a := 2147483647) (by decide +kernel) (by decide) (by decide) ?_
  refine x_any (np := 24) (k9 := 2) (by decide +kernel) (by decide) l11 (by decide) (fun v12 l13 => ?_)
  refine x_any (np := 25) (k9 := 0) (by decide +kernel) (by decide) l5 l13 (fun v14 l15 => ?_)
  refine x_aload (np := 26) (x := 0) (by decide +kernel) rfl (x_nc_le (by decide)) ?_
  have q16 : h 69 2 = 72 := by have z := jB (e := 2) 0 hJ rg_69_2_0_1 (by decide) (by decide); omega
  refine x_getR (np := 29) (x := 770) (f := 2) (q := 72) (by decide +kernel) (by decide) (by decide +kernel) q16 ?_
  refine x_iload (np := 30) (x := 2) (by decide +kernel) rfl la2 ?_
  refine x_aldC (np := 31) (x := 0) (n := 6) (i := u8) (q := (h 72 u8)) (by decide +kernel) (by decide +kernel) (by first | decide | omega) (by first | decide | omega) (by decide) rfl (fun l17 => ?_)
  refine x_const (np := 32) (x := 9223372034707292159) (a := 2147483647) (by decide +kernel) (by decide) (by decide) ?_
  refine x_any (np := 33) (k9 := 2) (by decide +kernel) (by decide) l17 (by decide) (fun v18 l19 => ?_)
  refine x_any (np := 34) (k9 := 0) (by decide +kernel) (by decide) l15 l19 (fun v20 l21 => ?_)
  refine x_istore (np := 36) (x := 6) (lo' := [x_r 69, iv_c 2147483650, iv_c a2, iv_c a3, iv_c a4, iv_c a5, iv_c v20, 147573952589676412928, 147573952589676412928, 147573952589676412928]) (by decide +kernel) l21 (Nat.le_of_ble_eq_true rfl) rfl ?_
  refine x_aload (np := 37) (x := 0) (by decide +kernel) rfl (x_nc_le (by decide)) ?_
  have q22 : h 69 1 = 71 := by have z := jB (e := 1) 0 hJ rg_69_1_0_1 (by decide) (by decide); omega
  refine x_getR (np := 40) (x := 769) (f := 1) (q := 71) (by decide +kernel) (by decide) (by decide +kernel) q22 ?_
  refine x_iload (np := 41) (x := 2) (by decide +kernel) rfl la2 ?_
  refine x_aldC (np := 42) (x := 0) (n := 6) (i := u8) (q := (h 71 u8)) (by decide +kernel) (by decide +kernel) (by first | decide | omega) (by first | decide | omega) (by decide) rfl (fun l23 => ?_)
  refine x_iload (np := 44) (x := 6) (by decide +kernel) rfl l21 ?_
  refine x_any (np := 45) (k9 := 0) (by decide +kernel) (by decide) l23 l21 (fun v24 l25 => ?_)
  refine x_istore (np := 47) (x := 7) (lo' := [x_r 69, iv_c 2147483650, iv_c a2, iv_c a3, iv_c a4, iv_c a5, iv_c v20, iv_c v24, 147573952589676412928, 147573952589676412928]) (by decide +kernel) l25 (Nat.le_of_ble_eq_true rfl) rfl ?_
  refine x_const (np := 48) (x := 9223372039002259456) (a := 2147483648) (by decide +kernel) (by decide) (by decide) ?_
  refine x_istore (np := 50) (x := 8) (lo' := [x_r 69, iv_c 2147483650, iv_c a2, iv_c a3, iv_c a4, iv_c a5, iv_c v20, iv_c v24, iv_c 2147483648, 147573952589676412928]) (by decide +kernel) (by decide) (Nat.le_of_ble_eq_true rfl) rfl ?_
  have p5130 : ∀ (n : Nat) (v5124 : Nat) (w5126 : Nat) (h5127 : xh), 4294967296 - v5124 < n → (2147483648 ≤ v5124 ∧ v5124 ≤ 2147483660) → J h5127 → Fr 65537 h h5127 → X sc 276 (d + 13) (xV fun h' => J h' ∧ Fr 65537 h h') 0 0 50 [x_r 69, iv_c 2147483650, iv_c a2, iv_c a3, iv_c a4, iv_c a5, iv_c v20, iv_c v24, iv_c v5124, w5126] [] h5127 := by
    intro n
    induction n with
    | zero => intro v5124 w5126 h5127 q5131; exact absurd q5131 (Nat.not_lt_zero _)
    | succ n i5132 =>
      intro v5124 w5126 h5127 q5131 b5125 j5129 f5128
      have f5133 := Fr.trans hF f5128 (by decide)
      refine x_iload (np := 52) (x := 8) (by decide +kernel) rfl (by first | decide | omega) ?_
      refine x_iload (np := 54) (x := 5) (by decide +kernel) rfl la5 ?_
      refine x_icmp (k := 4) (tg := 145) (np := 57) (by decide +kernel) (by decide) (by first | decide | omega) la5 (fun q5134 => ?_) (fun q5135 => ?_)
      · have q5134 : a5 < v5124 := q5134
        refine x_retV (np := 146) (x := 0) (by decide +kernel) (by decide +kernel) ⟨rfl, ?_⟩
        exact ⟨j5129, f5133⟩
      have q5135 : ¬ (a5 < v5124) := q5135
      refine x_iload (np := 59) (x := 8) (by decide +kernel) rfl (by first | decide | omega) ?_
      refine x_const (np := 61) (x := 9223372090541867020) (a := 2147483660) (by decide +kernel) (by decide) (by decide) ?_
      refine x_icmp (k := 3) (tg := 145) (np := 64) (by decide +kernel) (by decide) (by first | decide | omega) (by decide) (fun q5136 => ?_) (fun q5137 => ?_)
      · have q5136 : 2147483660 ≤ v5124 := q5136
        refine x_retV (np := 146) (x := 0) (by decide +kernel) (by decide +kernel) ⟨rfl, ?_⟩
        exact ⟨j5129, f5133⟩
      have q5137 : ¬ (2147483660 ≤ v5124) := q5137
      refine x_iload (np := 66) (x := 7) (by decide +kernel) rfl l25 ?_
      refine x_iload (np := 68) (x := 8) (by decide +kernel) rfl (by first | decide | omega) ?_
      refine x_cP (t := 7) (mj := 148) (n := 2) (rc := 0) (ml := 2) (nr := 0) (np := 71) (as := [iv_c v24, iv_c v5124]) (rest := []) (lo1 := [iv_c v24, iv_c v5124]) (by decide +kernel) (by decide) (by decide +kernel) (Or.inl rfl) rfl rfl (x_wi l25 (x_wi (by first | decide | omega) x_wn)) x_wn (by decide) rfl (c148 j5129 (by first | decide | omega) (by first | decide | omega)) (fun v5138 l5139 q5140 => ?_)
      refine x_ifz (k := 1) (tg := 77) (np := 74) (by decide +kernel) (by decide) l5139 (fun q5141 => ?_) (fun q5142 => ?_)
      · have q5141 : v5138 ≠ 2147483648 := q5141
        refine x_iload (np := 79) (x := 8) (by decide +kernel) rfl (by first | decide | omega) ?_
        refine x_istore (np := 81) (x := 9) (lo' := [x_r 69, iv_c 2147483650, iv_c a2, iv_c a3, iv_c a4, iv_c a5, iv_c v20, iv_c v24, iv_c v5124, iv_c v5124]) (by decide +kernel) (by first | decide | omega) (Nat.le_of_ble_eq_true rfl) rfl ?_
        have p5271 : ∀ (n : Nat) (v5266 : Nat) (h5268 : xh), 4294967296 - v5266 < n → (2147483648 ≤ v5266 ∧ v5266 ≤ 2147483660) → J h5268 → Fr 65537 h5127 h5268 → X sc 276 (d + 13) (xV fun h' => J h' ∧ Fr 65537 h h') 0 0 81 [x_r 69, iv_c 2147483650, iv_c a2, iv_c a3, iv_c a4, iv_c a5, iv_c v20, iv_c v24, iv_c v5124, iv_c v5266] [] h5268 := by
          intro n
          induction n with
          | zero => intro v5266 h5268 q5272; exact absurd q5272 (Nat.not_lt_zero _)
          | succ n i5273 =>
            intro v5266 h5268 q5272 b5267 j5270 f5269
            have f5274 := Fr.trans f5133 f5269 (by decide)
            have f5275 := Fr.trans f5128 f5269 (by decide)
            refine x_iload (np := 83) (x := 9) (by decide +kernel) rfl (by first | decide | omega) ?_
            refine x_const (np := 85) (x := 9223372090541867020) (a := 2147483660) (by decide +kernel) (by decide) (by decide) ?_
            refine x_icmp (k := 3) (tg := 139) (np := 88) (by decide +kernel) (by decide) (by first | decide | omega) (by decide) (fun q5276 => ?_) (fun q5277 => ?_)
            · have q5276 : 2147483660 ≤ v5266 := q5276
              refine x_iinc (np := 142) (i := 8) (j := 2147483649) (v := (1 + v5124)) (lo' := [x_r 69, iv_c 2147483650, iv_c a2, iv_c a3, iv_c a4, iv_c a5, iv_c v20, iv_c v24, iv_c (1 + v5124), iv_c v5266]) (by decide +kernel) (by decide) (by decide) rfl (by first | decide | omega) (by first | decide | omega) (by first | decide | omega) rfl ?_
              refine x_goto (np := 145) (x := 50) (by decide +kernel) ?_
              exact i5132 (1 + v5124) (iv_c v5266) h5268 (by first | decide | omega) (by first | decide | omega) j5270 f5275
            have q5277 : ¬ (2147483660 ≤ v5266) := q5277
            refine x_iload (np := 90) (x := 6) (by decide +kernel) rfl l21 ?_
            refine x_iload (np := 92) (x := 9) (by decide +kernel) rfl (by first | decide | omega) ?_
            refine x_cP (t := 7) (mj := 148) (n := 2) (rc := 0) (ml := 2) (nr := 0) (np := 95) (as := [iv_c v20, iv_c v5266]) (rest := []) (lo1 := [iv_c v20, iv_c v5266]) (by decide +kernel) (by decide) (by decide +kernel) (Or.inl rfl) rfl rfl (x_wi l21 (x_wi (by first | decide | omega) x_wn)) x_wn (by decide) rfl (c148 j5270 (by first | decide | omega) (by first | decide | omega)) (fun v5278 l5279 q5280 => ?_)
            refine x_ifz (k := 0) (tg := 139) (np := 98) (by decide +kernel) (by decide) l5279 (fun q5281 => ?_) (fun q5282 => ?_)
            · have q5281 : v5278 = 2147483648 := q5281
              refine x_iinc (np := 142) (i := 8) (j := 2147483649) (v := (1 + v5124)) (lo' := [x_r 69, iv_c 2147483650, iv_c a2, iv_c a3, iv_c a4, iv_c a5, iv_c v20, iv_c v24, iv_c (1 + v5124), iv_c v5266]) (by decide +kernel) (by decide) (by decide) rfl (by first | decide | omega) (by first | decide | omega) (by first | decide | omega) rfl ?_
              refine x_goto (np := 145) (x := 50) (by decide +kernel) ?_
              exact i5132 (1 + v5124) (iv_c v5266) h5268 (by first | decide | omega) (by first | decide | omega) j5270 f5275
            have q5282 : ¬ (v5278 = 2147483648) := q5282
            refine x_aload (np := 99) (x := 0) (by decide +kernel) rfl (x_nc_le (by decide)) ?_
            refine x_nI (t := 8) (mj := 278) (n := 1) (rc := 13) (ml := 1) (nr := 0) (np := 102) (as := [x_r 69]) (rest := []) (lo1 := [x_r 69]) (by decide +kernel) (by decide) (by decide +kernel) (x_rb_of (by decide +kernel)) rfl rfl (x_wr (by decide) x_wn) x_wn (by decide) rfl ?_
            refine x_aload (np := 1) (x := 0) (by decide +kernel) rfl (x_nc_le (by decide)) ?_
            have b5283 := jB (e := 9) 0 j5270 rg_69_9_0_1 (by first | decide | omega) (by first | decide | omega)
            refine x_getC (np := 4) (x := 777) (f := 9) (q := (h5268 69 9)) (by decide +kernel) (by decide) (by decide +kernel) rfl (fun l5284 => ?_)
            refine x_ifz (k := 1) (tg := 21) (np := 7) (by decide +kernel) (by decide) l5284 (fun q5285 => ?_) (fun q5286 => ?_)
            · have q5285 : (h5268 69 9) ≠ 2147483648 := q5285
              refine x_const (np := 22) (x := 9223372043297226753) (a := 2147483649) (by decide +kernel) (by decide) (by decide) ?_
              refine x_goto (np := 25) (x := 26) (by decide +kernel) ?_
              refine x_retI (np := 27) (x := 0) (by decide +kernel) (by decide) (Or.inr ⟨by decide +kernel, by first | decide | omega, by first | decide | omega⟩) ⟨_, rfl, (by decide), ?_⟩
              refine x_ifz (k := 1) (tg := 139) (np := 105) (by decide +kernel) (by decide) (by decide) (fun q5287 => ?_) (fun q5288 => ?_)
              · have q5287 : 2147483649 ≠ 2147483648 := q5287
                refine x_iinc (np := 142) (i := 8) (j := 2147483649) (v := (1 + v5124)) (lo' := [x_r 69, iv_c 2147483650, iv_c a2, iv_c a3, iv_c a4, iv_c a5, iv_c v20, iv_c v24, iv_c (1 + v5124), iv_c v5266]) (by decide +kernel) (by decide) (by decide) rfl (by first | decide | omega) (by first | decide | omega) (by first | decide | omega) rfl ?_
                refine x_goto (np := 145) (x := 50) (by decide +kernel) ?_
                exact i5132 (1 + v5124) (iv_c v5266) h5268 (by first | decide | omega) (by first | decide | omega) j5270 f5275
              have q5288 : ¬ (2147483649 ≠ 2147483648) := q5288
              exfalso; omega
            have q5286 : ¬ ((h5268 69 9) ≠ 2147483648) := q5286
            refine x_aload (np := 8) (x := 0) (by decide +kernel) rfl (x_nc_le (by decide)) ?_
            refine x_getC (np := 11) (x := 776) (f := 8) (q := (h5268 69 8)) (by decide +kernel) (by decide) (by decide +kernel) rfl (fun l5289 => ?_)
            refine x_ifz (k := 5) (tg := 25) (np := 14) (by decide +kernel) (by decide) l5289 (fun q5290 => ?_) (fun q5291 => ?_)
            · have q5290 : (h5268 69 8) ≤ 2147483648 := q5290
              refine x_const (np := 26) (x := 9223372039002259456) (a := 2147483648) (by decide +kernel) (by decide) (by decide) ?_
              refine x_retI (np := 27) (x := 0) (by decide +kernel) (by decide) (Or.inr ⟨by decide +kernel, by first | decide | omega, by first | decide | omega⟩) ⟨_, rfl, (by decide), ?_⟩
              refine x_ifz (k := 1) (tg := 139) (np := 105) (by decide +kernel) (by decide) (by decide) (fun q5292 => ?_) (fun q5293 => ?_)
              · have q5292 : 2147483648 ≠ 2147483648 := q5292
                exfalso; omega
              have q5293 : ¬ (2147483648 ≠ 2147483648) := q5293
              refine x_iload (np := 107) (x := 9) (by decide +kernel) rfl (by first | decide | omega) ?_
              refine x_iload (np := 109) (x := 4) (by decide +kernel) rfl la4 ?_
              refine x_icmp (k := 2) (tg := 133) (np := 112) (by decide +kernel) (by decide) (by first | decide | omega) la4 (fun q5294 => ?_) (fun q5295 => ?_)
              · have q5294 : v5266 < a4 := q5294
                refine x_iinc (np := 136) (i := 9) (j := 2147483649) (v := (1 + v5266)) (lo' := [x_r 69, iv_c 2147483650, iv_c a2, iv_c a3, iv_c a4, iv_c a5, iv_c v20, iv_c v24, iv_c v5124, iv_c (1 + v5266)]) (by decide +kernel) (by decide) (by decide) rfl (by first | decide | omega) (by first | decide | omega) (by first | decide | omega) rfl ?_
                refine x_goto (np := 139) (x := 81) (by decide +kernel) ?_
                exact i5273 (1 + v5266) h5268 (by first | decide | omega) (by first | decide | omega) j5270 f5269
              have q5295 : ¬ (v5266 < a4) := q5295
              refine x_iload (np := 114) (x := 7) (by decide +kernel) rfl l25 ?_
              refine x_iload (np := 116) (x := 9) (by decide +kernel) rfl (by first | decide | omega) ?_
              refine x_cP (t := 7) (mj := 148) (n := 2) (rc := 0) (ml := 2) (nr := 0) (np := 119) (as := [iv_c v24, iv_c v5266]) (rest := []) (lo1 := [iv_c v24, iv_c v5266]) (by decide +kernel) (by decide) (by decide +kernel) (Or.inl rfl) rfl rfl (x_wi l25 (x_wi (by first | decide | omega) x_wn)) x_wn (by decide) rfl (c148 j5270 (by first | decide | omega) (by first | decide | omega)) (fun v5296 l5297 q5298 => ?_)
              refine x_ifz (k := 0) (tg := 133) (np := 122) (by decide +kernel) (by decide) l5297 (fun q5299 => ?_) (fun q5300 => ?_)
              · have q5299 : v5296 = 2147483648 := q5299
                refine x_iinc (np := 136) (i := 9) (j := 2147483649) (v := (1 + v5266)) (lo' := [x_r 69, iv_c 2147483650, iv_c a2, iv_c a3, iv_c a4, iv_c a5, iv_c v20, iv_c v24, iv_c v5124, iv_c (1 + v5266)]) (by decide +kernel) (by decide) (by decide) rfl (by first | decide | omega) (by first | decide | omega) (by first | decide | omega) rfl ?_
                refine x_goto (np := 139) (x := 81) (by decide +kernel) ?_
                exact i5273 (1 + v5266) h5268 (by first | decide | omega) (by first | decide | omega) j5270 f5269
              have q5300 : ¬ (v5296 = 2147483648) := q5300
              refine x_aload (np := 123) (x := 0) (by decide +kernel) rfl (x_nc_le (by decide)) ?_
              refine x_iload (np := 124) (x := 1) (by decide +kernel) rfl (by decide) ?_
              refine x_iload (np := 125) (x := 2) (by decide +kernel) rfl la2 ?_
              refine x_iload (np := 126) (x := 3) (by decide +kernel) rfl la3 ?_
              refine x_iload (np := 128) (x := 8) (by decide +kernel) rfl (by first | decide | omega) ?_
              refine x_iload (np := 130) (x := 9) (by decide +kernel) rfl (by first | decide | omega) ?_
              refine x_cV (t := 8) (mj := 277) (n := 6) (rc := 13) (ml := 7) (nr := 0) (np := 133) (as := [x_r 69, iv_c 2147483650, iv_c a2, iv_c a3, iv_c v5124, iv_c v5266]) (rest := []) (lo1 := [x_r 69, iv_c 2147483650, iv_c a2, iv_c a3, iv_c v5124, iv_c v5266, 147573952589676412928]) (by decide +kernel) (by decide) (by decide +kernel) (x_rb_of (by decide +kernel)) rfl rfl (x_wr (by decide) (x_wi (by decide) (x_wi la2 (x_wi la3 (x_wi (by first | decide | omega) (x_wi (by first | decide | omega) x_wn)))))) x_wn (by decide) rfl (c277_69_c2 j5270   (by first | decide | omega) (by first | decide | omega) (by first | decide | omega) (by first | decide | omega)) (fun h5304 q5303 => ?_)
              obtain ⟨j5305, f5306⟩ := q5303
              have f5309 := Fr.trans f5274 f5306 (by decide)
              have f5310 := Fr.trans f5275 f5306 (by decide)
              have f5311 := Fr.trans f5269 f5306 (by decide)
              refine x_iinc (np := 136) (i := 9) (j := 2147483649) (v := (1 + v5266)) (lo' := [x_r 69, iv_c 2147483650, iv_c a2, iv_c a3, iv_c a4, iv_c a5, iv_c v20, iv_c v24, iv_c v5124, iv_c (1 + v5266)]) (by decide +kernel) (by decide) (by decide) rfl (by first | decide | omega) (by first | decide | omega) (by first | decide | omega) rfl ?_
              refine x_goto (np := 139) (x := 81) (by decide +kernel) ?_
              exact i5273 (1 + v5266) h5304 (by first | decide | omega) (by first | decide | omega) j5305 f5311
            have q5291 : ¬ ((h5268 69 8) ≤ 2147483648) := q5291
            refine x_aload (np := 15) (x := 0) (by decide +kernel) rfl (x_nc_le (by decide)) ?_
            refine x_vI (P := fun r9 h9 => X sc 278 _ _ 0 0 18 [x_r 69] (iv_c r9 :: []) h9) (np := 18) (x := 5246977) (kk := 1) (cls := 5) (mj := 61) (ml := 1) (nr := 0) (rest := []) (lo1 := [x_r 69]) (by decide +kernel) (by decide) (by decide) (by decide) (by decide +kernel) (by decide +kernel) (by decide) (by decide +kernel) (by decide +kernel) x_wn (by decide) rfl ?_ (fun _ _ _ z => z)
            refine x_const (np := 1) (x := 9223372039002259456) (a := 2147483648) (by decide +kernel) (by decide) (by decide) ?_
            refine x_retI (np := 2) (x := 0) (by decide +kernel) (by decide) (Or.inr ⟨by decide +kernel, by first | decide | omega, by first | decide | omega⟩) ⟨_, rfl, (by decide), ?_⟩
            refine x_ifz (k := 0) (tg := 25) (np := 21) (by decide +kernel) (by decide) (by decide) (fun q5312 => ?_) (fun q5313 => ?_)
            · have q5312 : 2147483648 = 2147483648 := q5312
              refine x_const (np := 26) (x := 9223372039002259456) (a := 2147483648) (by decide +kernel) (by decide) (by decide) ?_
              refine x_retI (np := 27) (x := 0) (by decide +kernel) (by decide) (Or.inr ⟨by decide +kernel, by first | decide | omega, by first | decide | omega⟩) ⟨_, rfl, (by decide), ?_⟩
              refine x_ifz (k := 1) (tg := 139) (np := 105) (by decide +kernel) (by decide) (by decide) (fun q5314 => ?_) (fun q5315 => ?_)
              · have q5314 : 2147483648 ≠ 2147483648 := q5314
                exfalso; omega
              have q5315 : ¬ (2147483648 ≠ 2147483648) := q5315
              refine x_iload (np := 107) (x := 9) (by decide +kernel) rfl (by first | decide | omega) ?_
              refine x_iload (np := 109) (x := 4) (by decide +kernel) rfl la4 ?_
              refine x_icmp (k := 2) (tg := 133) (np := 112) (by decide +kernel) (by decide) (by first | decide | omega) la4 (fun q5316 => ?_) (fun q5317 => ?_)
              · have q5316 : v5266 < a4 := q5316
                refine x_iinc (np := 136) (i := 9) (j := 2147483649) (v := (1 + v5266)) (lo' := [x_r 69, iv_c 2147483650, iv_c a2, iv_c a3, iv_c a4, iv_c a5, iv_c v20, iv_c v24, iv_c v5124, iv_c (1 + v5266)]) (by decide +kernel) (by decide) (by decide) rfl (by first | decide | omega) (by first | decide | omega) (by first | decide | omega) rfl ?_
                refine x_goto (np := 139) (x := 81) (by decide +kernel) ?_
                exact i5273 (1 + v5266) h5268 (by first | decide | omega) (by first | decide | omega) j5270 f5269
              have q5317 : ¬ (v5266 < a4) := q5317
              refine x_iload (np := 114) (x := 7) (by decide +kernel) rfl l25 ?_
              refine x_iload (np := 116) (x := 9) (by decide +kernel) rfl (by first | decide | omega) ?_
              refine x_cP (t := 7) (mj := 148) (n := 2) (rc := 0) (ml := 2) (nr := 0) (np := 119) (as := [iv_c v24, iv_c v5266]) (rest := []) (lo1 := [iv_c v24, iv_c v5266]) (by decide +kernel) (by decide) (by decide +kernel) (Or.inl rfl) rfl rfl (x_wi l25 (x_wi (by first | decide | omega) x_wn)) x_wn (by decide) rfl (c148 j5270 (by first | decide | omega) (by first | decide | omega)) (fun v5318 l5319 q5320 => ?_)
              refine x_ifz (k := 0) (tg := 133) (np := 122) (by decide +kernel) (by decide) l5319 (fun q5321 => ?_) (fun q5322 => ?_)
              · have q5321 : v5318 = 2147483648 := q5321
                refine x_iinc (np := 136) (i := 9) (j := 2147483649) (v := (1 + v5266)) (lo' := [x_r 69, iv_c 2147483650, iv_c a2, iv_c a3, iv_c a4, iv_c a5, iv_c v20, iv_c v24, iv_c v5124, iv_c (1 + v5266)]) (by decide +kernel) (by decide) (by decide) rfl (by first | decide | omega) (by first | decide | omega) (by first | decide | omega) rfl ?_
                refine x_goto (np := 139) (x := 81) (by decide +kernel) ?_
                exact i5273 (1 + v5266) h5268 (by first | decide | omega) (by first | decide | omega) j5270 f5269
              have q5322 : ¬ (v5318 = 2147483648) := q5322
              refine x_aload (np := 123) (x := 0) (by decide +kernel) rfl (x_nc_le (by decide)) ?_
              refine x_iload (np := 124) (x := 1) (by decide +kernel) rfl (by decide) ?_
              refine x_iload (np := 125) (x := 2) (by decide +kernel) rfl la2 ?_
              refine x_iload (np := 126) (x := 3) (by decide +kernel) rfl la3 ?_
              refine x_iload (np := 128) (x := 8) (by decide +kernel) rfl (by first | decide | omega) ?_
              refine x_iload (np := 130) (x := 9) (by decide +kernel) rfl (by first | decide | omega) ?_
              refine x_cV (t := 8) (mj := 277) (n := 6) (rc := 13) (ml := 7) (nr := 0) (np := 133) (as := [x_r 69, iv_c 2147483650, iv_c a2, iv_c a3, iv_c v5124, iv_c v5266]) (rest := []) (lo1 := [x_r 69, iv_c 2147483650, iv_c a2, iv_c a3, iv_c v5124, iv_c v5266, 147573952589676412928]) (by decide +kernel) (by decide) (by decide +kernel) (x_rb_of (by decide +kernel)) rfl rfl (x_wr (by decide) (x_wi (by decide) (x_wi la2 (x_wi la3 (x_wi (by first | decide | omega) (x_wi (by first | decide | omega) x_wn)))))) x_wn (by decide) rfl (c277_69_c2 j5270   (by first | decide | omega) (by first | decide | omega) (by first | decide | omega) (by first | decide | omega)) (fun h5326 q5325 => ?_)
              obtain ⟨j5327, f5328⟩ := q5325
              have f5331 := Fr.trans f5274 f5328 (by decide)
              have f5332 := Fr.trans f5275 f5328 (by decide)
              have f5333 := Fr.trans f5269 f5328 (by decide)
              refine x_iinc (np := 136) (i := 9) (j := 2147483649) (v := (1 + v5266)) (lo' := [x_r 69, iv_c 2147483650, iv_c a2, iv_c a3, iv_c a4, iv_c a5, iv_c v20, iv_c v24, iv_c v5124, iv_c (1 + v5266)]) (by decide +kernel) (by decide) (by decide) rfl (by first | decide | omega) (by first | decide | omega) (by first | decide | omega) rfl ?_
              refine x_goto (np := 139) (x := 81) (by decide +kernel) ?_
              exact i5273 (1 + v5266) h5326 (by first | decide | omega) (by first | decide | omega) j5327 f5333
            have q5313 : ¬ (2147483648 = 2147483648) := q5313
            exfalso; omega
        exact p5271 _ v5124 h5127 (Nat.lt_succ_self _) (by first | decide | omega) j5129 (Fr.refl _ _)
      have q5142 : ¬ (v5138 ≠ 2147483648) := q5142
      refine x_goto (np := 77) (x := 139) (by decide +kernel) ?_
      refine x_iinc (np := 142) (i := 8) (j := 2147483649) (v := (1 + v5124)) (lo' := [x_r 69, iv_c 2147483650, iv_c a2, iv_c a3, iv_c a4, iv_c a5, iv_c v20, iv_c v24, iv_c (1 + v5124), w5126]) (by decide +kernel) (by decide) (by decide) rfl (by first | decide | omega) (by first | decide | omega) (by first | decide | omega) rfl ?_
      refine x_goto (np := 145) (x := 50) (by decide +kernel) ?_
      exact i5132 (1 + v5124) w5126 h5127 (by first | decide | omega) (by first | decide | omega) j5129 f5128
  exact p5130 _ 2147483648 147573952589676412928 h (Nat.lt_succ_self _) (by first | decide | omega) hJ (Fr.refl _ _)
set_option maxHeartbeats 0 in
/-- LentNames$Search.mend(I)V -/
theorem c275_69_c2 {sc : Nat × Nat} {d  : Nat} {h : xh} (hJ : J h) : X sc 275 (d + 14) (xV fun h' => J h' ∧ Fr 65537 h h') 0 0 0 [x_r 69, iv_c 2147483650, 147573952589676412928, 147573952589676412928, 147573952589676412928, 147573952589676412928, 147573952589676412928, 147573952589676412928] [] h := by
  have hF := Fr.refl 65537 h
  refine x_aload (np := 1) (x := 0) (by decide +kernel) rfl (x_nc_le (by decide)) ?_
  refine x_getC (np := 4) (x := 778) (f := 10) (q := (h 69 10)) (by decide +kernel) (by decide) (by decide +kernel) rfl (fun l1 => ?_)
  refine x_istore (np := 5) (x := 2) (lo' := [x_r 69, iv_c 2147483650, iv_c (h 69 10), 147573952589676412928, 147573952589676412928, 147573952589676412928, 147573952589676412928, 147573952589676412928]) (by decide +kernel) l1 (Nat.le_of_ble_eq_true rfl) rfl ?_
  refine x_aload (np := 6) (x := 0) (by decide +kernel) rfl (x_nc_le (by decide)) ?_
  refine x_getC (np := 9) (x := 779) (f := 11) (q := (h 69 11)) (by decide +kernel) (by decide) (by decide +kernel) rfl (fun l2 => ?_)
  refine x_istore (np := 10) (x := 3) (lo' := [x_r 69, iv_c 2147483650, iv_c (h 69 10), iv_c (h 69 11), 147573952589676412928, 147573952589676412928, 147573952589676412928, 147573952589676412928]) (by decide +kernel) l2 (Nat.le_of_ble_eq_true rfl) rfl ?_
  refine x_aload (np := 11) (x := 0) (by decide +kernel) rfl (x_nc_le (by decide)) ?_
  refine x_getC (np := 14) (x := 780) (f := 12) (q := (h 69 12)) (by decide +kernel) (by decide) (by decide +kernel) rfl (fun l3 => ?_)
  refine x_istore (np := 16) (x := 4) (lo' := [x_r 69, iv_c 2147483650, iv_c (h 69 10), iv_c (h 69 11), iv_c (h 69 12), 147573952589676412928, 147573952589676412928, 147573952589676412928]) (by decide +kernel) l3 (Nat.le_of_ble_eq_true rfl) rfl ?_
  refine x_aload (np := 17) (x := 0) (by decide +kernel) rfl (x_nc_le (by decide)) ?_
  refine x_getC (np := 20) (x := 781) (f := 13) (q := (h 69 13)) (by decide +kernel) (by decide) (by decide +kernel) rfl (fun l4 => ?_)
  refine x_istore (np := 22) (x := 5) (lo' := [x_r 69, iv_c 2147483650, iv_c (h 69 10), iv_c (h 69 11), iv_c (h 69 12), iv_c (h 69 13), 147573952589676412928, 147573952589676412928]) (by decide +kernel) l4 (Nat.le_of_ble_eq_true rfl) rfl ?_
  refine x_const (np := 23) (x := 9223372039002259456) (a := 2147483648) (by decide +kernel) (by decide) (by decide) ?_
  refine x_istore (np := 25) (x := 6) (lo' := [x_r 69, iv_c 2147483650, iv_c (h 69 10), iv_c (h 69 11), iv_c (h 69 12), iv_c (h 69 13), iv_c 2147483648, 147573952589676412928]) (by decide +kernel) (by decide) (Nat.le_of_ble_eq_true rfl) rfl ?_
  have p1452 : ∀ (n : Nat) (v1446 : Nat) (w1448 : Nat) (h1449 : xh), 4294967296 - v1446 < n → (2147483648 ≤ v1446 ∧ v1446 ≤ 2147483654) → J h1449 → Fr 65537 h h1449 → X sc 275 (d + 14) (xV fun h' => J h' ∧ Fr 65537 h h') 0 0 25 [x_r 69, iv_c 2147483650, iv_c (h 69 10), iv_c (h 69 11), iv_c (h 69 12), iv_c (h 69 13), iv_c v1446, w1448] [] h1449 := by
    intro n
    induction n with
    | zero => intro v1446 w1448 h1449 q1453; exact absurd q1453 (Nat.not_lt_zero _)
    | succ n i1454 =>
      intro v1446 w1448 h1449 q1453 b1447 j1451 f1450
      have f1455 := Fr.trans hF f1450 (by decide)
      refine x_iload (np := 27) (x := 6) (by decide +kernel) rfl (by first | decide | omega) ?_
      refine x_aload (np := 28) (x := 0) (by decide +kernel) rfl (x_nc_le (by decide)) ?_
      have t1456 : tw (h1449 69 6) := j1451.2.2.2.2.2.2.1
      refine x_getR (np := 31) (x := 774) (f := 6) (q := (h1449 69 6)) (by decide +kernel) (by decide) (by decide +kernel) rfl ?_
      have q1457 : h1449 (h1449 69 6) 7 = h (h1449 69 6) 7 := jK 0 f1450 (rg_T0_7_0_1 t1456) (by first | decide | omega) (by first | decide | omega) (by decide)
      have b1458 := jB (e := 7) 0 hJ (rg_T0_7_0_1 t1456) (by first | decide | omega) (by first | decide | omega)
      refine x_getC (np := 34) (x := 519) (f := 7) (q := (h (h1449 69 6) 7)) (by decide +kernel) (by decide) (tg_0_519_7_0 t1456) q1457 (fun l1459 => ?_)
      refine x_icmp (k := 3) (tg := 95) (np := 37) (by decide +kernel) (by decide) (by first | decide | omega) l1459 (fun q1460 => ?_) (fun q1461 => ?_)
      · have q1460 : (h (h1449 69 6) 7) ≤ v1446 := q1460
        refine x_retV (np := 96) (x := 0) (by decide +kernel) (by decide +kernel) ⟨rfl, ?_⟩
        exact ⟨j1451, f1455⟩
      have q1461 : ¬ ((h (h1449 69 6) 7) ≤ v1446) := q1461
      refine x_const (np := 38) (x := 9223372039002259456) (a := 2147483648) (by decide +kernel) (by decide) (by decide) ?_
      refine x_istore (np := 40) (x := 7) (lo' := [x_r 69, iv_c 2147483650, iv_c (h 69 10), iv_c (h 69 11), iv_c (h 69 12), iv_c (h 69 13), iv_c v1446, iv_c 2147483648]) (by decide +kernel) (by decide) (Nat.le_of_ble_eq_true rfl) rfl ?_
      have p1659 : ∀ (n : Nat) (v1654 : Nat) (h1656 : xh), 4294967296 - v1654 < n → (2147483648 ≤ v1654 ∧ v1654 ≤ 2147483654) → J h1656 → Fr 65537 h1449 h1656 → X sc 275 (d + 14) (xV fun h' => J h' ∧ Fr 65537 h h') 0 0 40 [x_r 69, iv_c 2147483650, iv_c (h 69 10), iv_c (h 69 11), iv_c (h 69 12), iv_c (h 69 13), iv_c v1446, iv_c v1654] [] h1656 := by
        intro n
        induction n with
        | zero => intro v1654 h1656 q1660; exact absurd q1660 (Nat.not_lt_zero _)
        | succ n i1661 =>
          intro v1654 h1656 q1660 b1655 j1658 f1657
          have f1662 := Fr.trans f1455 f1657 (by decide)
          have f1663 := Fr.trans f1450 f1657 (by decide)
          refine x_iload (np := 42) (x := 7) (by decide +kernel) rfl (by first | decide | omega) ?_
          refine x_aload (np := 43) (x := 0) (by decide +kernel) rfl (x_nc_le (by decide)) ?_
          have t1664 : tw (h1656 69 6) := j1658.2.2.2.2.2.2.1
          refine x_getR (np := 46) (x := 774) (f := 6) (q := (h1656 69 6)) (by decide +kernel) (by decide) (by decide +kernel) rfl ?_
          have q1665 : h1656 (h1656 69 6) 7 = h1449 (h1656 69 6) 7 := jK 0 f1657 (rg_T0_7_0_1 t1664) (by first | decide | omega) (by first | decide | omega) (by decide)
          have q1666 : h1449 (h1656 69 6) 7 = h (h1656 69 6) 7 := jK 0 f1450 (rg_T0_7_0_1 t1664) (by first | decide | omega) (by first | decide | omega) (by decide)
          have b1667 := jB (e := 7) 0 hJ (rg_T0_7_0_1 t1664) (by first | decide | omega) (by first | decide | omega)
          refine x_getC (np := 49) (x := 519) (f := 7) (q := (h (h1656 69 6) 7)) (by decide +kernel) (by decide) (tg_0_519_7_0 t1664) (q1665.trans q1666) (fun l1668 => ?_)
          refine x_icmp (k := 3) (tg := 89) (np := 52) (by decide +kernel) (by decide) (by first | decide | omega) l1668 (fun q1669 => ?_) (fun q1670 => ?_)
          · have q1669 : (h (h1656 69 6) 7) ≤ v1654 := q1669
            refine x_iinc (np := 92) (i := 6) (j := 2147483649) (v := (1 + v1446)) (lo' := [x_r 69, iv_c 2147483650, iv_c (h 69 10), iv_c (h 69 11), iv_c (h 69 12), iv_c (h 69 13), iv_c (1 + v1446), iv_c v1654]) (by decide +kernel) (by decide) (by decide) rfl (by first | decide | omega) (by first | decide | omega) (by first | decide | omega) rfl ?_
            refine x_goto (np := 95) (x := 25) (by decide +kernel) ?_
            exact i1454 (1 + v1446) (iv_c v1654) h1656 (by first | decide | omega) (by first | decide | omega) j1658 f1663
          have q1670 : ¬ ((h (h1656 69 6) 7) ≤ v1654) := q1670
          refine x_iload (np := 53) (x := 2) (by decide +kernel) rfl l1 ?_
          refine x_iload (np := 55) (x := 6) (by decide +kernel) rfl (by first | decide | omega) ?_
          refine x_cP (t := 7) (mj := 148) (n := 2) (rc := 0) (ml := 2) (nr := 0) (np := 58) (as := [iv_c (h 69 10), iv_c v1446]) (rest := []) (lo1 := [iv_c (h 69 10), iv_c v1446]) (by decide +kernel) (by decide) (by decide +kernel) (Or.inl rfl) rfl rfl (x_wi l1 (x_wi (by first | decide | omega) x_wn)) x_wn (by decide) rfl (c148 j1658 (by first | decide | omega) (by first | decide | omega)) (fun v1671 l1672 q1673 => ?_)
          refine x_ifz (k := 0) (tg := 83) (np := 61) (by decide +kernel) (by decide) l1672 (fun q1674 => ?_) (fun q1675 => ?_)
          · have q1674 : v1671 = 2147483648 := q1674
            refine x_iinc (np := 86) (i := 7) (j := 2147483649) (v := (1 + v1654)) (lo' := [x_r 69, iv_c 2147483650, iv_c (h 69 10), iv_c (h 69 11), iv_c (h 69 12), iv_c (h 69 13), iv_c v1446, iv_c (1 + v1654)]) (by decide +kernel) (by decide) (by decide) rfl (by first | decide | omega) (by first | decide | omega) (by first | decide | omega) rfl ?_
            refine x_goto (np := 89) (x := 40) (by decide +kernel) ?_
            exact i1661 (1 + v1654) h1656 (by first | decide | omega) (by first | decide | omega) j1658 f1657
          have q1675 : ¬ (v1671 = 2147483648) := q1675
          refine x_iload (np := 62) (x := 3) (by decide +kernel) rfl l2 ?_
          refine x_iload (np := 64) (x := 7) (by decide +kernel) rfl (by first | decide | omega) ?_
          refine x_cP (t := 7) (mj := 148) (n := 2) (rc := 0) (ml := 2) (nr := 0) (np := 67) (as := [iv_c (h 69 11), iv_c v1654]) (rest := []) (lo1 := [iv_c (h 69 11), iv_c v1654]) (by decide +kernel) (by decide) (by decide +kernel) (Or.inl rfl) rfl rfl (x_wi l2 (x_wi (by first | decide | omega) x_wn)) x_wn (by decide) rfl (c148 j1658 (by first | decide | omega) (by first | decide | omega)) (fun v1676 l1677 q1678 => ?_)
          refine x_ifz (k := 0) (tg := 83) (np := 70) (by decide +kernel) (by decide) l1677 (fun q1679 => ?_) (fun q1680 => ?_)
          · have q1679 : v1676 = 2147483648 := q1679
            refine x_iinc (np := 86) (i := 7) (j := 2147483649) (v := (1 + v1654)) (lo' := [x_r 69, iv_c 2147483650, iv_c (h 69 10), iv_c (h 69 11), iv_c (h 69 12), iv_c (h 69 13), iv_c v1446, iv_c (1 + v1654)]) (by decide +kernel) (by decide) (by decide) rfl (by first | decide | omega) (by first | decide | omega) (by first | decide | omega) rfl ?_
            refine x_goto (np := 89) (x := 40) (by decide +kernel) ?_
            exact i1661 (1 + v1654) h1656 (by first | decide | omega) (by first | decide | omega) j1658 f1657
          have q1680 : ¬ (v1676 = 2147483648) := q1680
          refine x_aload (np := 71) (x := 0) (by decide +kernel) rfl (x_nc_le (by decide)) ?_
          refine x_iload (np := 72) (x := 1) (by decide +kernel) rfl (by decide) ?_
          refine x_iload (np := 74) (x := 6) (by decide +kernel) rfl (by first | decide | omega) ?_
          refine x_iload (np := 76) (x := 7) (by decide +kernel) rfl (by first | decide | omega) ?_
          refine x_iload (np := 78) (x := 4) (by decide +kernel) rfl l3 ?_
          refine x_iload (np := 80) (x := 5) (by decide +kernel) rfl l4 ?_
          refine x_cV (t := 8) (mj := 276) (n := 6) (rc := 13) (ml := 10) (nr := 0) (np := 83) (as := [x_r 69, iv_c 2147483650, iv_c v1446, iv_c v1654, iv_c (h 69 12), iv_c (h 69 13)]) (rest := []) (lo1 := [x_r 69, iv_c 2147483650, iv_c v1446, iv_c v1654, iv_c (h 69 12), iv_c (h 69 13), 147573952589676412928, 147573952589676412928, 147573952589676412928, 147573952589676412928]) (by decide +kernel) (by decide) (by decide +kernel) (x_rb_of (by decide +kernel)) rfl rfl (x_wr (by decide) (x_wi (by decide) (x_wi (by first | decide | omega) (x_wi (by first | decide | omega) (x_wi l3 (x_wi l4 x_wn)))))) x_wn (by decide) rfl (c276_69_c2 j1658   (by first | decide | omega) (by first | decide | omega) (by first | decide | omega) (by first | decide | omega)) (fun h1684 q1683 => ?_)
          obtain ⟨j1685, f1686⟩ := q1683
          have f1689 := Fr.trans f1662 f1686 (by decide)
          have f1690 := Fr.trans f1663 f1686 (by decide)
          have f1691 := Fr.trans f1657 f1686 (by decide)
          refine x_iinc (np := 86) (i := 7) (j := 2147483649) (v := (1 + v1654)) (lo' := [x_r 69, iv_c 2147483650, iv_c (h 69 10), iv_c (h 69 11), iv_c (h 69 12), iv_c (h 69 13), iv_c v1446, iv_c (1 + v1654)]) (by decide +kernel) (by decide) (by decide) rfl (by first | decide | omega) (by first | decide | omega) (by first | decide | omega) rfl ?_
          refine x_goto (np := 89) (x := 40) (by decide +kernel) ?_
          exact i1661 (1 + v1654) h1684 (by first | decide | omega) (by first | decide | omega) j1685 f1691
      exact p1659 _ 2147483648 h1449 (Nat.lt_succ_self _) (by first | decide | omega) j1451 (Fr.refl _ _)
  exact p1452 _ 2147483648 147573952589676412928 h (Nat.lt_succ_self _) (by first | decide | omega) hJ (Fr.refl _ _)
set_option maxHeartbeats 0 in
/-- LentNames$Search.keepSet(I)V -/
theorem c279_69_c2 {sc : Nat × Nat} {d  : Nat} {h : xh} (hJ : J h) : X sc 279 d (xV fun h' => J h' ∧ Fr 65537 h h') 0 0 0 [x_r 69, iv_c 2147483650, 147573952589676412928, 147573952589676412928] [] h := by
  have hF := Fr.refl 65537 h
  refine x_aload (np := 1) (x := 0) (by decide +kernel) rfl (x_nc_le (by decide)) ?_
  refine x_dup (np := 2) (x := 0) (by decide +kernel) (by have z := x_nc_le (k := 69) (by decide); unfold x_r; omega) ?_
  refine x_getC (np := 5) (x := 776) (f := 8) (q := (h 69 8)) (by decide +kernel) (by decide) (by decide +kernel) rfl (fun l1 => ?_)
  refine x_const (np := 6) (x := 9223372043297226753) (a := 2147483649) (by decide +kernel) (by decide) (by decide) ?_
  refine x_addA (by rw [tb_b279]; decide +kernel) l1 (by decide) (fun v2 l3 => ?_)
  refine x_putI (np := 10) (x := 776) (f := 8) (by decide +kernel) (by decide +kernel) l3 (Or.inl (by decide)) ?_
  have j5 := jU (e := 8) (v := v2) 0 hJ rg_69_8_0_1 (by first | decide | omega) (by first | decide | omega) (by first | decide | omega)
  have f7 := jF (e := 8) (v := v2) 0 hF rg_69_8_0_1 (by first | decide | omega) (by first | decide | omega) (by decide)
  generalize e6 : x_up h 69 8 v2 = h4 at j5 f7 ⊢
  refine x_aload (np := 11) (x := 0) (by decide +kernel) rfl (x_nc_le (by decide)) ?_
  have q8 : h4 69 8 = v2 := by rw [← e6]; exact x_up_at
  refine x_getC (np := 14) (x := 776) (f := 8) (q := v2) (by decide +kernel) (by decide) (by decide +kernel) q8 (fun l9 => ?_)
  refine x_const (np := 15) (x := 9223372043297226753) (a := 2147483649) (by decide +kernel) (by decide) (by decide) ?_
  refine x_icmp (k := 5) (tg := 19) (np := 18) (by decide +kernel) (by decide) l3 (by decide) (fun q10 => ?_) (fun q11 => ?_)
  · have q10 : v2 ≤ 2147483649 := q10
    refine x_aload (np := 20) (x := 0) (by decide +kernel) rfl (x_nc_le (by decide)) ?_
    refine x_iload (np := 21) (x := 1) (by decide +kernel) rfl (by decide) ?_
    refine x_putI (np := 24) (x := 783) (f := 15) (by decide +kernel) (by decide +kernel) (by decide) (Or.inl (by decide)) ?_
    have j13 := jU (e := 15) (v := 2147483650) 0 j5 rg_69_15_0_1 (by first | decide | omega) (by first | decide | omega) (by first | decide | omega)
    have f15 := jF (e := 15) (v := 2147483650) 0 f7 rg_69_15_0_1 (by first | decide | omega) (by first | decide | omega) (by decide)
    generalize e14 : x_up h4 69 15 2147483650 = h12 at j13 f15 ⊢
    refine x_const (np := 25) (x := 9223372039002259456) (a := 2147483648) (by decide +kernel) (by decide) (by decide) ?_
    refine x_istore (np := 26) (x := 2) (lo' := [x_r 69, iv_c 2147483650, iv_c 2147483648, 147573952589676412928]) (by decide +kernel) (by decide) (Nat.le_of_ble_eq_true rfl) rfl ?_
    have p622 : ∀ (n : Nat) (v616 : Nat) (w618 : Nat) (h619 : xh), 4294967296 - v616 < n → (2147483648 ≤ v616 ∧ v616 ≤ 2147483653) → J h619 → Fr 65536 h12 h619 → X sc 279 d (xV fun h' => J h' ∧ Fr 65537 h h') 0 0 26 [x_r 69, iv_c 2147483650, iv_c v616, w618] [] h619 := by
      intro n
      induction n with
      | zero => intro v616 w618 h619 q623; exact absurd q623 (Nat.not_lt_zero _)
      | succ n i624 =>
        intro v616 w618 h619 q623 b617 j621 f620
        have f625 := Fr.trans f15 f620 (by decide)
        refine x_iload (np := 27) (x := 2) (by decide +kernel) rfl (by first | decide | omega) ?_
        refine x_aload (np := 28) (x := 0) (by decide +kernel) rfl (x_nc_le (by decide)) ?_
        have b626 := jB (e := 15) 0 j621 rg_69_15_0_1 (by first | decide | omega) (by first | decide | omega)
        refine x_getC (np := 31) (x := 783) (f := 15) (q := (h619 69 15)) (by decide +kernel) (by decide) (by decide +kernel) rfl (fun l627 => ?_)
        refine x_icmp (k := 3) (tg := 95) (np := 34) (by decide +kernel) (by decide) (by first | decide | omega) l627 (fun q628 => ?_) (fun q629 => ?_)
        · have q628 : (h619 69 15) ≤ v616 := q628
          refine x_retV (np := 96) (x := 0) (by decide +kernel) (by decide +kernel) ⟨rfl, ?_⟩
          exact ⟨j621, f625⟩
        have q629 : ¬ ((h619 69 15) ≤ v616) := q629
        refine x_iload (np := 35) (x := 2) (by decide +kernel) rfl (by first | decide | omega) ?_
        refine x_istore (np := 36) (x := 3) (lo' := [x_r 69, iv_c 2147483650, iv_c v616, iv_c v616]) (by decide +kernel) (by first | decide | omega) (Nat.le_of_ble_eq_true rfl) rfl ?_
        have p704 : ∀ (n : Nat) (v699 : Nat) (h701 : xh), v699 < n → (2147483648 ≤ v699 ∧ v699 ≤ 2147483652) → J h701 → Fr 65536 h619 h701 → X sc 279 d (xV fun h' => J h' ∧ Fr 65537 h h') 0 0 36 [x_r 69, iv_c 2147483650, iv_c v616, iv_c v699] [] h701 := by
          intro n
          induction n with
          | zero => intro v699 h701 q705; exact absurd q705 (Nat.not_lt_zero _)
          | succ n i706 =>
            intro v699 h701 q705 b700 j703 f702
            have f707 := Fr.trans f625 f702 (by decide)
            have f708 := Fr.trans f620 f702 (by decide)
            refine x_iload (np := 37) (x := 3) (by decide +kernel) rfl (by first | decide | omega) ?_
            refine x_ifz (k := 5) (tg := 77) (np := 40) (by decide +kernel) (by decide) (by first | decide | omega) (fun q709 => ?_) (fun q710 => ?_)
            · have q709 : v699 ≤ 2147483648 := q709
              refine x_aload (np := 78) (x := 0) (by decide +kernel) rfl (x_nc_le (by decide)) ?_
              have q711 : h701 69 4 = 74 := by have z := jB (e := 4) 0 j703 rg_69_4_0_1 (by decide) (by decide); omega
              refine x_getR (np := 81) (x := 772) (f := 4) (q := 74) (by decide +kernel) (by decide) (by decide +kernel) q711 ?_
              refine x_iload (np := 82) (x := 3) (by decide +kernel) rfl (by first | decide | omega) ?_
              refine x_aload (np := 83) (x := 0) (by decide +kernel) rfl (x_nc_le (by decide)) ?_
              have q712 : h701 69 3 = 73 := by have z := jB (e := 3) 0 j703 rg_69_3_0_1 (by decide) (by decide); omega
              refine x_getR (np := 86) (x := 771) (f := 3) (q := 73) (by decide +kernel) (by decide) (by decide +kernel) q712 ?_
              refine x_iload (np := 87) (x := 2) (by decide +kernel) rfl (by first | decide | omega) ?_
              obtain ⟨u713, q714⟩ : ∃ z, v616 = 2147483648 + z := ⟨v616 - 2147483648, by first | decide | omega⟩
              refine x_aldC (np := 88) (x := 0) (n := 5) (i := u713) (q := (h701 73 u713)) (by decide +kernel) (by decide +kernel) (by first | decide | omega) (by first | decide | omega) (by decide) rfl (fun l715 => ?_)
              obtain ⟨u716, q717⟩ : ∃ z, v699 = 2147483648 + z := ⟨v699 - 2147483648, by first | decide | omega⟩
              refine x_ast (np := 89) (x := 0) (kd := 1) (n := 5) (i := u716) (by decide +kernel) (Or.inl rfl) (by decide +kernel) (by first | decide | omega) (by first | decide | omega) (by decide) l715 (fun z => absurd z (by decide)) ?_
              have j719 := jU (e := u716) (v := (h701 73 u713)) u716 j703 rg_74_0_1_5 (by first | decide | omega) (by first | decide | omega) (by first | decide | omega)
              have f721 := jF (e := u716) (v := (h701 73 u713)) u716 f707 rg_74_0_1_5 (by first | decide | omega) (by first | decide | omega) (by decide)
              have f722 := jF (e := u716) (v := (h701 73 u713)) u716 f708 rg_74_0_1_5 (by first | decide | omega) (by first | decide | omega) (by decide)
              generalize e720 : x_up h701 74 u716 (h701 73 u713) = h718 at j719 f721 f722 ⊢
              refine x_iinc (np := 92) (i := 2) (j := 2147483649) (v := (1 + v616)) (lo' := [x_r 69, iv_c 2147483650, iv_c (1 + v616), iv_c v699]) (by decide +kernel) (by decide) (by decide) rfl (by first | decide | omega) (by first | decide | omega) (by first | decide | omega) rfl ?_
              refine x_goto (np := 95) (x := 26) (by decide +kernel) ?_
              exact i624 (1 + v616) (iv_c v699) h718 (by first | decide | omega) (by first | decide | omega) j719 f722
            have q710 : ¬ (v699 ≤ 2147483648) := q710
            refine x_aload (np := 41) (x := 0) (by decide +kernel) rfl (x_nc_le (by decide)) ?_
            have q723 : h701 69 4 = 74 := by have z := jB (e := 4) 0 j703 rg_69_4_0_1 (by decide) (by decide); omega
            refine x_getR (np := 44) (x := 772) (f := 4) (q := 74) (by decide +kernel) (by decide) (by decide +kernel) q723 ?_
            refine x_iload (np := 45) (x := 3) (by decide +kernel) rfl (by first | decide | omega) ?_
            refine x_const (np := 46) (x := 9223372043297226753) (a := 2147483649) (by decide +kernel) (by decide) (by decide) ?_
            obtain ⟨v724, q725⟩ : ∃ z, z + 2147483649 = v699 + 2147483648 := ⟨v699 + 2147483648 - 2147483649, by first | decide | omega⟩
            refine x_isub (np := 47) (x := 0) (v := v724) (by decide +kernel) (by first | decide | omega) (by decide) (by first | decide | omega) (by first | decide | omega) ?_
            obtain ⟨u726, q727⟩ : ∃ z, v724 = 2147483648 + z := ⟨v724 - 2147483648, by first | decide | omega⟩
            refine x_aldC (np := 48) (x := 0) (n := 5) (i := u726) (q := (h701 74 u726)) (by decide +kernel) (by decide +kernel) (by first | decide | omega) (by first | decide | omega) (by decide) rfl (fun l728 => ?_)
            refine x_aload (np := 49) (x := 0) (by decide +kernel) rfl (x_nc_le (by decide)) ?_
            have q729 : h701 69 3 = 73 := by have z := jB (e := 3) 0 j703 rg_69_3_0_1 (by decide) (by decide); omega
            refine x_getR (np := 52) (x := 771) (f := 3) (q := 73) (by decide +kernel) (by decide) (by decide +kernel) q729 ?_
            refine x_iload (np := 53) (x := 2) (by decide +kernel) rfl (by first | decide | omega) ?_
            obtain ⟨u730, q731⟩ : ∃ z, v616 = 2147483648 + z := ⟨v616 - 2147483648, by first | decide | omega⟩
            refine x_aldC (np := 54) (x := 0) (n := 5) (i := u730) (q := (h701 73 u730)) (by decide +kernel) (by decide +kernel) (by first | decide | omega) (by first | decide | omega) (by decide) rfl (fun l732 => ?_)
            refine x_icmp (k := 5) (tg := 77) (np := 57) (by decide +kernel) (by decide) l728 l732 (fun q733 => ?_) (fun q734 => ?_)
            · have q733 : (h701 74 u726) ≤ (h701 73 u730) := q733
              refine x_aload (np := 78) (x := 0) (by decide +kernel) rfl (x_nc_le (by decide)) ?_
              have q735 : h701 69 4 = 74 := by have z := jB (e := 4) 0 j703 rg_69_4_0_1 (by decide) (by decide); omega
              refine x_getR (np := 81) (x := 772) (f := 4) (q := 74) (by decide +kernel) (by decide) (by decide +kernel) q735 ?_
              refine x_iload (np := 82) (x := 3) (by decide +kernel) rfl (by first | decide | omega) ?_
              refine x_aload (np := 83) (x := 0) (by decide +kernel) rfl (x_nc_le (by decide)) ?_
              have q736 : h701 69 3 = 73 := by have z := jB (e := 3) 0 j703 rg_69_3_0_1 (by decide) (by decide); omega
              refine x_getR (np := 86) (x := 771) (f := 3) (q := 73) (by decide +kernel) (by decide) (by decide +kernel) q736 ?_
              refine x_iload (np := 87) (x := 2) (by decide +kernel) rfl (by first | decide | omega) ?_
              refine x_aldC (np := 88) (x := 0) (n := 5) (i := u730) (q := (h701 73 u730)) (by decide +kernel) (by decide +kernel) (by first | decide | omega) (by first | decide | omega) (by decide) rfl (fun l737 => ?_)
              obtain ⟨u738, q739⟩ : ∃ z, v699 = 2147483648 + z := ⟨v699 - 2147483648, by first | decide | omega⟩
              refine x_ast (np := 89) (x := 0) (kd := 1) (n := 5) (i := u738) (by decide +kernel) (Or.inl rfl) (by decide +kernel) (by first | decide | omega) (by first | decide | omega) (by decide) l732 (fun z => absurd z (by decide)) ?_
              have j741 := jU (e := u738) (v := (h701 73 u730)) u738 j703 rg_74_0_1_5 (by first | decide | omega) (by first | decide | omega) (by first | decide | omega)
              have f743 := jF (e := u738) (v := (h701 73 u730)) u738 f707 rg_74_0_1_5 (by first | decide | omega) (by first | decide | omega) (by decide)
              have f744 := jF (e := u738) (v := (h701 73 u730)) u738 f708 rg_74_0_1_5 (by first | decide | omega) (by first | decide | omega) (by decide)
              generalize e742 : x_up h701 74 u738 (h701 73 u730) = h740 at j741 f743 f744 ⊢
              refine x_iinc (np := 92) (i := 2) (j := 2147483649) (v := (1 + v616)) (lo' := [x_r 69, iv_c 2147483650, iv_c (1 + v616), iv_c v699]) (by decide +kernel) (by decide) (by decide) rfl (by first | decide | omega) (by first | decide | omega) (by first | decide | omega) rfl ?_
              refine x_goto (np := 95) (x := 26) (by decide +kernel) ?_
              exact i624 (1 + v616) (iv_c v699) h740 (by first | decide | omega) (by first | decide | omega) j741 f744
            have q734 : ¬ ((h701 74 u726) ≤ (h701 73 u730)) := q734
            refine x_aload (np := 58) (x := 0) (by decide +kernel) rfl (x_nc_le (by decide)) ?_
            have q745 : h701 69 4 = 74 := by have z := jB (e := 4) 0 j703 rg_69_4_0_1 (by decide) (by decide); omega
            refine x_getR (np := 61) (x := 772) (f := 4) (q := 74) (by decide +kernel) (by decide) (by decide +kernel) q745 ?_
            refine x_iload (np := 62) (x := 3) (by decide +kernel) rfl (by first | decide | omega) ?_
            refine x_aload (np := 63) (x := 0) (by decide +kernel) rfl (x_nc_le (by decide)) ?_
            have q746 : h701 69 4 = 74 := by have z := jB (e := 4) 0 j703 rg_69_4_0_1 (by decide) (by decide); omega
            refine x_getR (np := 66) (x := 772) (f := 4) (q := 74) (by decide +kernel) (by decide) (by decide +kernel) q746 ?_
            refine x_iload (np := 67) (x := 3) (by decide +kernel) rfl (by first | decide | omega) ?_
            refine x_const (np := 68) (x := 9223372043297226753) (a := 2147483649) (by decide +kernel) (by decide) (by decide) ?_
            obtain ⟨v747, q748⟩ : ∃ z, z + 2147483649 = v699 + 2147483648 := ⟨v699 + 2147483648 - 2147483649, by first | decide | omega⟩
            refine x_isub (np := 69) (x := 0) (v := v747) (by decide +kernel) (by first | decide | omega) (by decide) (by first | decide | omega) (by first | decide | omega) ?_
            obtain ⟨u749, q750⟩ : ∃ z, v747 = 2147483648 + z := ⟨v747 - 2147483648, by first | decide | omega⟩
            refine x_aldC (np := 70) (x := 0) (n := 5) (i := u749) (q := (h701 74 u749)) (by decide +kernel) (by decide +kernel) (by first | decide | omega) (by first | decide | omega) (by decide) rfl (fun l751 => ?_)
            obtain ⟨u752, q753⟩ : ∃ z, v699 = 2147483648 + z := ⟨v699 - 2147483648, by first | decide | omega⟩
            refine x_ast (np := 71) (x := 0) (kd := 1) (n := 5) (i := u752) (by decide +kernel) (Or.inl rfl) (by decide +kernel) (by first | decide | omega) (by first | decide | omega) (by decide) l751 (fun z => absurd z (by decide)) ?_
            have j755 := jU (e := u752) (v := (h701 74 u749)) u752 j703 rg_74_0_1_5 (by first | decide | omega) (by first | decide | omega) (by first | decide | omega)
            have f757 := jF (e := u752) (v := (h701 74 u749)) u752 f707 rg_74_0_1_5 (by first | decide | omega) (by first | decide | omega) (by decide)
            have f758 := jF (e := u752) (v := (h701 74 u749)) u752 f708 rg_74_0_1_5 (by first | decide | omega) (by first | decide | omega) (by decide)
            have f759 := jF (e := u752) (v := (h701 74 u749)) u752 f702 rg_74_0_1_5 (by first | decide | omega) (by first | decide | omega) (by decide)
            generalize e756 : x_up h701 74 u752 (h701 74 u749) = h754 at j755 f757 f758 f759 ⊢
            obtain ⟨v760, q761⟩ : ∃ z, z + 1 = v699 := ⟨v699 - 1, by first | decide | omega⟩
            refine x_iinc (np := 74) (i := 3) (j := 2147483647) (v := v760) (lo' := [x_r 69, iv_c 2147483650, iv_c v616, iv_c v760]) (by decide +kernel) (by decide) (by decide) rfl (by first | decide | omega) (by first | decide | omega) (by first | decide | omega) rfl ?_
            refine x_goto (np := 77) (x := 36) (by decide +kernel) ?_
            exact i706 v760 h754 (by first | decide | omega) (by first | decide | omega) j755 f759
        exact p704 _ v616 h619 (Nat.lt_succ_self _) (by first | decide | omega) j621 (Fr.refl _ _)
    exact p622 _ 2147483648 147573952589676412928 h12 (Nat.lt_succ_self _) (by first | decide | omega) j13 (Fr.refl _ _)
  have q11 : ¬ (v2 ≤ 2147483649) := q11
  refine x_retV (np := 19) (x := 0) (by decide +kernel) (by decide +kernel) ⟨rfl, ?_⟩
  exact ⟨j5, f7⟩
set_option maxHeartbeats 0 in
/-- LentNames$Search.come(I)V -/
theorem c274_69_c2 {sc : Nat × Nat} {d  : Nat} {h : xh} (hJ : J h) : X sc 274 (d + 15) (xV fun h' => J h' ∧ Fr 65537 h h') 0 0 0 [x_r 69, iv_c 2147483650] [] h := by
  have hF := Fr.refl 65537 h
  refine x_aload (np := 1) (x := 0) (by decide +kernel) rfl (x_nc_le (by decide)) ?_
  refine x_dup (np := 2) (x := 0) (by decide +kernel) (by have z := x_nc_le (k := 69) (by decide); unfold x_r; omega) ?_
  refine x_getC (np := 5) (x := 785) (f := 17) (q := (h 69 17)) (by decide +kernel) (by decide) (by decide +kernel) rfl (fun l1 => ?_)
  refine x_const (np := 6) (x := 9223372043297226753) (a := 2147483649) (by decide +kernel) (by decide) (by decide) ?_
  refine x_addA (by rw [tb_b274]; decide +kernel) l1 (by decide) (fun v2 l3 => ?_)
  refine x_putI (np := 10) (x := 785) (f := 17) (by decide +kernel) (by decide +kernel) l3 (Or.inl (by decide)) ?_
  have j5 := jU (e := 17) (v := v2) 0 hJ rg_69_17_0_1 (by first | decide | omega) (by first | decide | omega) (by first | decide | omega)
  have f7 := jF (e := 17) (v := v2) 0 hF rg_69_17_0_1 (by first | decide | omega) (by first | decide | omega) (by decide)
  generalize e6 : x_up h 69 17 v2 = h4 at j5 f7 ⊢
  refine x_aload (np := 11) (x := 0) (by decide +kernel) rfl (x_nc_le (by decide)) ?_
  have q8 : h4 69 17 = v2 := by rw [← e6]; exact x_up_at
  refine x_getC (np := 14) (x := 785) (f := 17) (q := v2) (by decide +kernel) (by decide) (by decide +kernel) q8 (fun l9 => ?_)
  refine x_const (np := 17) (x := 9223457938348199456) (a := 2147503648) (by decide +kernel) (by decide) (by decide) ?_
  refine x_icmp (k := 5) (tg := 28) (np := 20) (by decide +kernel) (by decide) l3 (by decide) (fun q10 => ?_) (fun q11 => ?_)
  · have q10 : v2 ≤ 2147503648 := q10
    refine x_aload (np := 29) (x := 0) (by decide +kernel) rfl (x_nc_le (by decide)) ?_
    refine x_vI (np := 32) (x := 5246979) (kk := 3) (cls := 5) (mj := 63) (ml := 3) (nr := 0) (rest := []) (lo1 := [x_r 69, 147573952589676412928, 147573952589676412928]) (by decide +kernel) (by decide) (by decide) (by decide) (by decide +kernel) (by decide +kernel) (by decide) (by decide +kernel) (by decide +kernel) x_wn (by decide) rfl (c63_69 j5) (fun v12 h15 l13 q14 => ?_)
    obtain ⟨j16, f17, b18⟩ := q14
    have f19 := Fr.trans f7 f17 (by decide)
    refine x_ifz (k := 1) (tg := 43) (np := 35) (by decide +kernel) (by decide) l13 (fun q20 => ?_) (fun q21 => ?_)
    · have q20 : v12 ≠ 2147483648 := q20
      refine x_iload (np := 44) (x := 1) (by decide +kernel) rfl (by decide) ?_
      refine x_aload (np := 45) (x := 0) (by decide +kernel) rfl (x_nc_le (by decide)) ?_
      refine x_getC (np := 48) (x := 784) (f := 16) (q := (h15 69 16)) (by decide +kernel) (by decide) (by decide +kernel) rfl (fun l22 => ?_)
      refine x_icmp (k := 3) (tg := 61) (np := 51) (by decide +kernel) (by decide) (by decide) l22 (fun q23 => ?_) (fun q24 => ?_)
      · have q23 : (h15 69 16) ≤ 2147483650 := q23
        refine x_retV (np := 62) (x := 0) (by decide +kernel) (by decide +kernel) ⟨rfl, ?_⟩
        exact ⟨j16, f19⟩
      have q24 : ¬ ((h15 69 16) ≤ 2147483650) := q24
      refine x_iload (np := 52) (x := 1) (by decide +kernel) rfl (by decide) ?_
      refine x_const (np := 53) (x := 9223372060477095941) (a := 2147483653) (by decide +kernel) (by decide) (by decide) ?_
      refine x_icmp (k := 3) (tg := 61) (np := 56) (by decide +kernel) (by decide) (by decide) (by decide) (fun q25 => ?_) (fun q26 => ?_)
      · have q25 : 2147483653 ≤ 2147483650 := q25
        exfalso; omega
      have q26 : ¬ (2147483653 ≤ 2147483650) := q26
      refine x_aload (np := 57) (x := 0) (by decide +kernel) rfl (x_nc_le (by decide)) ?_
      refine x_iload (np := 58) (x := 1) (by decide +kernel) rfl (by decide) ?_
      refine x_cV (t := 8) (mj := 275) (n := 2) (rc := 13) (ml := 8) (nr := 0) (np := 61) (as := [x_r 69, iv_c 2147483650]) (rest := []) (lo1 := [x_r 69, iv_c 2147483650, 147573952589676412928, 147573952589676412928, 147573952589676412928, 147573952589676412928, 147573952589676412928, 147573952589676412928]) (by decide +kernel) (by decide) (by decide +kernel) (x_rb_of (by decide +kernel)) rfl rfl (x_wr (by decide) (x_wi (by decide) x_wn)) x_wn (by decide) rfl (c275_69_c2 j16  ) (fun h30 q29 => ?_)
      obtain ⟨j31, f32⟩ := q29
      have f35 := Fr.trans f19 f32 (by decide)
      refine x_retV (np := 62) (x := 0) (by decide +kernel) (by decide +kernel) ⟨rfl, ?_⟩
      exact ⟨j31, f35⟩
    have q21 : ¬ (v12 ≠ 2147483648) := q21
    refine x_aload (np := 36) (x := 0) (by decide +kernel) rfl (x_nc_le (by decide)) ?_
    refine x_iload (np := 37) (x := 1) (by decide +kernel) rfl (by decide) ?_
    refine x_cV (t := 8) (mj := 279) (n := 2) (rc := 13) (ml := 4) (nr := 0) (np := 40) (as := [x_r 69, iv_c 2147483650]) (rest := []) (lo1 := [x_r 69, iv_c 2147483650, 147573952589676412928, 147573952589676412928]) (by decide +kernel) (by decide) (by decide +kernel) (x_rb_of (by decide +kernel)) rfl rfl (x_wr (by decide) (x_wi (by decide) x_wn)) x_wn (by decide) rfl (c279_69_c2 j16  ) (fun h39 q38 => ?_)
    obtain ⟨j40, f41⟩ := q38
    have f44 := Fr.trans f19 f41 (by decide)
    refine x_goto (np := 43) (x := 61) (by decide +kernel) ?_
    refine x_retV (np := 62) (x := 0) (by decide +kernel) (by decide +kernel) ⟨rfl, ?_⟩
    exact ⟨j40, f44⟩
  have q11 : ¬ (v2 ≤ 2147503648) := q11
  refine x_aload (np := 21) (x := 0) (by decide +kernel) rfl (x_nc_le (by decide)) ?_
  refine x_const (np := 22) (x := 9223372043297226753) (a := 2147483649) (by decide +kernel) (by decide) (by decide) ?_
  refine x_putI (np := 25) (x := 4873) (f := 9) (by decide +kernel) (by decide +kernel) (by decide) (Or.inr ⟨by decide, by first | decide | omega, by first | decide | omega⟩) ?_
  have j46 := jU (e := 9) (v := 2147483649) 0 j5 rg_69_9_0_1 (by first | decide | omega) (by first | decide | omega) (by first | decide | omega)
  have f48 := jF (e := 9) (v := 2147483649) 0 f7 rg_69_9_0_1 (by first | decide | omega) (by first | decide | omega) (by decide)
  generalize e47 : x_up h4 69 9 2147483649 = h45 at j46 f48 ⊢
  refine x_goto (np := 28) (x := 61) (by decide +kernel) ?_
  refine x_retV (np := 62) (x := 0) (by decide +kernel) (by decide +kernel) ⟨rfl, ?_⟩
  exact ⟨j46, f48⟩
set_option maxHeartbeats 0 in
/-- LentNames$Search.tryLoan(IIIII)V -/
theorem c277_69_c1 {sc : Nat × Nat} {d a2 a3 a4 a5 : Nat} {h : xh} (hJ : J h) (ba2 : 2147483648 ≤ a2 ∧ a2 ≤ 2147483653) (ba3 : 2147483648 ≤ a3 ∧ a3 ≤ 2147483653) (ba4 : 2147483648 ≤ a4 ∧ a4 ≤ 2147483659) (ba5 : 2147483648 ≤ a5 ∧ a5 ≤ 2147483659) : X sc 277 (d + 16) (xV fun h' => J h' ∧ Fr 65537 h h') 0 0 0 [x_r 69, iv_c 2147483649, iv_c a2, iv_c a3, iv_c a4, iv_c a5, 147573952589676412928] [] h := by
  have la2 : a2 < 4294967296 := by first | decide | omega
  have la3 : a3 < 4294967296 := by first | decide | omega
  have la4 : a4 < 4294967296 := by first | decide | omega
  have la5 : a5 < 4294967296 := by first | decide | omega
  have hF := Fr.refl 65537 h
  refine x_const (np := 1) (x := 9223372043297226753) (a := 2147483649) (by decide +kernel) (by decide) (by decide) ?_
  refine x_iload (np := 3) (x := 5) (by decide +kernel) rfl la5 ?_
  refine x_const (np := 4) (x := 9223372043297226753) (a := 2147483649) (by decide +kernel) (by decide) (by decide) ?_
  refine x_iadd (np := 5) (x := 0) (v := (1 + a5)) (by decide +kernel) la5 (by decide) (by first | decide | omega) (by first | decide | omega) ?_
  refine x_any (np := 6) (k9 := 3) (by decide +kernel) (by decide) (by decide) (by first | decide | omega) (fun v1 l2 => ?_)
  refine x_const (np := 7) (x := 9223372043297226753) (a := 2147483649) (by decide +kernel) (by decide) (by decide) ?_
  refine x_iload (np := 9) (x := 4) (by decide +kernel) rfl la4 ?_
  refine x_any (np := 10) (k9 := 3) (by decide +kernel) (by decide) (by decide) la4 (fun v3 l4 => ?_)
  refine x_subA (by rw [tb_b277]; decide +kernel) l2 l4 (fun v5 l6 => ?_)
  refine x_istore (np := 13) (x := 6) (lo' := [x_r 69, iv_c 2147483649, iv_c a2, iv_c a3, iv_c a4, iv_c a5, iv_c v5]) (by decide +kernel) l6 (Nat.le_of_ble_eq_true rfl) rfl ?_
  refine x_aload (np := 14) (x := 0) (by decide +kernel) rfl (x_nc_le (by decide)) ?_
  have q7 : h 69 3 = 73 := by have z := jB (e := 3) 0 hJ rg_69_3_0_1 (by decide) (by decide); omega
  refine x_getR (np := 17) (x := 771) (f := 3) (q := 73) (by decide +kernel) (by decide) (by decide +kernel) q7 ?_
  refine x_iload (np := 18) (x := 1) (by decide +kernel) rfl (by decide) ?_
  refine x_const (np := 21) (x := 9223414988675229456) (a := 2147493648) (by decide +kernel) (by decide) (by decide) ?_
  refine x_iload (np := 22) (x := 2) (by decide +kernel) rfl la2 ?_
  obtain ⟨u8, q9⟩ : ∃ z, a2 = 2147483648 + z := ⟨a2 - 2147483648, by first | decide | omega⟩
  refine x_imul (np := 23) (x := 0) (i := 10000) (j := u8) (v := (2147483648 + 10000 * u8)) (by decide +kernel) (by first | decide | omega) (by first | decide | omega) (by first | decide | omega) (by first | decide | omega) (by decide) la2 ?_
  refine x_const (np := 26) (x := 9223376333969556456) (a := 2147484648) (by decide +kernel) (by decide) (by decide) ?_
  refine x_iload (np := 27) (x := 3) (by decide +kernel) rfl la3 ?_
  obtain ⟨u11, q12⟩ : ∃ z, a3 = 2147483648 + z := ⟨a3 - 2147483648, by first | decide | omega⟩
  refine x_imul (np := 28) (x := 0) (i := 1000) (j := u11) (v := (2147483648 + 1000 * u11)) (by decide +kernel) (by first | decide | omega) (by first | decide | omega) (by first | decide | omega) (by first | decide | omega) (by decide) la3 ?_
  refine x_iadd (np := 29) (x := 0) (v := (2147483648 + 10000 * u8 + 1000 * u11)) (by decide +kernel) (by first | decide | omega) (by first | decide | omega) (by first | decide | omega) (by first | decide | omega) ?_
  refine x_const (np := 31) (x := 9223372124901605396) (a := 2147483668) (by decide +kernel) (by decide) (by decide) ?_
  refine x_iload (np := 33) (x := 4) (by decide +kernel) rfl la4 ?_
  obtain ⟨u14, q15⟩ : ∃ z, a4 = 2147483648 + z := ⟨a4 - 2147483648, by first | decide | omega⟩
  refine x_imul (np := 34) (x := 0) (i := 20) (j := u14) (v := (2147483648 + 20 * u14)) (by decide +kernel) (by first | decide | omega) (by first | decide | omega) (by first | decide | omega) (by first | decide | omega) (by decide) la4 ?_
  refine x_iadd (np := 35) (x := 0) (v := (2147483648 + 10000 * u8 + 1000 * u11 + 20 * u14)) (by decide +kernel) (by first | decide | omega) (by first | decide | omega) (by first | decide | omega) (by first | decide | omega) ?_
  refine x_iload (np := 37) (x := 5) (by decide +kernel) rfl la5 ?_
  refine x_iadd (np := 38) (x := 0) (v := (10000 * u8 + 1000 * u11 + 20 * u14 + a5)) (by decide +kernel) (by first | decide | omega) la5 (by first | decide | omega) (by first | decide | omega) ?_
  refine x_ast (np := 39) (x := 0) (kd := 1) (n := 5) (i := 1) (by decide +kernel) (Or.inl rfl) (by decide +kernel) (by first | decide | omega) (by first | decide | omega) (by decide) (by first | decide | omega) (fun z => absurd z (by decide)) ?_
  have j18 := jU (e := 1) (v := (10000 * u8 + 1000 * u11 + 20 * u14 + a5)) 1 hJ rg_73_0_1_5 (by first | decide | omega) (by first | decide | omega) (by first | decide | omega)
  have f20 := jF (e := 1) (v := (10000 * u8 + 1000 * u11 + 20 * u14 + a5)) 1 hF rg_73_0_1_5 (by first | decide | omega) (by first | decide | omega) (by decide)
  generalize e19 : x_up h 73 1 (10000 * u8 + 1000 * u11 + 20 * u14 + a5) = h17 at j18 f20 ⊢
  refine x_aload (np := 40) (x := 0) (by decide +kernel) rfl (x_nc_le (by decide)) ?_
  refine x_iload (np := 41) (x := 2) (by decide +kernel) rfl la2 ?_
  refine x_iload (np := 42) (x := 3) (by decide +kernel) rfl la3 ?_
  refine x_iload (np := 44) (x := 6) (by decide +kernel) rfl l6 ?_
  refine x_cV (t := 8) (mj := 280) (n := 4) (rc := 13) (ml := 5) (nr := 0) (np := 47) (as := [x_r 69, iv_c a2, iv_c a3, iv_c v5]) (rest := []) (lo1 := [x_r 69, iv_c a2, iv_c a3, iv_c v5, 147573952589676412928]) (by decide +kernel) (by decide) (by decide +kernel) (x_rb_of (by decide +kernel)) rfl rfl (x_wr (by decide) (x_wi la2 (x_wi la3 (x_wi l6 x_wn)))) x_wn (by decide) rfl (c280_69 j18  (by first | decide | omega) (by first | decide | omega) (by first | decide | omega)) (fun h24 q23 => ?_)
  obtain ⟨j25, f26⟩ := q23
  have f29 := Fr.trans f20 f26 (by decide)
  refine x_aload (np := 48) (x := 0) (by decide +kernel) rfl (x_nc_le (by decide)) ?_
  refine x_iload (np := 49) (x := 1) (by decide +kernel) rfl (by decide) ?_
  refine x_const (np := 50) (x := 9223372043297226753) (a := 2147483649) (by decide +kernel) (by decide) (by decide) ?_
  refine x_iadd (np := 51) (x := 0) (v := 2147483650) (by decide +kernel) (by decide) (by decide) (by first | decide | omega) (by first | decide | omega) ?_
  refine x_cV (t := 8) (mj := 274) (n := 2) (rc := 13) (ml := 2) (nr := 0) (np := 54) (as := [x_r 69, iv_c 2147483650]) (rest := []) (lo1 := [x_r 69, iv_c 2147483650]) (by decide +kernel) (by decide) (by decide +kernel) (x_rb_of (by decide +kernel)) rfl rfl (x_wr (by decide) (x_wi (by decide) x_wn)) x_wn (by decide) rfl (c274_69_c2 j25  ) (fun h33 q32 => ?_)
  obtain ⟨j34, f35⟩ := q32
  have f38 := Fr.trans f29 f35 (by decide)
  refine x_aload (np := 55) (x := 0) (by decide +kernel) rfl (x_nc_le (by decide)) ?_
  refine x_iload (np := 56) (x := 2) (by decide +kernel) rfl la2 ?_
  refine x_iload (np := 58) (x := 6) (by decide +kernel) rfl l6 ?_
  refine x_cV (t := 8) (mj := 281) (n := 3) (rc := 13) (ml := 5) (nr := 0) (np := 61) (as := [x_r 69, iv_c a2, iv_c v5]) (rest := []) (lo1 := [x_r 69, iv_c a2, iv_c v5, 147573952589676412928, 147573952589676412928]) (by decide +kernel) (by decide) (by decide +kernel) (x_rb_of (by decide +kernel)) rfl rfl (x_wr (by decide) (x_wi la2 (x_wi l6 x_wn))) x_wn (by decide) rfl (c281_69 j34  (by first | decide | omega) (by first | decide | omega)) (fun h42 q41 => ?_)
  obtain ⟨j43, f44⟩ := q41
  have f47 := Fr.trans f38 f44 (by decide)
  refine x_retV (np := 62) (x := 0) (by decide +kernel) (by decide +kernel) ⟨rfl, ?_⟩
  exact ⟨j43, f47⟩
set_option maxHeartbeats 0 in
/-- LentNames$Search.tryLoans(IIIII)V -/
theorem c276_69_c1 {sc : Nat × Nat} {d a2 a3 a4 a5 : Nat} {h : xh} (hJ : J h) (ba2 : 2147483648 ≤ a2 ∧ a2 ≤ 2147483653) (ba3 : 2147483648 ≤ a3 ∧ a3 ≤ 2147483653) (ba4 : 0 ≤ a4 ∧ a4 ≤ 4294967295) (ba5 : 0 ≤ a5 ∧ a5 ≤ 4294967295) : X sc 276 (d + 17) (xV fun h' => J h' ∧ Fr 65537 h h') 0 0 0 [x_r 69, iv_c 2147483649, iv_c a2, iv_c a3, iv_c a4, iv_c a5, 147573952589676412928, 147573952589676412928, 147573952589676412928, 147573952589676412928] [] h := by
  have la2 : a2 < 4294967296 := by first | decide | omega
  have la3 : a3 < 4294967296 := by first | decide | omega
  have la4 : a4 < 4294967296 := by first | decide | omega
  have la5 : a5 < 4294967296 := by first | decide | omega
  have hF := Fr.refl 65537 h
  refine x_aload (np := 1) (x := 0) (by decide +kernel) rfl (x_nc_le (by decide)) ?_
  have q1 : h 69 5 = 45 := by have z := jB (e := 5) 0 hJ rg_69_5_0_1 (by decide) (by decide); omega
  refine x_getR (np := 4) (x := 773) (f := 5) (q := 45) (by decide +kernel) (by decide) (by decide +kernel) q1 ?_
  have q2 : h 45 0 = 46 := by have z := jB (e := 0) 0 hJ rg_45_0_0_1 (by decide) (by decide); omega
  refine x_getR (np := 7) (x := 64) (f := 0) (q := 46) (by decide +kernel) (by decide) (by decide +kernel) q2 ?_
  refine x_iload (np := 8) (x := 3) (by decide +kernel) rfl la3 ?_
  obtain ⟨u3, q4⟩ : ∃ z, a3 = 2147483648 + z := ⟨a3 - 2147483648, by first | decide | omega⟩
  refine x_aldC (np := 9) (x := 0) (n := 6) (i := u3) (q := (h 46 u3)) (by decide +kernel) (by decide +kernel) (by first | decide | omega) (by first | decide | omega) (by decide) rfl (fun l5 => ?_)
  refine x_aload (np := 10) (x := 0) (by decide +kernel) rfl (x_nc_le (by decide)) ?_
  have q6 : h 69 5 = 45 := by have z := jB (e := 5) 0 hJ rg_69_5_0_1 (by decide) (by decide); omega
  refine x_getR (np := 13) (x := 773) (f := 5) (q := 45) (by decide +kernel) (by decide) (by decide +kernel) q6 ?_
  have q7 : h 45 1 = 47 := by have z := jB (e := 1) 0 hJ rg_45_1_0_1 (by decide) (by decide); omega
  refine x_getR (np := 16) (x := 65) (f := 1) (q := 47) (by decide +kernel) (by decide) (by decide +kernel) q7 ?_
  refine x_iload (np := 17) (x := 2) (by decide +kernel) rfl la2 ?_
  refine x_iload (np := 18) (x := 3) (by decide +kernel) rfl la3 ?_
  refine x_nI (t := 7) (mj := 149) (n := 2) (rc := 0) (ml := 2) (nr := 2) (np := 21) (as := [iv_c a2, iv_c a3]) (rest := [x_r 47, iv_c (h 46 u3)]) (lo1 := [iv_c a2, iv_c a3]) (by decide +kernel) (by decide) (by decide +kernel) (Or.inl rfl) rfl rfl (x_wi la2 (x_wi la3 x_wn)) (x_wr (by decide) (x_wi l5 x_wn)) (by decide) rfl ?_
  refine x_iload (np := 1) (x := 0) (by decide +kernel) rfl la2 ?_
  refine x_const (np := 3) (x := 9223372064772063238) (a := 2147483654) (by decide +kernel) (by decide) (by decide) ?_
  obtain ⟨u8, q9⟩ : ∃ z, a2 = 2147483648 + z := ⟨a2 - 2147483648, by first | decide | omega⟩
  refine x_imul (np := 4) (x := 0) (i := u8) (j := 6) (v := (2147483648 + 6 * u8)) (by decide +kernel) (by first | decide | omega) (by first | decide | omega) (by first | decide | omega) (by first | decide | omega) la2 (by decide) ?_
  refine x_iload (np := 5) (x := 1) (by decide +kernel) rfl la3 ?_
  refine x_iadd (np := 6) (x := 0) (v := (6 * u8 + a3)) (by decide +kernel) (by first | decide | omega) la3 (by first | decide | omega) (by first | decide | omega) ?_
  refine x_retI (np := 7) (x := 0) (by decide +kernel) (by first | decide | omega) (Or.inl (by decide +kernel)) ⟨_, rfl, (by first | decide | omega), ?_⟩
  refine x_aldC (np := 22) (x := 0) (n := 36) (i := (6 * u8 + u3)) (q := ((h 47 (6 * u8 + u3)))) (by decide +kernel) (by decide +kernel) (by first | decide | omega) (by first | decide | omega) (by decide) rfl (fun l11 => ?_)
  refine x_const (np := 23) (x := 9223372034707292159) (a := 2147483647) (by decide +kernel) (by decide) (by decide) ?_
  refine x_any (np := 24) (k9 := 2) (by decide +kernel) (by decide) l11 (by decide) (fun v12 l13 => ?_)
  refine x_any (np := 25) (k9 := 0) (by decide +kernel) (by decide) l5 l13 (fun v14 l15 => ?_)
  refine x_aload (np := 26) (x := 0) (by decide +kernel) rfl (x_nc_le (by decide)) ?_
  have q16 : h 69 2 = 72 := by have z := jB (e := 2) 0 hJ rg_69_2_0_1 (by decide) (by decide); omega
  refine x_getR (np := 29) (x := 770) (f := 2) (q := 72) (by decide +kernel) (by decide) (by decide +kernel) q16 ?_
  refine x_iload (np := 30) (x := 2) (by decide +kernel) rfl la2 ?_
  refine x_aldC (np := 31) (x := 0) (n := 6) (i := u8) (q := (h 72 u8)) (by decide +kernel) (by decide +kernel) (by first | decide | omega) (by first | decide | omega) (by decide) rfl (fun l17 => ?_)
  refine x_const (np := 32) (x := 9223372034707292159) (a := 2147483647) (by decide +kernel) (by decide) (by decide) ?_
  refine x_any (np := 33) (k9 := 2) (by decide +kernel) (by decide) l17 (by decide) (fun v18 l19 => ?_)
  refine x_any (np := 34) (k9 := 0) (by decide +kernel) (by decide) l15 l19 (fun v20 l21 => ?_)
  refine x_istore (np := 36) (x := 6) (lo' := [x_r 69, iv_c 2147483649, iv_c a2, iv_c a3, iv_c a4, iv_c a5, iv_c v20, 147573952589676412928, 147573952589676412928, 147573952589676412928]) (by decide +kernel) l21 (Nat.le_of_ble_eq_true rfl) rfl ?_
  refine x_aload (np := 37) (x := 0) (by decide +kernel) rfl (x_nc_le (by decide)) ?_
  have q22 : h 69 1 = 71 := by have z := jB (e := 1) 0 hJ rg_69_1_0_1 (by decide) (by decide); omega
  refine x_getR (np := 40) (x := 769) (f := 1) (q := 71) (by decide +kernel) (by decide) (by decide +kernel) q22 ?_
  refine x_iload (np := 41) (x := 2) (by decide +kernel) rfl la2 ?_
  refine x_aldC (np := 42) (x := 0) (n := 6) (i := u8) (q := (h 71 u8)) (by decide +kernel) (by decide +kernel) (by first | decide | omega) (by first | decide | omega) (by decide) rfl (fun l23 => ?_)
  refine x_iload (np := 44) (x := 6) (by decide +kernel) rfl l21 ?_
  refine x_any (np := 45) (k9 := 0) (by decide +kernel) (by decide) l23 l21 (fun v24 l25 => ?_)
  refine x_istore (np := 47) (x := 7) (lo' := [x_r 69, iv_c 2147483649, iv_c a2, iv_c a3, iv_c a4, iv_c a5, iv_c v20, iv_c v24, 147573952589676412928, 147573952589676412928]) (by decide +kernel) l25 (Nat.le_of_ble_eq_true rfl) rfl ?_
  refine x_const (np := 48) (x := 9223372039002259456) (a := 2147483648) (by decide +kernel) (by decide) (by decide) ?_
  refine x_istore (np := 50) (x := 8) (lo' := [x_r 69, iv_c 2147483649, iv_c a2, iv_c a3, iv_c a4, iv_c a5, iv_c v20, iv_c v24, iv_c 2147483648, 147573952589676412928]) (by decide +kernel) (by decide) (Nat.le_of_ble_eq_true rfl) rfl ?_
  have p5130 : ∀ (n : Nat) (v5124 : Nat) (w5126 : Nat) (h5127 : xh), 4294967296 - v5124 < n → (2147483648 ≤ v5124 ∧ v5124 ≤ 2147483660) → J h5127 → Fr 65537 h h5127 → X sc 276 (d + 17) (xV fun h' => J h' ∧ Fr 65537 h h') 0 0 50 [x_r 69, iv_c 2147483649, iv_c a2, iv_c a3, iv_c a4, iv_c a5, iv_c v20, iv_c v24, iv_c v5124, w5126] [] h5127 := by
    intro n
    induction n with
    | zero => intro v5124 w5126 h5127 q5131; exact absurd q5131 (Nat.not_lt_zero _)
    | succ n i5132 =>
      intro v5124 w5126 h5127 q5131 b5125 j5129 f5128
      have f5133 := Fr.trans hF f5128 (by decide)
      refine x_iload (np := 52) (x := 8) (by decide +kernel) rfl (by first | decide | omega) ?_
      refine x_iload (np := 54) (x := 5) (by decide +kernel) rfl la5 ?_
      refine x_icmp (k := 4) (tg := 145) (np := 57) (by decide +kernel) (by decide) (by first | decide | omega) la5 (fun q5134 => ?_) (fun q5135 => ?_)
      · have q5134 : a5 < v5124 := q5134
        refine x_retV (np := 146) (x := 0) (by decide +kernel) (by decide +kernel) ⟨rfl, ?_⟩
        exact ⟨j5129, f5133⟩
      have q5135 : ¬ (a5 < v5124) := q5135
      refine x_iload (np := 59) (x := 8) (by decide +kernel) rfl (by first | decide | omega) ?_
      refine x_const (np := 61) (x := 9223372090541867020) (a := 2147483660) (by decide +kernel) (by decide) (by decide) ?_
      refine x_icmp (k := 3) (tg := 145) (np := 64) (by decide +kernel) (by decide) (by first | decide | omega) (by decide) (fun q5136 => ?_) (fun q5137 => ?_)
      · have q5136 : 2147483660 ≤ v5124 := q5136
        refine x_retV (np := 146) (x := 0) (by decide +kernel) (by decide +kernel) ⟨rfl, ?_⟩
        exact ⟨j5129, f5133⟩
      have q5137 : ¬ (2147483660 ≤ v5124) := q5137
      refine x_iload (np := 66) (x := 7) (by decide +kernel) rfl l25 ?_
      refine x_iload (np := 68) (x := 8) (by decide +kernel) rfl (by first | decide | omega) ?_
      refine x_cP (t := 7) (mj := 148) (n := 2) (rc := 0) (ml := 2) (nr := 0) (np := 71) (as := [iv_c v24, iv_c v5124]) (rest := []) (lo1 := [iv_c v24, iv_c v5124]) (by decide +kernel) (by decide) (by decide +kernel) (Or.inl rfl) rfl rfl (x_wi l25 (x_wi (by first | decide | omega) x_wn)) x_wn (by decide) rfl (c148 j5129 (by first | decide | omega) (by first | decide | omega)) (fun v5138 l5139 q5140 => ?_)
      refine x_ifz (k := 1) (tg := 77) (np := 74) (by decide +kernel) (by decide) l5139 (fun q5141 => ?_) (fun q5142 => ?_)
      · have q5141 : v5138 ≠ 2147483648 := q5141
        refine x_iload (np := 79) (x := 8) (by decide +kernel) rfl (by first | decide | omega) ?_
        refine x_istore (np := 81) (x := 9) (lo' := [x_r 69, iv_c 2147483649, iv_c a2, iv_c a3, iv_c a4, iv_c a5, iv_c v20, iv_c v24, iv_c v5124, iv_c v5124]) (by decide +kernel) (by first | decide | omega) (Nat.le_of_ble_eq_true rfl) rfl ?_
        have p5271 : ∀ (n : Nat) (v5266 : Nat) (h5268 : xh), 4294967296 - v5266 < n → (2147483648 ≤ v5266 ∧ v5266 ≤ 2147483660) → J h5268 → Fr 65537 h5127 h5268 → X sc 276 (d + 17) (xV fun h' => J h' ∧ Fr 65537 h h') 0 0 81 [x_r 69, iv_c 2147483649, iv_c a2, iv_c a3, iv_c a4, iv_c a5, iv_c v20, iv_c v24, iv_c v5124, iv_c v5266] [] h5268 := by
          intro n
          induction n with
          | zero => intro v5266 h5268 q5272; exact absurd q5272 (Nat.not_lt_zero _)
          | succ n i5273 =>
            intro v5266 h5268 q5272 b5267 j5270 f5269
            have f5274 := Fr.trans f5133 f5269 (by decide)
            have f5275 := Fr.trans f5128 f5269 (by decide)
            refine x_iload (np := 83) (x := 9) (by decide +kernel) rfl (by first | decide | omega) ?_
            refine x_const (np := 85) (x := 9223372090541867020) (a := 2147483660) (by decide +kernel) (by decide) (by decide) ?_
            refine x_icmp (k := 3) (tg := 139) (np := 88) (by decide +kernel) (by decide) (by first | decide | omega) (by decide) (fun q5276 => ?_) (fun q5277 => ?_)
            · have q5276 : 2147483660 ≤ v5266 := q5276
              refine x_iinc (np := 142) (i := 8) (j := 2147483649) (v := (1 + v5124)) (lo' := [x_r 69, iv_c 2147483649, iv_c a2, iv_c a3, iv_c a4, iv_c a5, iv_c v20, iv_c v24, iv_c (1 + v5124), iv_c v5266]) (by decide +kernel) (by decide) (by decide) rfl (by first | decide | omega) (by first | decide | omega) (by first | decide | omega) rfl ?_
              refine x_goto (np := 145) (x := 50) (by decide +kernel) ?_
              exact i5132 (1 + v5124) (iv_c v5266) h5268 (by first | decide | omega) (by first | decide | omega) j5270 f5275
            have q5277 : ¬ (2147483660 ≤ v5266) := q5277
            refine x_iload (np := 90) (x := 6) (by decide +kernel) rfl l21 ?_
            refine x_iload (np := 92) (x := 9) (by decide +kernel) rfl (by first | decide | omega) ?_
            refine x_cP (t := 7) (mj := 148) (n := 2) (rc := 0) (ml := 2) (nr := 0) (np := 95) (as := [iv_c v20, iv_c v5266]) (rest := []) (lo1 := [iv_c v20, iv_c v5266]) (by decide +kernel) (by decide) (by decide +kernel) (Or.inl rfl) rfl rfl (x_wi l21 (x_wi (by first | decide | omega) x_wn)) x_wn (by decide) rfl (c148 j5270 (by first | decide | omega) (by first | decide | omega)) (fun v5278 l5279 q5280 => ?_)
            refine x_ifz (k := 0) (tg := 139) (np := 98) (by decide +kernel) (by decide) l5279 (fun q5281 => ?_) (fun q5282 => ?_)
            · have q5281 : v5278 = 2147483648 := q5281
              refine x_iinc (np := 142) (i := 8) (j := 2147483649) (v := (1 + v5124)) (lo' := [x_r 69, iv_c 2147483649, iv_c a2, iv_c a3, iv_c a4, iv_c a5, iv_c v20, iv_c v24, iv_c (1 + v5124), iv_c v5266]) (by decide +kernel) (by decide) (by decide) rfl (by first | decide | omega) (by first | decide | omega) (by first | decide | omega) rfl ?_
              refine x_goto (np := 145) (x := 50) (by decide +kernel) ?_
              exact i5132 (1 + v5124) (iv_c v5266) h5268 (by first | decide | omega) (by first | decide | omega) j5270 f5275
            have q5282 : ¬ (v5278 = 2147483648) := q5282
            refine x_aload (np := 99) (x := 0) (by decide +kernel) rfl (x_nc_le (by decide)) ?_
            refine x_nI (t := 8) (mj := 278) (n := 1) (rc := 13) (ml := 1) (nr := 0) (np := 102) (as := [x_r 69]) (rest := []) (lo1 := [x_r 69]) (by decide +kernel) (by decide) (by decide +kernel) (x_rb_of (by decide +kernel)) rfl rfl (x_wr (by decide) x_wn) x_wn (by decide) rfl ?_
            refine x_aload (np := 1) (x := 0) (by decide +kernel) rfl (x_nc_le (by decide)) ?_
            have b5283 := jB (e := 9) 0 j5270 rg_69_9_0_1 (by first | decide | omega) (by first | decide | omega)
            refine x_getC (np := 4) (x := 777) (f := 9) (q := (h5268 69 9)) (by decide +kernel) (by decide) (by decide +kernel) rfl (fun l5284 => ?_)
            refine x_ifz (k := 1) (tg := 21) (np := 7) (by decide +kernel) (by decide) l5284 (fun q5285 => ?_) (fun q5286 => ?_)
            · have q5285 : (h5268 69 9) ≠ 2147483648 := q5285
              refine x_const (np := 22) (x := 9223372043297226753) (a := 2147483649) (by decide +kernel) (by decide) (by decide) ?_
              refine x_goto (np := 25) (x := 26) (by decide +kernel) ?_
              refine x_retI (np := 27) (x := 0) (by decide +kernel) (by decide) (Or.inr ⟨by decide +kernel, by first | decide | omega, by first | decide | omega⟩) ⟨_, rfl, (by decide), ?_⟩
              refine x_ifz (k := 1) (tg := 139) (np := 105) (by decide +kernel) (by decide) (by decide) (fun q5287 => ?_) (fun q5288 => ?_)
              · have q5287 : 2147483649 ≠ 2147483648 := q5287
                refine x_iinc (np := 142) (i := 8) (j := 2147483649) (v := (1 + v5124)) (lo' := [x_r 69, iv_c 2147483649, iv_c a2, iv_c a3, iv_c a4, iv_c a5, iv_c v20, iv_c v24, iv_c (1 + v5124), iv_c v5266]) (by decide +kernel) (by decide) (by decide) rfl (by first | decide | omega) (by first | decide | omega) (by first | decide | omega) rfl ?_
                refine x_goto (np := 145) (x := 50) (by decide +kernel) ?_
                exact i5132 (1 + v5124) (iv_c v5266) h5268 (by first | decide | omega) (by first | decide | omega) j5270 f5275
              have q5288 : ¬ (2147483649 ≠ 2147483648) := q5288
              exfalso; omega
            have q5286 : ¬ ((h5268 69 9) ≠ 2147483648) := q5286
            refine x_aload (np := 8) (x := 0) (by decide +kernel) rfl (x_nc_le (by decide)) ?_
            refine x_getC (np := 11) (x := 776) (f := 8) (q := (h5268 69 8)) (by decide +kernel) (by decide) (by decide +kernel) rfl (fun l5289 => ?_)
            refine x_ifz (k := 5) (tg := 25) (np := 14) (by decide +kernel) (by decide) l5289 (fun q5290 => ?_) (fun q5291 => ?_)
            · have q5290 : (h5268 69 8) ≤ 2147483648 := q5290
              refine x_const (np := 26) (x := 9223372039002259456) (a := 2147483648) (by decide +kernel) (by decide) (by decide) ?_
              refine x_retI (np := 27) (x := 0) (by decide +kernel) (by decide) (Or.inr ⟨by decide +kernel, by first | decide | omega, by first | decide | omega⟩) ⟨_, rfl, (by decide), ?_⟩
              refine x_ifz (k := 1) (tg := 139) (np := 105) (by decide +kernel) (by decide) (by decide) (fun q5292 => ?_) (fun q5293 => ?_)
              · have q5292 : 2147483648 ≠ 2147483648 := q5292
                exfalso; omega
              have q5293 : ¬ (2147483648 ≠ 2147483648) := q5293
              refine x_iload (np := 107) (x := 9) (by decide +kernel) rfl (by first | decide | omega) ?_
              refine x_iload (np := 109) (x := 4) (by decide +kernel) rfl la4 ?_
              refine x_icmp (k := 2) (tg := 133) (np := 112) (by decide +kernel) (by decide) (by first | decide | omega) la4 (fun q5294 => ?_) (fun q5295 => ?_)
              · have q5294 : v5266 < a4 := q5294
                refine x_iinc (np := 136) (i := 9) (j := 2147483649) (v := (1 + v5266)) (lo' := [x_r 69, iv_c 2147483649, iv_c a2, iv_c a3, iv_c a4, iv_c a5, iv_c v20, iv_c v24, iv_c v5124, iv_c (1 + v5266)]) (by decide +kernel) (by decide) (by decide) rfl (by first | decide | omega) (by first | decide | omega) (by first | decide | omega) rfl ?_
                refine x_goto (np := 139) (x := 81) (by decide +kernel) ?_
                exact i5273 (1 + v5266) h5268 (by first | decide | omega) (by first | decide | omega) j5270 f5269
              have q5295 : ¬ (v5266 < a4) := q5295
              refine x_iload (np := 114) (x := 7) (by decide +kernel) rfl l25 ?_
              refine x_iload (np := 116) (x := 9) (by decide +kernel) rfl (by first | decide | omega) ?_
              refine x_cP (t := 7) (mj := 148) (n := 2) (rc := 0) (ml := 2) (nr := 0) (np := 119) (as := [iv_c v24, iv_c v5266]) (rest := []) (lo1 := [iv_c v24, iv_c v5266]) (by decide +kernel) (by decide) (by decide +kernel) (Or.inl rfl) rfl rfl (x_wi l25 (x_wi (by first | decide | omega) x_wn)) x_wn (by decide) rfl (c148 j5270 (by first | decide | omega) (by first | decide | omega)) (fun v5296 l5297 q5298 => ?_)
              refine x_ifz (k := 0) (tg := 133) (np := 122) (by decide +kernel) (by decide) l5297 (fun q5299 => ?_) (fun q5300 => ?_)
              · have q5299 : v5296 = 2147483648 := q5299
                refine x_iinc (np := 136) (i := 9) (j := 2147483649) (v := (1 + v5266)) (lo' := [x_r 69, iv_c 2147483649, iv_c a2, iv_c a3, iv_c a4, iv_c a5, iv_c v20, iv_c v24, iv_c v5124, iv_c (1 + v5266)]) (by decide +kernel) (by decide) (by decide) rfl (by first | decide | omega) (by first | decide | omega) (by first | decide | omega) rfl ?_
                refine x_goto (np := 139) (x := 81) (by decide +kernel) ?_
                exact i5273 (1 + v5266) h5268 (by first | decide | omega) (by first | decide | omega) j5270 f5269
              have q5300 : ¬ (v5296 = 2147483648) := q5300
              refine x_aload (np := 123) (x := 0) (by decide +kernel) rfl (x_nc_le (by decide)) ?_
              refine x_iload (np := 124) (x := 1) (by decide +kernel) rfl (by decide) ?_
              refine x_iload (np := 125) (x := 2) (by decide +kernel) rfl la2 ?_
              refine x_iload (np := 126) (x := 3) (by decide +kernel) rfl la3 ?_
              refine x_iload (np := 128) (x := 8) (by decide +kernel) rfl (by first | decide | omega) ?_
              refine x_iload (np := 130) (x := 9) (by decide +kernel) rfl (by first | decide | omega) ?_
              refine x_cV (t := 8) (mj := 277) (n := 6) (rc := 13) (ml := 7) (nr := 0) (np := 133) (as := [x_r 69, iv_c 2147483649, iv_c a2, iv_c a3, iv_c v5124, iv_c v5266]) (rest := []) (lo1 := [x_r 69, iv_c 2147483649, iv_c a2, iv_c a3, iv_c v5124, iv_c v5266, 147573952589676412928]) (by decide +kernel) (by decide) (by decide +kernel) (x_rb_of (by decide +kernel)) rfl rfl (x_wr (by decide) (x_wi (by decide) (x_wi la2 (x_wi la3 (x_wi (by first | decide | omega) (x_wi (by first | decide | omega) x_wn)))))) x_wn (by decide) rfl (c277_69_c1 j5270   (by first | decide | omega) (by first | decide | omega) (by first | decide | omega) (by first | decide | omega)) (fun h5304 q5303 => ?_)
              obtain ⟨j5305, f5306⟩ := q5303
              have f5309 := Fr.trans f5274 f5306 (by decide)
              have f5310 := Fr.trans f5275 f5306 (by decide)
              have f5311 := Fr.trans f5269 f5306 (by decide)
              refine x_iinc (np := 136) (i := 9) (j := 2147483649) (v := (1 + v5266)) (lo' := [x_r 69, iv_c 2147483649, iv_c a2, iv_c a3, iv_c a4, iv_c a5, iv_c v20, iv_c v24, iv_c v5124, iv_c (1 + v5266)]) (by decide +kernel) (by decide) (by decide) rfl (by first | decide | omega) (by first | decide | omega) (by first | decide | omega) rfl ?_
              refine x_goto (np := 139) (x := 81) (by decide +kernel) ?_
              exact i5273 (1 + v5266) h5304 (by first | decide | omega) (by first | decide | omega) j5305 f5311
            have q5291 : ¬ ((h5268 69 8) ≤ 2147483648) := q5291
            refine x_aload (np := 15) (x := 0) (by decide +kernel) rfl (x_nc_le (by decide)) ?_
            refine x_vI (P := fun r9 h9 => X sc 278 _ _ 0 0 18 [x_r 69] (iv_c r9 :: []) h9) (np := 18) (x := 5246977) (kk := 1) (cls := 5) (mj := 61) (ml := 1) (nr := 0) (rest := []) (lo1 := [x_r 69]) (by decide +kernel) (by decide) (by decide) (by decide) (by decide +kernel) (by decide +kernel) (by decide) (by decide +kernel) (by decide +kernel) x_wn (by decide) rfl ?_ (fun _ _ _ z => z)
            refine x_const (np := 1) (x := 9223372039002259456) (a := 2147483648) (by decide +kernel) (by decide) (by decide) ?_
            refine x_retI (np := 2) (x := 0) (by decide +kernel) (by decide) (Or.inr ⟨by decide +kernel, by first | decide | omega, by first | decide | omega⟩) ⟨_, rfl, (by decide), ?_⟩
            refine x_ifz (k := 0) (tg := 25) (np := 21) (by decide +kernel) (by decide) (by decide) (fun q5312 => ?_) (fun q5313 => ?_)
            · have q5312 : 2147483648 = 2147483648 := q5312
              refine x_const (np := 26) (x := 9223372039002259456) (a := 2147483648) (by decide +kernel) (by decide) (by decide) ?_
              refine x_retI (np := 27) (x := 0) (by decide +kernel) (by decide) (Or.inr ⟨by decide +kernel, by first | decide | omega, by first | decide | omega⟩) ⟨_, rfl, (by decide), ?_⟩
              refine x_ifz (k := 1) (tg := 139) (np := 105) (by decide +kernel) (by decide) (by decide) (fun q5314 => ?_) (fun q5315 => ?_)
              · have q5314 : 2147483648 ≠ 2147483648 := q5314
                exfalso; omega
              have q5315 : ¬ (2147483648 ≠ 2147483648) := q5315
              refine x_iload (np := 107) (x := 9) (by decide +kernel) rfl (by first | decide | omega) ?_
              refine x_iload (np := 109) (x := 4) (by decide +kernel) rfl la4 ?_
              refine x_icmp (k := 2) (tg := 133) (np := 112) (by decide +kernel) (by decide) (by first | decide | omega) la4 (fun q5316 => ?_) (fun q5317 => ?_)
              · have q5316 : v5266 < a4 := q5316
                refine x_iinc (np := 136) (i := 9) (j := 2147483649) (v := (1 + v5266)) (lo' := [x_r 69, iv_c 2147483649, iv_c a2, iv_c a3, iv_c a4, iv_c a5, iv_c v20, iv_c v24, iv_c v5124, iv_c (1 + v5266)]) (by decide +kernel) (by decide) (by decide) rfl (by first | decide | omega) (by first | decide | omega) (by first | decide | omega) rfl ?_
                refine x_goto (np := 139) (x := 81) (by decide +kernel) ?_
                exact i5273 (1 + v5266) h5268 (by first | decide | omega) (by first | decide | omega) j5270 f5269
              have q5317 : ¬ (v5266 < a4) := q5317
              refine x_iload (np := 114) (x := 7) (by decide +kernel) rfl l25 ?_
              refine x_iload (np := 116) (x := 9) (by decide +kernel) rfl (by first | decide | omega) ?_
              refine x_cP (t := 7) (mj := 148) (n := 2) (rc := 0) (ml := 2) (nr := 0) (np := 119) (as := [iv_c v24, iv_c v5266]) (rest := []) (lo1 := [iv_c v24, iv_c v5266]) (by decide +kernel) (by decide) (by decide +kernel) (Or.inl rfl) rfl rfl (x_wi l25 (x_wi (by first | decide | omega) x_wn)) x_wn (by decide) rfl (c148 j5270 (by first | decide | omega) (by first | decide | omega)) (fun v5318 l5319 q5320 => ?_)
              refine x_ifz (k := 0) (tg := 133) (np := 122) (by decide +kernel) (by decide) l5319 (fun q5321 => ?_) (fun q5322 => ?_)
              · have q5321 : v5318 = 2147483648 := q5321
                refine x_iinc (np := 136) (i := 9) (j := 2147483649) (v := (1 + v5266)) (lo' := [x_r 69, iv_c 2147483649, iv_c a2, iv_c a3, iv_c a4, iv_c a5, iv_c v20, iv_c v24, iv_c v5124, iv_c (1 + v5266)]) (by decide +kernel) (by decide) (by decide) rfl (by first | decide | omega) (by first | decide | omega) (by first | decide | omega) rfl ?_
                refine x_goto (np := 139) (x := 81) (by decide +kernel) ?_
                exact i5273 (1 + v5266) h5268 (by first | decide | omega) (by first | decide | omega) j5270 f5269
              have q5322 : ¬ (v5318 = 2147483648) := q5322
              refine x_aload (np := 123) (x := 0) (by decide +kernel) rfl (x_nc_le (by decide)) ?_
              refine x_iload (np := 124) (x := 1) (by decide +kernel) rfl (by decide) ?_
              refine x_iload (np := 125) (x := 2) (by decide +kernel) rfl la2 ?_
              refine x_iload (np := 126) (x := 3) (by decide +kernel) rfl la3 ?_
              refine x_iload (np := 128) (x := 8) (by decide +kernel) rfl (by first | decide | omega) ?_
              refine x_iload (np := 130) (x := 9) (by decide +kernel) rfl (by first | decide | omega) ?_
              refine x_cV (t := 8) (mj := 277) (n := 6) (rc := 13) (ml := 7) (nr := 0) (np := 133) (as := [x_r 69, iv_c 2147483649, iv_c a2, iv_c a3, iv_c v5124, iv_c v5266]) (rest := []) (lo1 := [x_r 69, iv_c 2147483649, iv_c a2, iv_c a3, iv_c v5124, iv_c v5266, 147573952589676412928]) (by decide +kernel) (by decide) (by decide +kernel) (x_rb_of (by decide +kernel)) rfl rfl (x_wr (by decide) (x_wi (by decide) (x_wi la2 (x_wi la3 (x_wi (by first | decide | omega) (x_wi (by first | decide | omega) x_wn)))))) x_wn (by decide) rfl (c277_69_c1 j5270   (by first | decide | omega) (by first | decide | omega) (by first | decide | omega) (by first | decide | omega)) (fun h5326 q5325 => ?_)
              obtain ⟨j5327, f5328⟩ := q5325
              have f5331 := Fr.trans f5274 f5328 (by decide)
              have f5332 := Fr.trans f5275 f5328 (by decide)
              have f5333 := Fr.trans f5269 f5328 (by decide)
              refine x_iinc (np := 136) (i := 9) (j := 2147483649) (v := (1 + v5266)) (lo' := [x_r 69, iv_c 2147483649, iv_c a2, iv_c a3, iv_c a4, iv_c a5, iv_c v20, iv_c v24, iv_c v5124, iv_c (1 + v5266)]) (by decide +kernel) (by decide) (by decide) rfl (by first | decide | omega) (by first | decide | omega) (by first | decide | omega) rfl ?_
              refine x_goto (np := 139) (x := 81) (by decide +kernel) ?_
              exact i5273 (1 + v5266) h5326 (by first | decide | omega) (by first | decide | omega) j5327 f5333
            have q5313 : ¬ (2147483648 = 2147483648) := q5313
            exfalso; omega
        exact p5271 _ v5124 h5127 (Nat.lt_succ_self _) (by first | decide | omega) j5129 (Fr.refl _ _)
      have q5142 : ¬ (v5138 ≠ 2147483648) := q5142
      refine x_goto (np := 77) (x := 139) (by decide +kernel) ?_
      refine x_iinc (np := 142) (i := 8) (j := 2147483649) (v := (1 + v5124)) (lo' := [x_r 69, iv_c 2147483649, iv_c a2, iv_c a3, iv_c a4, iv_c a5, iv_c v20, iv_c v24, iv_c (1 + v5124), w5126]) (by decide +kernel) (by decide) (by decide) rfl (by first | decide | omega) (by first | decide | omega) (by first | decide | omega) rfl ?_
      refine x_goto (np := 145) (x := 50) (by decide +kernel) ?_
      exact i5132 (1 + v5124) w5126 h5127 (by first | decide | omega) (by first | decide | omega) j5129 f5128
  exact p5130 _ 2147483648 147573952589676412928 h (Nat.lt_succ_self _) (by first | decide | omega) hJ (Fr.refl _ _)
set_option maxHeartbeats 0 in
/-- LentNames$Search.mend(I)V -/
theorem c275_69_c1 {sc : Nat × Nat} {d  : Nat} {h : xh} (hJ : J h) : X sc 275 (d + 18) (xV fun h' => J h' ∧ Fr 65537 h h') 0 0 0 [x_r 69, iv_c 2147483649, 147573952589676412928, 147573952589676412928, 147573952589676412928, 147573952589676412928, 147573952589676412928, 147573952589676412928] [] h := by
  have hF := Fr.refl 65537 h
  refine x_aload (np := 1) (x := 0) (by decide +kernel) rfl (x_nc_le (by decide)) ?_
  refine x_getC (np := 4) (x := 778) (f := 10) (q := (h 69 10)) (by decide +kernel) (by decide) (by decide +kernel) rfl (fun l1 => ?_)
  refine x_istore (np := 5) (x := 2) (lo' := [x_r 69, iv_c 2147483649, iv_c (h 69 10), 147573952589676412928, 147573952589676412928, 147573952589676412928, 147573952589676412928, 147573952589676412928]) (by decide +kernel) l1 (Nat.le_of_ble_eq_true rfl) rfl ?_
  refine x_aload (np := 6) (x := 0) (by decide +kernel) rfl (x_nc_le (by decide)) ?_
  refine x_getC (np := 9) (x := 779) (f := 11) (q := (h 69 11)) (by decide +kernel) (by decide) (by decide +kernel) rfl (fun l2 => ?_)
  refine x_istore (np := 10) (x := 3) (lo' := [x_r 69, iv_c 2147483649, iv_c (h 69 10), iv_c (h 69 11), 147573952589676412928, 147573952589676412928, 147573952589676412928, 147573952589676412928]) (by decide +kernel) l2 (Nat.le_of_ble_eq_true rfl) rfl ?_
  refine x_aload (np := 11) (x := 0) (by decide +kernel) rfl (x_nc_le (by decide)) ?_
  refine x_getC (np := 14) (x := 780) (f := 12) (q := (h 69 12)) (by decide +kernel) (by decide) (by decide +kernel) rfl (fun l3 => ?_)
  refine x_istore (np := 16) (x := 4) (lo' := [x_r 69, iv_c 2147483649, iv_c (h 69 10), iv_c (h 69 11), iv_c (h 69 12), 147573952589676412928, 147573952589676412928, 147573952589676412928]) (by decide +kernel) l3 (Nat.le_of_ble_eq_true rfl) rfl ?_
  refine x_aload (np := 17) (x := 0) (by decide +kernel) rfl (x_nc_le (by decide)) ?_
  refine x_getC (np := 20) (x := 781) (f := 13) (q := (h 69 13)) (by decide +kernel) (by decide) (by decide +kernel) rfl (fun l4 => ?_)
  refine x_istore (np := 22) (x := 5) (lo' := [x_r 69, iv_c 2147483649, iv_c (h 69 10), iv_c (h 69 11), iv_c (h 69 12), iv_c (h 69 13), 147573952589676412928, 147573952589676412928]) (by decide +kernel) l4 (Nat.le_of_ble_eq_true rfl) rfl ?_
  refine x_const (np := 23) (x := 9223372039002259456) (a := 2147483648) (by decide +kernel) (by decide) (by decide) ?_
  refine x_istore (np := 25) (x := 6) (lo' := [x_r 69, iv_c 2147483649, iv_c (h 69 10), iv_c (h 69 11), iv_c (h 69 12), iv_c (h 69 13), iv_c 2147483648, 147573952589676412928]) (by decide +kernel) (by decide) (Nat.le_of_ble_eq_true rfl) rfl ?_
  have p1452 : ∀ (n : Nat) (v1446 : Nat) (w1448 : Nat) (h1449 : xh), 4294967296 - v1446 < n → (2147483648 ≤ v1446 ∧ v1446 ≤ 2147483654) → J h1449 → Fr 65537 h h1449 → X sc 275 (d + 18) (xV fun h' => J h' ∧ Fr 65537 h h') 0 0 25 [x_r 69, iv_c 2147483649, iv_c (h 69 10), iv_c (h 69 11), iv_c (h 69 12), iv_c (h 69 13), iv_c v1446, w1448] [] h1449 := by
    intro n
    induction n with
    | zero => intro v1446 w1448 h1449 q1453; exact absurd q1453 (Nat.not_lt_zero _)
    | succ n i1454 =>
      intro v1446 w1448 h1449 q1453 b1447 j1451 f1450
      have f1455 := Fr.trans hF f1450 (by decide)
      refine x_iload (np := 27) (x := 6) (by decide +kernel) rfl (by first | decide | omega) ?_
      refine x_aload (np := 28) (x := 0) (by decide +kernel) rfl (x_nc_le (by decide)) ?_
      have t1456 : tw (h1449 69 6) := j1451.2.2.2.2.2.2.1
      refine x_getR (np := 31) (x := 774) (f := 6) (q := (h1449 69 6)) (by decide +kernel) (by decide) (by decide +kernel) rfl ?_
      have q1457 : h1449 (h1449 69 6) 7 = h (h1449 69 6) 7 := jK 0 f1450 (rg_T0_7_0_1 t1456) (by first | decide | omega) (by first | decide | omega) (by decide)
      have b1458 := jB (e := 7) 0 hJ (rg_T0_7_0_1 t1456) (by first | decide | omega) (by first | decide | omega)
      refine x_getC (np := 34) (x := 519) (f := 7) (q := (h (h1449 69 6) 7)) (by decide +kernel) (by decide) (tg_0_519_7_0 t1456) q1457 (fun l1459 => ?_)
      refine x_icmp (k := 3) (tg := 95) (np := 37) (by decide +kernel) (by decide) (by first | decide | omega) l1459 (fun q1460 => ?_) (fun q1461 => ?_)
      · have q1460 : (h (h1449 69 6) 7) ≤ v1446 := q1460
        refine x_retV (np := 96) (x := 0) (by decide +kernel) (by decide +kernel) ⟨rfl, ?_⟩
        exact ⟨j1451, f1455⟩
      have q1461 : ¬ ((h (h1449 69 6) 7) ≤ v1446) := q1461
      refine x_const (np := 38) (x := 9223372039002259456) (a := 2147483648) (by decide +kernel) (by decide) (by decide) ?_
      refine x_istore (np := 40) (x := 7) (lo' := [x_r 69, iv_c 2147483649, iv_c (h 69 10), iv_c (h 69 11), iv_c (h 69 12), iv_c (h 69 13), iv_c v1446, iv_c 2147483648]) (by decide +kernel) (by decide) (Nat.le_of_ble_eq_true rfl) rfl ?_
      have p1659 : ∀ (n : Nat) (v1654 : Nat) (h1656 : xh), 4294967296 - v1654 < n → (2147483648 ≤ v1654 ∧ v1654 ≤ 2147483654) → J h1656 → Fr 65537 h1449 h1656 → X sc 275 (d + 18) (xV fun h' => J h' ∧ Fr 65537 h h') 0 0 40 [x_r 69, iv_c 2147483649, iv_c (h 69 10), iv_c (h 69 11), iv_c (h 69 12), iv_c (h 69 13), iv_c v1446, iv_c v1654] [] h1656 := by
        intro n
        induction n with
        | zero => intro v1654 h1656 q1660; exact absurd q1660 (Nat.not_lt_zero _)
        | succ n i1661 =>
          intro v1654 h1656 q1660 b1655 j1658 f1657
          have f1662 := Fr.trans f1455 f1657 (by decide)
          have f1663 := Fr.trans f1450 f1657 (by decide)
          refine x_iload (np := 42) (x := 7) (by decide +kernel) rfl (by first | decide | omega) ?_
          refine x_aload (np := 43) (x := 0) (by decide +kernel) rfl (x_nc_le (by decide)) ?_
          have t1664 : tw (h1656 69 6) := j1658.2.2.2.2.2.2.1
          refine x_getR (np := 46) (x := 774) (f := 6) (q := (h1656 69 6)) (by decide +kernel) (by decide) (by decide +kernel) rfl ?_
          have q1665 : h1656 (h1656 69 6) 7 = h1449 (h1656 69 6) 7 := jK 0 f1657 (rg_T0_7_0_1 t1664) (by first | decide | omega) (by first | decide | omega) (by decide)
          have q1666 : h1449 (h1656 69 6) 7 = h (h1656 69 6) 7 := jK 0 f1450 (rg_T0_7_0_1 t1664) (by first | decide | omega) (by first | decide | omega) (by decide)
          have b1667 := jB (e := 7) 0 hJ (rg_T0_7_0_1 t1664) (by first | decide | omega) (by first | decide | omega)
          refine x_getC (np := 49) (x := 519) (f := 7) (q := (h (h1656 69 6) 7)) (by decide +kernel) (by decide) (tg_0_519_7_0 t1664) (q1665.trans q1666) (fun l1668 => ?_)
          refine x_icmp (k := 3) (tg := 89) (np := 52) (by decide +kernel) (by decide) (by first | decide | omega) l1668 (fun q1669 => ?_) (fun q1670 => ?_)
          · have q1669 : (h (h1656 69 6) 7) ≤ v1654 := q1669
            refine x_iinc (np := 92) (i := 6) (j := 2147483649) (v := (1 + v1446)) (lo' := [x_r 69, iv_c 2147483649, iv_c (h 69 10), iv_c (h 69 11), iv_c (h 69 12), iv_c (h 69 13), iv_c (1 + v1446), iv_c v1654]) (by decide +kernel) (by decide) (by decide) rfl (by first | decide | omega) (by first | decide | omega) (by first | decide | omega) rfl ?_
            refine x_goto (np := 95) (x := 25) (by decide +kernel) ?_
            exact i1454 (1 + v1446) (iv_c v1654) h1656 (by first | decide | omega) (by first | decide | omega) j1658 f1663
          have q1670 : ¬ ((h (h1656 69 6) 7) ≤ v1654) := q1670
          refine x_iload (np := 53) (x := 2) (by decide +kernel) rfl l1 ?_
          refine x_iload (np := 55) (x := 6) (by decide +kernel) rfl (by first | decide | omega) ?_
          refine x_cP (t := 7) (mj := 148) (n := 2) (rc := 0) (ml := 2) (nr := 0) (np := 58) (as := [iv_c (h 69 10), iv_c v1446]) (rest := []) (lo1 := [iv_c (h 69 10), iv_c v1446]) (by decide +kernel) (by decide) (by decide +kernel) (Or.inl rfl) rfl rfl (x_wi l1 (x_wi (by first | decide | omega) x_wn)) x_wn (by decide) rfl (c148 j1658 (by first | decide | omega) (by first | decide | omega)) (fun v1671 l1672 q1673 => ?_)
          refine x_ifz (k := 0) (tg := 83) (np := 61) (by decide +kernel) (by decide) l1672 (fun q1674 => ?_) (fun q1675 => ?_)
          · have q1674 : v1671 = 2147483648 := q1674
            refine x_iinc (np := 86) (i := 7) (j := 2147483649) (v := (1 + v1654)) (lo' := [x_r 69, iv_c 2147483649, iv_c (h 69 10), iv_c (h 69 11), iv_c (h 69 12), iv_c (h 69 13), iv_c v1446, iv_c (1 + v1654)]) (by decide +kernel) (by decide) (by decide) rfl (by first | decide | omega) (by first | decide | omega) (by first | decide | omega) rfl ?_
            refine x_goto (np := 89) (x := 40) (by decide +kernel) ?_
            exact i1661 (1 + v1654) h1656 (by first | decide | omega) (by first | decide | omega) j1658 f1657
          have q1675 : ¬ (v1671 = 2147483648) := q1675
          refine x_iload (np := 62) (x := 3) (by decide +kernel) rfl l2 ?_
          refine x_iload (np := 64) (x := 7) (by decide +kernel) rfl (by first | decide | omega) ?_
          refine x_cP (t := 7) (mj := 148) (n := 2) (rc := 0) (ml := 2) (nr := 0) (np := 67) (as := [iv_c (h 69 11), iv_c v1654]) (rest := []) (lo1 := [iv_c (h 69 11), iv_c v1654]) (by decide +kernel) (by decide) (by decide +kernel) (Or.inl rfl) rfl rfl (x_wi l2 (x_wi (by first | decide | omega) x_wn)) x_wn (by decide) rfl (c148 j1658 (by first | decide | omega) (by first | decide | omega)) (fun v1676 l1677 q1678 => ?_)
          refine x_ifz (k := 0) (tg := 83) (np := 70) (by decide +kernel) (by decide) l1677 (fun q1679 => ?_) (fun q1680 => ?_)
          · have q1679 : v1676 = 2147483648 := q1679
            refine x_iinc (np := 86) (i := 7) (j := 2147483649) (v := (1 + v1654)) (lo' := [x_r 69, iv_c 2147483649, iv_c (h 69 10), iv_c (h 69 11), iv_c (h 69 12), iv_c (h 69 13), iv_c v1446, iv_c (1 + v1654)]) (by decide +kernel) (by decide) (by decide) rfl (by first | decide | omega) (by first | decide | omega) (by first | decide | omega) rfl ?_
            refine x_goto (np := 89) (x := 40) (by decide +kernel) ?_
            exact i1661 (1 + v1654) h1656 (by first | decide | omega) (by first | decide | omega) j1658 f1657
          have q1680 : ¬ (v1676 = 2147483648) := q1680
          refine x_aload (np := 71) (x := 0) (by decide +kernel) rfl (x_nc_le (by decide)) ?_
          refine x_iload (np := 72) (x := 1) (by decide +kernel) rfl (by decide) ?_
          refine x_iload (np := 74) (x := 6) (by decide +kernel) rfl (by first | decide | omega) ?_
          refine x_iload (np := 76) (x := 7) (by decide +kernel) rfl (by first | decide | omega) ?_
          refine x_iload (np := 78) (x := 4) (by decide +kernel) rfl l3 ?_
          refine x_iload (np := 80) (x := 5) (by decide +kernel) rfl l4 ?_
          refine x_cV (t := 8) (mj := 276) (n := 6) (rc := 13) (ml := 10) (nr := 0) (np := 83) (as := [x_r 69, iv_c 2147483649, iv_c v1446, iv_c v1654, iv_c (h 69 12), iv_c (h 69 13)]) (rest := []) (lo1 := [x_r 69, iv_c 2147483649, iv_c v1446, iv_c v1654, iv_c (h 69 12), iv_c (h 69 13), 147573952589676412928, 147573952589676412928, 147573952589676412928, 147573952589676412928]) (by decide +kernel) (by decide) (by decide +kernel) (x_rb_of (by decide +kernel)) rfl rfl (x_wr (by decide) (x_wi (by decide) (x_wi (by first | decide | omega) (x_wi (by first | decide | omega) (x_wi l3 (x_wi l4 x_wn)))))) x_wn (by decide) rfl (c276_69_c1 j1658   (by first | decide | omega) (by first | decide | omega) (by first | decide | omega) (by first | decide | omega)) (fun h1684 q1683 => ?_)
          obtain ⟨j1685, f1686⟩ := q1683
          have f1689 := Fr.trans f1662 f1686 (by decide)
          have f1690 := Fr.trans f1663 f1686 (by decide)
          have f1691 := Fr.trans f1657 f1686 (by decide)
          refine x_iinc (np := 86) (i := 7) (j := 2147483649) (v := (1 + v1654)) (lo' := [x_r 69, iv_c 2147483649, iv_c (h 69 10), iv_c (h 69 11), iv_c (h 69 12), iv_c (h 69 13), iv_c v1446, iv_c (1 + v1654)]) (by decide +kernel) (by decide) (by decide) rfl (by first | decide | omega) (by first | decide | omega) (by first | decide | omega) rfl ?_
          refine x_goto (np := 89) (x := 40) (by decide +kernel) ?_
          exact i1661 (1 + v1654) h1684 (by first | decide | omega) (by first | decide | omega) j1685 f1691
      exact p1659 _ 2147483648 h1449 (Nat.lt_succ_self _) (by first | decide | omega) j1451 (Fr.refl _ _)
  exact p1452 _ 2147483648 147573952589676412928 h (Nat.lt_succ_self _) (by first | decide | omega) hJ (Fr.refl _ _)
set_option maxHeartbeats 0 in
/-- LentNames$Search.keepSet(I)V -/
theorem c279_69_c1 {sc : Nat × Nat} {d  : Nat} {h : xh} (hJ : J h) : X sc 279 d (xV fun h' => J h' ∧ Fr 65537 h h') 0 0 0 [x_r 69, iv_c 2147483649, 147573952589676412928, 147573952589676412928] [] h := by
  have hF := Fr.refl 65537 h
  refine x_aload (np := 1) (x := 0) (by decide +kernel) rfl (x_nc_le (by decide)) ?_
  refine x_dup (np := 2) (x := 0) (by decide +kernel) (by have z := x_nc_le (k := 69) (by decide); unfold x_r; omega) ?_
  refine x_getC (np := 5) (x := 776) (f := 8) (q := (h 69 8)) (by decide +kernel) (by decide) (by decide +kernel) rfl (fun l1 => ?_)
  refine x_const (np := 6) (x := 9223372043297226753) (a := 2147483649) (by decide +kernel) (by decide) (by decide) ?_
  refine x_addA (by rw [tb_b279]; decide +kernel) l1 (by decide) (fun v2 l3 => ?_)
  refine x_putI (np := 10) (x := 776) (f := 8) (by decide +kernel) (by decide +kernel) l3 (Or.inl (by decide)) ?_
  have j5 := jU (e := 8) (v := v2) 0 hJ rg_69_8_0_1 (by first | decide | omega) (by first | decide | omega) (by first | decide | omega)
  have f7 := jF (e := 8) (v := v2) 0 hF rg_69_8_0_1 (by first | decide | omega) (by first | decide | omega) (by decide)
  generalize e6 : x_up h 69 8 v2 = h4 at j5 f7 ⊢
  refine x_aload (np := 11) (x := 0) (by decide +kernel) rfl (x_nc_le (by decide)) ?_
  have q8 : h4 69 8 = v2 := by rw [← e6]; exact x_up_at
  refine x_getC (np := 14) (x := 776) (f := 8) (q := v2) (by decide +kernel) (by decide) (by decide +kernel) q8 (fun l9 => ?_)
  refine x_const (np := 15) (x := 9223372043297226753) (a := 2147483649) (by decide +kernel) (by decide) (by decide) ?_
  refine x_icmp (k := 5) (tg := 19) (np := 18) (by decide +kernel) (by decide) l3 (by decide) (fun q10 => ?_) (fun q11 => ?_)
  · have q10 : v2 ≤ 2147483649 := q10
    refine x_aload (np := 20) (x := 0) (by decide +kernel) rfl (x_nc_le (by decide)) ?_
    refine x_iload (np := 21) (x := 1) (by decide +kernel) rfl (by decide) ?_
    refine x_putI (np := 24) (x := 783) (f := 15) (by decide +kernel) (by decide +kernel) (by decide) (Or.inl (by decide)) ?_
    have j13 := jU (e := 15) (v := 2147483649) 0 j5 rg_69_15_0_1 (by first | decide | omega) (by first | decide | omega) (by first | decide | omega)
    have f15 := jF (e := 15) (v := 2147483649) 0 f7 rg_69_15_0_1 (by first | decide | omega) (by first | decide | omega) (by decide)
    generalize e14 : x_up h4 69 15 2147483649 = h12 at j13 f15 ⊢
    refine x_const (np := 25) (x := 9223372039002259456) (a := 2147483648) (by decide +kernel) (by decide) (by decide) ?_
    refine x_istore (np := 26) (x := 2) (lo' := [x_r 69, iv_c 2147483649, iv_c 2147483648, 147573952589676412928]) (by decide +kernel) (by decide) (Nat.le_of_ble_eq_true rfl) rfl ?_
    have p622 : ∀ (n : Nat) (v616 : Nat) (w618 : Nat) (h619 : xh), 4294967296 - v616 < n → (2147483648 ≤ v616 ∧ v616 ≤ 2147483653) → J h619 → Fr 65536 h12 h619 → X sc 279 d (xV fun h' => J h' ∧ Fr 65537 h h') 0 0 26 [x_r 69, iv_c 2147483649, iv_c v616, w618] [] h619 := by
      intro n
      induction n with
      | zero => intro v616 w618 h619 q623; exact absurd q623 (Nat.not_lt_zero _)
      | succ n i624 =>
        intro v616 w618 h619 q623 b617 j621 f620
        have f625 := Fr.trans f15 f620 (by decide)
        refine x_iload (np := 27) (x := 2) (by decide +kernel) rfl (by first | decide | omega) ?_
        refine x_aload (np := 28) (x := 0) (by decide +kernel) rfl (x_nc_le (by decide)) ?_
        have b626 := jB (e := 15) 0 j621 rg_69_15_0_1 (by first | decide | omega) (by first | decide | omega)
        refine x_getC (np := 31) (x := 783) (f := 15) (q := (h619 69 15)) (by decide +kernel) (by decide) (by decide +kernel) rfl (fun l627 => ?_)
        refine x_icmp (k := 3) (tg := 95) (np := 34) (by decide +kernel) (by decide) (by first | decide | omega) l627 (fun q628 => ?_) (fun q629 => ?_)
        · have q628 : (h619 69 15) ≤ v616 := q628
          refine x_retV (np := 96) (x := 0) (by decide +kernel) (by decide +kernel) ⟨rfl, ?_⟩
          exact ⟨j621, f625⟩
        have q629 : ¬ ((h619 69 15) ≤ v616) := q629
        refine x_iload (np := 35) (x := 2) (by decide +kernel) rfl (by first | decide | omega) ?_
        refine x_istore (np := 36) (x := 3) (lo' := [x_r 69, iv_c 2147483649, iv_c v616, iv_c v616]) (by decide +kernel) (by first | decide | omega) (Nat.le_of_ble_eq_true rfl) rfl ?_
        have p704 : ∀ (n : Nat) (v699 : Nat) (h701 : xh), v699 < n → (2147483648 ≤ v699 ∧ v699 ≤ 2147483652) → J h701 → Fr 65536 h619 h701 → X sc 279 d (xV fun h' => J h' ∧ Fr 65537 h h') 0 0 36 [x_r 69, iv_c 2147483649, iv_c v616, iv_c v699] [] h701 := by
          intro n
          induction n with
          | zero => intro v699 h701 q705; exact absurd q705 (Nat.not_lt_zero _)
          | succ n i706 =>
            intro v699 h701 q705 b700 j703 f702
            have f707 := Fr.trans f625 f702 (by decide)
            have f708 := Fr.trans f620 f702 (by decide)
            refine x_iload (np := 37) (x := 3) (by decide +kernel) rfl (by first | decide | omega) ?_
            refine x_ifz (k := 5) (tg := 77) (np := 40) (by decide +kernel) (by decide) (by first | decide | omega) (fun q709 => ?_) (fun q710 => ?_)
            · have q709 : v699 ≤ 2147483648 := q709
              refine x_aload (np := 78) (x := 0) (by decide +kernel) rfl (x_nc_le (by decide)) ?_
              have q711 : h701 69 4 = 74 := by have z := jB (e := 4) 0 j703 rg_69_4_0_1 (by decide) (by decide); omega
              refine x_getR (np := 81) (x := 772) (f := 4) (q := 74) (by decide +kernel) (by decide) (by decide +kernel) q711 ?_
              refine x_iload (np := 82) (x := 3) (by decide +kernel) rfl (by first | decide | omega) ?_
              refine x_aload (np := 83) (x := 0) (by decide +kernel) rfl (x_nc_le (by decide)) ?_
              have q712 : h701 69 3 = 73 := by have z := jB (e := 3) 0 j703 rg_69_3_0_1 (by decide) (by decide); omega
              refine x_getR (np := 86) (x := 771) (f := 3) (q := 73) (by decide +kernel) (by decide) (by decide +kernel) q712 ?_
              refine x_iload (np := 87) (x := 2) (by decide +kernel) rfl (by first | decide | omega) ?_
              obtain ⟨u713, q714⟩ : ∃ z, v616 = 2147483648 + z := ⟨v616 - 2147483648, by first | decide | omega⟩
              refine x_aldC (np := 88) (x := 0) (n := 5) (i := u713) (q := (h701 73 u713)) (by decide +kernel) (by decide +kernel) (by first | decide | omega) (by first | decide | omega) (by decide) rfl (fun l715 => ?_)
              obtain ⟨u716, q717⟩ : ∃ z, v699 = 2147483648 + z := ⟨v699 - 2147483648, by first | decide | omega⟩
              refine x_ast (np := 89) (x := 0) (kd := 1) (n := 5) (i := u716) (by decide +kernel) (Or.inl rfl) (by decide +kernel) (by first | decide | omega) (by first | decide | omega) (by decide) l715 (fun z => absurd z (by decide)) ?_
              have j719 := jU (e := u716) (v := (h701 73 u713)) u716 j703 rg_74_0_1_5 (by first | decide | omega) (by first | decide | omega) (by first | decide | omega)
              have f721 := jF (e := u716) (v := (h701 73 u713)) u716 f707 rg_74_0_1_5 (by first | decide | omega) (by first | decide | omega) (by decide)
              have f722 := jF (e := u716) (v := (h701 73 u713)) u716 f708 rg_74_0_1_5 (by first | decide | omega) (by first | decide | omega) (by decide)
              generalize e720 : x_up h701 74 u716 (h701 73 u713) = h718 at j719 f721 f722 ⊢
              refine x_iinc (np := 92) (i := 2) (j := 2147483649) (v := (1 + v616)) (lo' := [x_r 69, iv_c 2147483649, iv_c (1 + v616), iv_c v699]) (by decide +kernel) (by decide) (by decide) rfl (by first | decide | omega) (by first | decide | omega) (by first | decide | omega) rfl ?_
              refine x_goto (np := 95) (x := 26) (by decide +kernel) ?_
              exact i624 (1 + v616) (iv_c v699) h718 (by first | decide | omega) (by first | decide | omega) j719 f722
            have q710 : ¬ (v699 ≤ 2147483648) := q710
            refine x_aload (np := 41) (x := 0) (by decide +kernel) rfl (x_nc_le (by decide)) ?_
            have q723 : h701 69 4 = 74 := by have z := jB (e := 4) 0 j703 rg_69_4_0_1 (by decide) (by decide); omega
            refine x_getR (np := 44) (x := 772) (f := 4) (q := 74) (by decide +kernel) (by decide) (by decide +kernel) q723 ?_
            refine x_iload (np := 45) (x := 3) (by decide +kernel) rfl (by first | decide | omega) ?_
            refine x_const (np := 46) (x := 9223372043297226753) (a := 2147483649) (by decide +kernel) (by decide) (by decide) ?_
            obtain ⟨v724, q725⟩ : ∃ z, z + 2147483649 = v699 + 2147483648 := ⟨v699 + 2147483648 - 2147483649, by first | decide | omega⟩
            refine x_isub (np := 47) (x := 0) (v := v724) (by decide +kernel) (by first | decide | omega) (by decide) (by first | decide | omega) (by first | decide | omega) ?_
            obtain ⟨u726, q727⟩ : ∃ z, v724 = 2147483648 + z := ⟨v724 - 2147483648, by first | decide | omega⟩
            refine x_aldC (np := 48) (x := 0) (n := 5) (i := u726) (q := (h701 74 u726)) (by decide +kernel) (by decide +kernel) (by first | decide | omega) (by first | decide | omega) (by decide) rfl (fun l728 => ?_)
            refine x_aload (np := 49) (x := 0) (by decide +kernel) rfl (x_nc_le (by decide)) ?_
            have q729 : h701 69 3 = 73 := by have z := jB (e := 3) 0 j703 rg_69_3_0_1 (by decide) (by decide); omega
            refine x_getR (np := 52) (x := 771) (f := 3) (q := 73) (by decide +kernel) (by decide) (by decide +kernel) q729 ?_
            refine x_iload (np := 53) (x := 2) (by decide +kernel) rfl (by first | decide | omega) ?_
            obtain ⟨u730, q731⟩ : ∃ z, v616 = 2147483648 + z := ⟨v616 - 2147483648, by first | decide | omega⟩
            refine x_aldC (np := 54) (x := 0) (n := 5) (i := u730) (q := (h701 73 u730)) (by decide +kernel) (by decide +kernel) (by first | decide | omega) (by first | decide | omega) (by decide) rfl (fun l732 => ?_)
            refine x_icmp (k := 5) (tg := 77) (np := 57) (by decide +kernel) (by decide) l728 l732 (fun q733 => ?_) (fun q734 => ?_)
            · have q733 : (h701 74 u726) ≤ (h701 73 u730) := q733
              refine x_aload (np := 78) (x := 0) (by decide +kernel) rfl (x_nc_le (by decide)) ?_
              have q735 : h701 69 4 = 74 := by have z := jB (e := 4) 0 j703 rg_69_4_0_1 (by decide) (by decide); omega
              refine x_getR (np := 81) (x := 772) (f := 4) (q := 74) (by decide +kernel) (by decide) (by decide +kernel) q735 ?_
              refine x_iload (np := 82) (x := 3) (by decide +kernel) rfl (by first | decide | omega) ?_
              refine x_aload (np := 83) (x := 0) (by decide +kernel) rfl (x_nc_le (by decide)) ?_
              have q736 : h701 69 3 = 73 := by have z := jB (e := 3) 0 j703 rg_69_3_0_1 (by decide) (by decide); omega
              refine x_getR (np := 86) (x := 771) (f := 3) (q := 73) (by decide +kernel) (by decide) (by decide +kernel) q736 ?_
              refine x_iload (np := 87) (x := 2) (by decide +kernel) rfl (by first | decide | omega) ?_
              refine x_aldC (np := 88) (x := 0) (n := 5) (i := u730) (q := (h701 73 u730)) (by decide +kernel) (by decide +kernel) (by first | decide | omega) (by first | decide | omega) (by decide) rfl (fun l737 => ?_)
              obtain ⟨u738, q739⟩ : ∃ z, v699 = 2147483648 + z := ⟨v699 - 2147483648, by first | decide | omega⟩
              refine x_ast (np := 89) (x := 0) (kd := 1) (n := 5) (i := u738) (by decide +kernel) (Or.inl rfl) (by decide +kernel) (by first | decide | omega) (by first | decide | omega) (by decide) l732 (fun z => absurd z (by decide)) ?_
              have j741 := jU (e := u738) (v := (h701 73 u730)) u738 j703 rg_74_0_1_5 (by first | decide | omega) (by first | decide | omega) (by first | decide | omega)
              have f743 := jF (e := u738) (v := (h701 73 u730)) u738 f707 rg_74_0_1_5 (by first | decide | omega) (by first | decide | omega) (by decide)
              have f744 := jF (e := u738) (v := (h701 73 u730)) u738 f708 rg_74_0_1_5 (by first | decide | omega) (by first | decide | omega) (by decide)
              generalize e742 : x_up h701 74 u738 (h701 73 u730) = h740 at j741 f743 f744 ⊢
              refine x_iinc (np := 92) (i := 2) (j := 2147483649) (v := (1 + v616)) (lo' := [x_r 69, iv_c 2147483649, iv_c (1 + v616), iv_c v699]) (by decide +kernel) (by decide) (by decide) rfl (by first | decide | omega) (by first | decide | omega) (by first | decide | omega) rfl ?_
              refine x_goto (np := 95) (x := 26) (by decide +kernel) ?_
              exact i624 (1 + v616) (iv_c v699) h740 (by first | decide | omega) (by first | decide | omega) j741 f744
            have q734 : ¬ ((h701 74 u726) ≤ (h701 73 u730)) := q734
            refine x_aload (np := 58) (x := 0) (by decide +kernel) rfl (x_nc_le (by decide)) ?_
            have q745 : h701 69 4 = 74 := by have z := jB (e := 4) 0 j703 rg_69_4_0_1 (by decide) (by decide); omega
            refine x_getR (np := 61) (x := 772) (f := 4) (q := 74) (by decide +kernel) (by decide) (by decide +kernel) q745 ?_
            refine x_iload (np := 62) (x := 3) (by decide +kernel) rfl (by first | decide | omega) ?_
            refine x_aload (np := 63) (x := 0) (by decide +kernel) rfl (x_nc_le (by decide)) ?_
            have q746 : h701 69 4 = 74 := by have z := jB (e := 4) 0 j703 rg_69_4_0_1 (by decide) (by decide); omega
            refine x_getR (np := 66) (x := 772) (f := 4) (q := 74) (by decide +kernel) (by decide) (by decide +kernel) q746 ?_
            refine x_iload (np := 67) (x := 3) (by decide +kernel) rfl (by first | decide | omega) ?_
            refine x_const (np := 68) (x := 9223372043297226753) (a := 2147483649) (by decide +kernel) (by decide) (by decide) ?_
            obtain ⟨v747, q748⟩ : ∃ z, z + 2147483649 = v699 + 2147483648 := ⟨v699 + 2147483648 - 2147483649, by first | decide | omega⟩
            refine x_isub (np := 69) (x := 0) (v := v747) (by decide +kernel) (by first | decide | omega) (by decide) (by first | decide | omega) (by first | decide | omega) ?_
            obtain ⟨u749, q750⟩ : ∃ z, v747 = 2147483648 + z := ⟨v747 - 2147483648, by first | decide | omega⟩
            refine x_aldC (np := 70) (x := 0) (n := 5) (i := u749) (q := (h701 74 u749)) (by decide +kernel) (by decide +kernel) (by first | decide | omega) (by first | decide | omega) (by decide) rfl (fun l751 => ?_)
            obtain ⟨u752, q753⟩ : ∃ z, v699 = 2147483648 + z := ⟨v699 - 2147483648, by first | decide | omega⟩
            refine x_ast (np := 71) (x := 0) (kd := 1) (n := 5) (i := u752) (by decide +kernel) (Or.inl rfl) (by decide +kernel) (by first | decide | omega) (by first | decide | omega) (by decide) l751 (fun z => absurd z (by decide)) ?_
            have j755 := jU (e := u752) (v := (h701 74 u749)) u752 j703 rg_74_0_1_5 (by first | decide | omega) (by first | decide | omega) (by first | decide | omega)
            have f757 := jF (e := u752) (v := (h701 74 u749)) u752 f707 rg_74_0_1_5 (by first | decide | omega) (by first | decide | omega) (by decide)
            have f758 := jF (e := u752) (v := (h701 74 u749)) u752 f708 rg_74_0_1_5 (by first | decide | omega) (by first | decide | omega) (by decide)
            have f759 := jF (e := u752) (v := (h701 74 u749)) u752 f702 rg_74_0_1_5 (by first | decide | omega) (by first | decide | omega) (by decide)
            generalize e756 : x_up h701 74 u752 (h701 74 u749) = h754 at j755 f757 f758 f759 ⊢
            obtain ⟨v760, q761⟩ : ∃ z, z + 1 = v699 := ⟨v699 - 1, by first | decide | omega⟩
            refine x_iinc (np := 74) (i := 3) (j := 2147483647) (v := v760) (lo' := [x_r 69, iv_c 2147483649, iv_c v616, iv_c v760]) (by decide +kernel) (by decide) (by decide) rfl (by first | decide | omega) (by first | decide | omega) (by first | decide | omega) rfl ?_
            refine x_goto (np := 77) (x := 36) (by decide +kernel) ?_
            exact i706 v760 h754 (by first | decide | omega) (by first | decide | omega) j755 f759
        exact p704 _ v616 h619 (Nat.lt_succ_self _) (by first | decide | omega) j621 (Fr.refl _ _)
    exact p622 _ 2147483648 147573952589676412928 h12 (Nat.lt_succ_self _) (by first | decide | omega) j13 (Fr.refl _ _)
  have q11 : ¬ (v2 ≤ 2147483649) := q11
  refine x_retV (np := 19) (x := 0) (by decide +kernel) (by decide +kernel) ⟨rfl, ?_⟩
  exact ⟨j5, f7⟩
set_option maxHeartbeats 0 in
/-- LentNames$Search.come(I)V -/
theorem c274_69_c1 {sc : Nat × Nat} {d  : Nat} {h : xh} (hJ : J h) : X sc 274 (d + 19) (xV fun h' => J h' ∧ Fr 65537 h h') 0 0 0 [x_r 69, iv_c 2147483649] [] h := by
  have hF := Fr.refl 65537 h
  refine x_aload (np := 1) (x := 0) (by decide +kernel) rfl (x_nc_le (by decide)) ?_
  refine x_dup (np := 2) (x := 0) (by decide +kernel) (by have z := x_nc_le (k := 69) (by decide); unfold x_r; omega) ?_
  refine x_getC (np := 5) (x := 785) (f := 17) (q := (h 69 17)) (by decide +kernel) (by decide) (by decide +kernel) rfl (fun l1 => ?_)
  refine x_const (np := 6) (x := 9223372043297226753) (a := 2147483649) (by decide +kernel) (by decide) (by decide) ?_
  refine x_addA (by rw [tb_b274]; decide +kernel) l1 (by decide) (fun v2 l3 => ?_)
  refine x_putI (np := 10) (x := 785) (f := 17) (by decide +kernel) (by decide +kernel) l3 (Or.inl (by decide)) ?_
  have j5 := jU (e := 17) (v := v2) 0 hJ rg_69_17_0_1 (by first | decide | omega) (by first | decide | omega) (by first | decide | omega)
  have f7 := jF (e := 17) (v := v2) 0 hF rg_69_17_0_1 (by first | decide | omega) (by first | decide | omega) (by decide)
  generalize e6 : x_up h 69 17 v2 = h4 at j5 f7 ⊢
  refine x_aload (np := 11) (x := 0) (by decide +kernel) rfl (x_nc_le (by decide)) ?_
  have q8 : h4 69 17 = v2 := by rw [← e6]; exact x_up_at
  refine x_getC (np := 14) (x := 785) (f := 17) (q := v2) (by decide +kernel) (by decide) (by decide +kernel) q8 (fun l9 => ?_)
  refine x_const (np := 17) (x := 9223457938348199456) (a := 2147503648) (by decide +kernel) (by decide) (by decide) ?_
  refine x_icmp (k := 5) (tg := 28) (np := 20) (by decide +kernel) (by decide) l3 (by decide) (fun q10 => ?_) (fun q11 => ?_)
  · have q10 : v2 ≤ 2147503648 := q10
    refine x_aload (np := 29) (x := 0) (by decide +kernel) rfl (x_nc_le (by decide)) ?_
    refine x_vI (np := 32) (x := 5246979) (kk := 3) (cls := 5) (mj := 63) (ml := 3) (nr := 0) (rest := []) (lo1 := [x_r 69, 147573952589676412928, 147573952589676412928]) (by decide +kernel) (by decide) (by decide) (by decide) (by decide +kernel) (by decide +kernel) (by decide) (by decide +kernel) (by decide +kernel) x_wn (by decide) rfl (c63_69 j5) (fun v12 h15 l13 q14 => ?_)
    obtain ⟨j16, f17, b18⟩ := q14
    have f19 := Fr.trans f7 f17 (by decide)
    refine x_ifz (k := 1) (tg := 43) (np := 35) (by decide +kernel) (by decide) l13 (fun q20 => ?_) (fun q21 => ?_)
    · have q20 : v12 ≠ 2147483648 := q20
      refine x_iload (np := 44) (x := 1) (by decide +kernel) rfl (by decide) ?_
      refine x_aload (np := 45) (x := 0) (by decide +kernel) rfl (x_nc_le (by decide)) ?_
      refine x_getC (np := 48) (x := 784) (f := 16) (q := (h15 69 16)) (by decide +kernel) (by decide) (by decide +kernel) rfl (fun l22 => ?_)
      refine x_icmp (k := 3) (tg := 61) (np := 51) (by decide +kernel) (by decide) (by decide) l22 (fun q23 => ?_) (fun q24 => ?_)
      · have q23 : (h15 69 16) ≤ 2147483649 := q23
        refine x_retV (np := 62) (x := 0) (by decide +kernel) (by decide +kernel) ⟨rfl, ?_⟩
        exact ⟨j16, f19⟩
      have q24 : ¬ ((h15 69 16) ≤ 2147483649) := q24
      refine x_iload (np := 52) (x := 1) (by decide +kernel) rfl (by decide) ?_
      refine x_const (np := 53) (x := 9223372060477095941) (a := 2147483653) (by decide +kernel) (by decide) (by decide) ?_
      refine x_icmp (k := 3) (tg := 61) (np := 56) (by decide +kernel) (by decide) (by decide) (by decide) (fun q25 => ?_) (fun q26 => ?_)
      · have q25 : 2147483653 ≤ 2147483649 := q25
        exfalso; omega
      have q26 : ¬ (2147483653 ≤ 2147483649) := q26
      refine x_aload (np := 57) (x := 0) (by decide +kernel) rfl (x_nc_le (by decide)) ?_
      refine x_iload (np := 58) (x := 1) (by decide +kernel) rfl (by decide) ?_
      refine x_cV (t := 8) (mj := 275) (n := 2) (rc := 13) (ml := 8) (nr := 0) (np := 61) (as := [x_r 69, iv_c 2147483649]) (rest := []) (lo1 := [x_r 69, iv_c 2147483649, 147573952589676412928, 147573952589676412928, 147573952589676412928, 147573952589676412928, 147573952589676412928, 147573952589676412928]) (by decide +kernel) (by decide) (by decide +kernel) (x_rb_of (by decide +kernel)) rfl rfl (x_wr (by decide) (x_wi (by decide) x_wn)) x_wn (by decide) rfl (c275_69_c1 j16  ) (fun h30 q29 => ?_)
      obtain ⟨j31, f32⟩ := q29
      have f35 := Fr.trans f19 f32 (by decide)
      refine x_retV (np := 62) (x := 0) (by decide +kernel) (by decide +kernel) ⟨rfl, ?_⟩
      exact ⟨j31, f35⟩
    have q21 : ¬ (v12 ≠ 2147483648) := q21
    refine x_aload (np := 36) (x := 0) (by decide +kernel) rfl (x_nc_le (by decide)) ?_
    refine x_iload (np := 37) (x := 1) (by decide +kernel) rfl (by decide) ?_
    refine x_cV (t := 8) (mj := 279) (n := 2) (rc := 13) (ml := 4) (nr := 0) (np := 40) (as := [x_r 69, iv_c 2147483649]) (rest := []) (lo1 := [x_r 69, iv_c 2147483649, 147573952589676412928, 147573952589676412928]) (by decide +kernel) (by decide) (by decide +kernel) (x_rb_of (by decide +kernel)) rfl rfl (x_wr (by decide) (x_wi (by decide) x_wn)) x_wn (by decide) rfl (c279_69_c1 j16  ) (fun h39 q38 => ?_)
    obtain ⟨j40, f41⟩ := q38
    have f44 := Fr.trans f19 f41 (by decide)
    refine x_goto (np := 43) (x := 61) (by decide +kernel) ?_
    refine x_retV (np := 62) (x := 0) (by decide +kernel) (by decide +kernel) ⟨rfl, ?_⟩
    exact ⟨j40, f44⟩
  have q11 : ¬ (v2 ≤ 2147503648) := q11
  refine x_aload (np := 21) (x := 0) (by decide +kernel) rfl (x_nc_le (by decide)) ?_
  refine x_const (np := 22) (x := 9223372043297226753) (a := 2147483649) (by decide +kernel) (by decide) (by decide) ?_
  refine x_putI (np := 25) (x := 4873) (f := 9) (by decide +kernel) (by decide +kernel) (by decide) (Or.inr ⟨by decide, by first | decide | omega, by first | decide | omega⟩) ?_
  have j46 := jU (e := 9) (v := 2147483649) 0 j5 rg_69_9_0_1 (by first | decide | omega) (by first | decide | omega) (by first | decide | omega)
  have f48 := jF (e := 9) (v := 2147483649) 0 f7 rg_69_9_0_1 (by first | decide | omega) (by first | decide | omega) (by decide)
  generalize e47 : x_up h4 69 9 2147483649 = h45 at j46 f48 ⊢
  refine x_goto (np := 28) (x := 61) (by decide +kernel) ?_
  refine x_retV (np := 62) (x := 0) (by decide +kernel) (by decide +kernel) ⟨rfl, ?_⟩
  exact ⟨j46, f48⟩
set_option maxHeartbeats 0 in
/-- LentNames$Search.tryLoan(IIIII)V -/
theorem c277_69_c0 {sc : Nat × Nat} {d a2 a3 a4 a5 : Nat} {h : xh} (hJ : J h) (ba2 : 2147483648 ≤ a2 ∧ a2 ≤ 2147483653) (ba3 : 2147483648 ≤ a3 ∧ a3 ≤ 2147483653) (ba4 : 2147483648 ≤ a4 ∧ a4 ≤ 2147483659) (ba5 : 2147483648 ≤ a5 ∧ a5 ≤ 2147483659) : X sc 277 (d + 20) (xV fun h' => J h' ∧ Fr 65537 h h') 0 0 0 [x_r 69, iv_c 2147483648, iv_c a2, iv_c a3, iv_c a4, iv_c a5, 147573952589676412928] [] h := by
  have la2 : a2 < 4294967296 := by first | decide | omega
  have la3 : a3 < 4294967296 := by first | decide | omega
  have la4 : a4 < 4294967296 := by first | decide | omega
  have la5 : a5 < 4294967296 := by first | decide | omega
  have hF := Fr.refl 65537 h
  refine x_const (np := 1) (x := 9223372043297226753) (a := 2147483649) (by decide +kernel) (by decide) (by decide) ?_
  refine x_iload (np := 3) (x := 5) (by decide +kernel) rfl la5 ?_
  refine x_const (np := 4) (x := 9223372043297226753) (a := 2147483649) (by decide +kernel) (by decide) (by decide) ?_
  refine x_iadd (np := 5) (x := 0) (v := (1 + a5)) (by decide +kernel) la5 (by decide) (by first | decide | omega) (by first | decide | omega) ?_
  refine x_any (np := 6) (k9 := 3) (by decide +kernel) (by decide) (by decide) (by first | decide | omega) (fun v1 l2 => ?_)
  refine x_const (np := 7) (x := 9223372043297226753) (a := 2147483649) (by decide +kernel) (by decide) (by decide) ?_
  refine x_iload (np := 9) (x := 4) (by decide +kernel) rfl la4 ?_
  refine x_any (np := 10) (k9 := 3) (by decide +kernel) (by decide) (by decide) la4 (fun v3 l4 => ?_)
  refine x_subA (by rw [tb_b277]; decide +kernel) l2 l4 (fun v5 l6 => ?_)
  refine x_istore (np := 13) (x := 6) (lo' := [x_r 69, iv_c 2147483648, iv_c a2, iv_c a3, iv_c a4, iv_c a5, iv_c v5]) (by decide +kernel) l6 (Nat.le_of_ble_eq_true rfl) rfl ?_
  refine x_aload (np := 14) (x := 0) (by decide +kernel) rfl (x_nc_le (by decide)) ?_
  have q7 : h 69 3 = 73 := by have z := jB (e := 3) 0 hJ rg_69_3_0_1 (by decide) (by decide); omega
  refine x_getR (np := 17) (x := 771) (f := 3) (q := 73) (by decide +kernel) (by decide) (by decide +kernel) q7 ?_
  refine x_iload (np := 18) (x := 1) (by decide +kernel) rfl (by decide) ?_
  refine x_const (np := 21) (x := 9223414988675229456) (a := 2147493648) (by decide +kernel) (by decide) (by decide) ?_
  refine x_iload (np := 22) (x := 2) (by decide +kernel) rfl la2 ?_
  obtain ⟨u8, q9⟩ : ∃ z, a2 = 2147483648 + z := ⟨a2 - 2147483648, by first | decide | omega⟩
  refine x_imul (np := 23) (x := 0) (i := 10000) (j := u8) (v := (2147483648 + 10000 * u8)) (by decide +kernel) (by first | decide | omega) (by first | decide | omega) (by first | decide | omega) (by first | decide | omega) (by decide) la2 ?_
  refine x_const (np := 26) (x := 9223376333969556456) (a := 2147484648) (by decide +kernel) (by decide) (by decide) ?_
  refine x_iload (np := 27) (x := 3) (by decide +kernel) rfl la3 ?_
  obtain ⟨u11, q12⟩ : ∃ z, a3 = 2147483648 + z := ⟨a3 - 2147483648, by first | decide | omega⟩
  refine x_imul (np := 28) (x := 0) (i := 1000) (j := u11) (v := (2147483648 + 1000 * u11)) (by decide +kernel) (by first | decide | omega) (by first | decide | omega) (by first | decide | omega) (by first | decide | omega) (by decide) la3 ?_
  refine x_iadd (np := 29) (x := 0) (v := (2147483648 + 10000 * u8 + 1000 * u11)) (by decide +kernel) (by first | decide | omega) (by first | decide | omega) (by first | decide | omega) (by first | decide | omega) ?_
  refine x_const (np := 31) (x := 9223372124901605396) (a := 2147483668) (by decide +kernel) (by decide) (by decide) ?_
  refine x_iload (np := 33) (x := 4) (by decide +kernel) rfl la4 ?_
  obtain ⟨u14, q15⟩ : ∃ z, a4 = 2147483648 + z := ⟨a4 - 2147483648, by first | decide | omega⟩
  refine x_imul (np := 34) (x := 0) (i := 20) (j := u14) (v := (2147483648 + 20 * u14)) (by decide +kernel) (by first | decide | omega) (by first | decide | omega) (by first | decide | omega) (by first | decide | omega) (by decide) la4 ?_
  refine x_iadd (np := 35) (x := 0) (v := (2147483648 + 10000 * u8 + 1000 * u11 + 20 * u14)) (by decide +kernel) (by first | decide | omega) (by first | decide | omega) (by first | decide | omega) (by first | decide | omega) ?_
  refine x_iload (np := 37) (x := 5) (by decide +kernel) rfl la5 ?_
  refine x_iadd (np := 38) (x := 0) (v := (10000 * u8 + 1000 * u11 + 20 * u14 + a5)) (by decide +kernel) (by first | decide | omega) la5 (by first | decide | omega) (by first | decide | omega) ?_
  refine x_ast (np := 39) (x := 0) (kd := 1) (n := 5) (i := 0) (by decide +kernel) (Or.inl rfl) (by decide +kernel) (by first | decide | omega) (by first | decide | omega) (by decide) (by first | decide | omega) (fun z => absurd z (by decide)) ?_
  have j18 := jU (e := 0) (v := (10000 * u8 + 1000 * u11 + 20 * u14 + a5)) 0 hJ rg_73_0_1_5 (by first | decide | omega) (by first | decide | omega) (by first | decide | omega)
  have f20 := jF (e := 0) (v := (10000 * u8 + 1000 * u11 + 20 * u14 + a5)) 0 hF rg_73_0_1_5 (by first | decide | omega) (by first | decide | omega) (by decide)
  generalize e19 : x_up h 73 0 (10000 * u8 + 1000 * u11 + 20 * u14 + a5) = h17 at j18 f20 ⊢
  refine x_aload (np := 40) (x := 0) (by decide +kernel) rfl (x_nc_le (by decide)) ?_
  refine x_iload (np := 41) (x := 2) (by decide +kernel) rfl la2 ?_
  refine x_iload (np := 42) (x := 3) (by decide +kernel) rfl la3 ?_
  refine x_iload (np := 44) (x := 6) (by decide +kernel) rfl l6 ?_
  refine x_cV (t := 8) (mj := 280) (n := 4) (rc := 13) (ml := 5) (nr := 0) (np := 47) (as := [x_r 69, iv_c a2, iv_c a3, iv_c v5]) (rest := []) (lo1 := [x_r 69, iv_c a2, iv_c a3, iv_c v5, 147573952589676412928]) (by decide +kernel) (by decide) (by decide +kernel) (x_rb_of (by decide +kernel)) rfl rfl (x_wr (by decide) (x_wi la2 (x_wi la3 (x_wi l6 x_wn)))) x_wn (by decide) rfl (c280_69 j18  (by first | decide | omega) (by first | decide | omega) (by first | decide | omega)) (fun h24 q23 => ?_)
  obtain ⟨j25, f26⟩ := q23
  have f29 := Fr.trans f20 f26 (by decide)
  refine x_aload (np := 48) (x := 0) (by decide +kernel) rfl (x_nc_le (by decide)) ?_
  refine x_iload (np := 49) (x := 1) (by decide +kernel) rfl (by decide) ?_
  refine x_const (np := 50) (x := 9223372043297226753) (a := 2147483649) (by decide +kernel) (by decide) (by decide) ?_
  refine x_iadd (np := 51) (x := 0) (v := 2147483649) (by decide +kernel) (by decide) (by decide) (by first | decide | omega) (by first | decide | omega) ?_
  refine x_cV (t := 8) (mj := 274) (n := 2) (rc := 13) (ml := 2) (nr := 0) (np := 54) (as := [x_r 69, iv_c 2147483649]) (rest := []) (lo1 := [x_r 69, iv_c 2147483649]) (by decide +kernel) (by decide) (by decide +kernel) (x_rb_of (by decide +kernel)) rfl rfl (x_wr (by decide) (x_wi (by decide) x_wn)) x_wn (by decide) rfl (c274_69_c1 j25  ) (fun h33 q32 => ?_)
  obtain ⟨j34, f35⟩ := q32
  have f38 := Fr.trans f29 f35 (by decide)
  refine x_aload (np := 55) (x := 0) (by decide +kernel) rfl (x_nc_le (by decide)) ?_
  refine x_iload (np := 56) (x := 2) (by decide +kernel) rfl la2 ?_
  refine x_iload (np := 58) (x := 6) (by decide +kernel) rfl l6 ?_
  refine x_cV (t := 8) (mj := 281) (n := 3) (rc := 13) (ml := 5) (nr := 0) (np := 61) (as := [x_r 69, iv_c a2, iv_c v5]) (rest := []) (lo1 := [x_r 69, iv_c a2, iv_c v5, 147573952589676412928, 147573952589676412928]) (by decide +kernel) (by decide) (by decide +kernel) (x_rb_of (by decide +kernel)) rfl rfl (x_wr (by decide) (x_wi la2 (x_wi l6 x_wn))) x_wn (by decide) rfl (c281_69 j34  (by first | decide | omega) (by first | decide | omega)) (fun h42 q41 => ?_)
  obtain ⟨j43, f44⟩ := q41
  have f47 := Fr.trans f38 f44 (by decide)
  refine x_retV (np := 62) (x := 0) (by decide +kernel) (by decide +kernel) ⟨rfl, ?_⟩
  exact ⟨j43, f47⟩
set_option maxHeartbeats 0 in
/-- LentNames$Search.tryLoans(IIIII)V -/
theorem c276_69_c0 {sc : Nat × Nat} {d a2 a3 a4 a5 : Nat} {h : xh} (hJ : J h) (ba2 : 2147483648 ≤ a2 ∧ a2 ≤ 2147483653) (ba3 : 2147483648 ≤ a3 ∧ a3 ≤ 2147483653) (ba4 : 0 ≤ a4 ∧ a4 ≤ 4294967295) (ba5 : 0 ≤ a5 ∧ a5 ≤ 4294967295) : X sc 276 (d + 21) (xV fun h' => J h' ∧ Fr 65537 h h') 0 0 0 [x_r 69, iv_c 2147483648, iv_c a2, iv_c a3, iv_c a4, iv_c a5, 147573952589676412928, 147573952589676412928, 147573952589676412928, 147573952589676412928] [] h := by
  have la2 : a2 < 4294967296 := by first | decide | omega
  have la3 : a3 < 4294967296 := by first | decide | omega
  have la4 : a4 < 4294967296 := by first | decide | omega
  have la5 : a5 < 4294967296 := by first | decide | omega
  have hF := Fr.refl 65537 h
  refine x_aload (np := 1) (x := 0) (by decide +kernel) rfl (x_nc_le (by decide)) ?_
  have q1 : h 69 5 = 45 := by have z := jB (e := 5) 0 hJ rg_69_5_0_1 (by decide) (by decide); omega
  refine x_getR (np := 4) (x := 773) (f := 5) (q := 45) (by decide +kernel) (by decide) (by decide +kernel) q1 ?_
  have q2 : h 45 0 = 46 := by have z := jB (e := 0) 0 hJ rg_45_0_0_1 (by decide) (by decide); omega
  refine x_getR (np := 7) (x := 64) (f := 0) (q := 46) (by decide +kernel) (by decide) (by decide +kernel) q2 ?_
  refine x_iload (np := 8) (x := 3) (by decide +kernel) rfl la3 ?_
  obtain ⟨u3, q4⟩ : ∃ z, a3 = 2147483648 + z := ⟨a3 - 2147483648, by first | decide | omega⟩
  refine x_aldC (np := 9) (x := 0) (n := 6) (i := u3) (q := (h 46 u3)) (by decide +kernel) (by decide +kernel) (by first | decide | omega) (by first | decide | omega) (by decide) rfl (fun l5 => ?_)
  refine x_aload (np := 10) (x := 0) (by decide +kernel) rfl (x_nc_le (by decide)) ?_
  have q6 : h 69 5 = 45 := by have z := jB (e := 5) 0 hJ rg_69_5_0_1 (by decide) (by decide); omega
  refine x_getR (np := 13) (x := 773) (f := 5) (q := 45) (by decide +kernel) (by decide) (by decide +kernel) q6 ?_
  have q7 : h 45 1 = 47 := by have z := jB (e := 1) 0 hJ rg_45_1_0_1 (by decide) (by decide); omega
  refine x_getR (np := 16) (x := 65) (f := 1) (q := 47) (by decide +kernel) (by decide) (by decide +kernel) q7 ?_
  refine x_iload (np := 17) (x := 2) (by decide +kernel) rfl la2 ?_
  refine x_iload (np := 18) (x := 3) (by decide +kernel) rfl la3 ?_
  refine x_nI (t := 7) (mj := 149) (n := 2) (rc := 0) (ml := 2) (nr := 2) (np := 21) (as := [iv_c a2, iv_c a3]) (rest := [x_r 47, iv_c (h 46 u3)]) (lo1 := [iv_c a2, iv_c a3]) (by decide +kernel) (by decide) (by decide +kernel) (Or.inl rfl) rfl rfl (x_wi la2 (x_wi la3 x_wn)) (x_wr (by decide) (x_wi l5 x_wn)) (by decide) rfl ?_
  refine x_iload (np := 1) (x := 0) (by decide +kernel) rfl la2 ?_
  refine x_const (np := 3) (x := 9223372064772063238) (a := 2147483654) (by decide +kernel) (by decide) (by decide) ?_
  obtain ⟨u8, q9⟩ : ∃ z, a2 = 2147483648 + z := ⟨a2 - 2147483648, by first | decide | omega⟩
  refine x_imul (np := 4) (x := 0) (i := u8) (j := 6) (v := (2147483648 + 6 * u8)) (by decide +kernel) (by first | decide | omega) (by first | decide | omega) (by first | decide | omega) (by first | decide | omega) la2 (by decide) ?_
  refine x_iload (np := 5) (x := 1) (by decide +kernel) rfl la3 ?_
  refine x_iadd (np := 6) (x := 0) (v := (6 * u8 + a3)) (by decide +kernel) (by first | decide | omega) la3 (by first | decide | omega) (by first | decide | omega) ?_
  refine x_retI (np := 7) (x := 0) (by decide +kernel) (by first | decide | omega) (Or.inl (by decide +kernel)) ⟨_, rfl, (by first | decide | omega), ?_⟩
  refine x_aldC (np := 22) (x := 0) (n := 36) (i := (6 * u8 + u3)) (q := ((h 47 (6 * u8 + u3)))) (by decide +kernel) (by decide +kernel) (by first | decide | omega) (by first | decide | omega) (by decide) rfl (fun l11 => ?_)
  refine x_const (np := 23) (x := 9223372034707292159) (a := 2147483647) (by decide +kernel) (by decide) (by decide) ?_
  refine x_any (np := 24) (k9 := 2) (by decide +kernel) (by decide) l11 (by decide) (fun v12 l13 => ?_)
  refine x_any (np := 25) (k9 := 0) (by decide +kernel) (by decide) l5 l13 (fun v14 l15 => ?_)
  refine x_aload (np := 26) (x := 0) (by decide +kernel) rfl (x_nc_le (by decide)) ?_
  have q16 : h 69 2 = 72 := by have z := jB (e := 2) 0 hJ rg_69_2_0_1 (by decide) (by decide); omega
  refine x_getR (np := 29) (x := 770) (f := 2) (q := 72) (by decide +kernel) (by decide) (by decide +kernel) q16 ?_
  refine x_iload (np := 30) (x := 2) (by decide +kernel) rfl la2 ?_
  refine x_aldC (np := 31) (x := 0) (n := 6) (i := u8) (q := (h 72 u8)) (by decide +kernel) (by decide +kernel) (by first | decide | omega) (by first | decide | omega) (by decide) rfl (fun l17 => ?_)
  refine x_const (np := 32) (x := 9223372034707292159) (a := 2147483647) (by decide +kernel) (by decide) (by decide) ?_
  refine x_any (np := 33) (k9 := 2) (by decide +kernel) (by decide) l17 (by decide) (fun v18 l19 => ?_)
  refine x_any (np := 34) (k9 := 0) (by decide +kernel) (by decide) l15 l19 (fun v20 l21 => ?_)
  refine x_istore (np := 36) (x := 6) (lo' := [x_r 69, iv_c 2147483648, iv_c a2, iv_c a3, iv_c a4, iv_c a5, iv_c v20, 147573952589676412928, 147573952589676412928, 147573952589676412928]) (by decide +kernel) l21 (Nat.le_of_ble_eq_true rfl) rfl ?_
  refine x_aload (np := 37) (x := 0) (by decide +kernel) rfl (x_nc_le (by decide)) ?_
  have q22 : h 69 1 = 71 := by have z := jB (e := 1) 0 hJ rg_69_1_0_1 (by decide) (by decide); omega
  refine x_getR (np := 40) (x := 769) (f := 1) (q := 71) (by decide +kernel) (by decide) (by decide +kernel) q22 ?_
  refine x_iload (np := 41) (x := 2) (by decide +kernel) rfl la2 ?_
  refine x_aldC (np := 42) (x := 0) (n := 6) (i := u8) (q := (h 71 u8)) (by decide +kernel) (by decide +kernel) (by first | decide | omega) (by first | decide | omega) (by decide) rfl (fun l23 => ?_)
  refine x_iload (np := 44) (x := 6) (by decide +kernel) rfl l21 ?_
  refine x_any (np := 45) (k9 := 0) (by decide +kernel) (by decide) l23 l21 (fun v24 l25 => ?_)
  refine x_istore (np := 47) (x := 7) (lo' := [x_r 69, iv_c 2147483648, iv_c a2, iv_c a3, iv_c a4, iv_c a5, iv_c v20, iv_c v24, 147573952589676412928, 147573952589676412928]) (by decide +kernel) l25 (Nat.le_of_ble_eq_true rfl) rfl ?_
  refine x_const (np := 48) (x := 9223372039002259456) (a := 2147483648) (by decide +kernel) (by decide) (by decide) ?_
  refine x_istore (np := 50) (x := 8) (lo' := [x_r 69, iv_c 2147483648, iv_c a2, iv_c a3, iv_c a4, iv_c a5, iv_c v20, iv_c v24, iv_c 2147483648, 147573952589676412928]) (by decide +kernel) (by decide) (Nat.le_of_ble_eq_true rfl) rfl ?_
  have p5130 : ∀ (n : Nat) (v5124 : Nat) (w5126 : Nat) (h5127 : xh), 4294967296 - v5124 < n → (2147483648 ≤ v5124 ∧ v5124 ≤ 2147483660) → J h5127 → Fr 65537 h h5127 → X sc 276 (d + 21) (xV fun h' => J h' ∧ Fr 65537 h h') 0 0 50 [x_r 69, iv_c 2147483648, iv_c a2, iv_c a3, iv_c a4, iv_c a5, iv_c v20, iv_c v24, iv_c v5124, w5126] [] h5127 := by
    intro n
    induction n with
    | zero => intro v5124 w5126 h5127 q5131; exact absurd q5131 (Nat.not_lt_zero _)
    | succ n i5132 =>
      intro v5124 w5126 h5127 q5131 b5125 j5129 f5128
      have f5133 := Fr.trans hF f5128 (by decide)
      refine x_iload (np := 52) (x := 8) (by decide +kernel) rfl (by first | decide | omega) ?_
      refine x_iload (np := 54) (x := 5) (by decide +kernel) rfl la5 ?_
      refine x_icmp (k := 4) (tg := 145) (np := 57) (by decide +kernel) (by decide) (by first | decide | omega) la5 (fun q5134 => ?_) (fun q5135 => ?_)
      · have q5134 : a5 < v5124 := q5134
        refine x_retV (np := 146) (x := 0) (by decide +kernel) (by decide +kernel) ⟨rfl, ?_⟩
        exact ⟨j5129, f5133⟩
      have q5135 : ¬ (a5 < v5124) := q5135
      refine x_iload (np := 59) (x := 8) (by decide +kernel) rfl (by first | decide | omega) ?_
      refine x_const (np := 61) (x := 9223372090541867020) (a := 2147483660) (by decide +kernel) (by decide) (by decide) ?_
      refine x_icmp (k := 3) (tg := 145) (np := 64) (by decide +kernel) (by decide) (by first | decide | omega) (by decide) (fun q5136 => ?_) (fun q5137 => ?_)
      · have q5136 : 2147483660 ≤ v5124 := q5136
        refine x_retV (np := 146) (x := 0) (by decide +kernel) (by decide +kernel) ⟨rfl, ?_⟩
        exact ⟨j5129, f5133⟩
      have q5137 : ¬ (2147483660 ≤ v5124) := q5137
      refine x_iload (np := 66) (x := 7) (by decide +kernel) rfl l25 ?_
      refine x_iload (np := 68) (x := 8) (by decide +kernel) rfl (by first | decide | omega) ?_
      refine x_cP (t := 7) (mj := 148) (n := 2) (rc := 0) (ml := 2) (nr := 0) (np := 71) (as := [iv_c v24, iv_c v5124]) (rest := []) (lo1 := [iv_c v24, iv_c v5124]) (by decide +kernel) (by decide) (by decide +kernel) (Or.inl rfl) rfl rfl (x_wi l25 (x_wi (by first | decide | omega) x_wn)) x_wn (by decide) rfl (c148 j5129 (by first | decide | omega) (by first | decide | omega)) (fun v5138 l5139 q5140 => ?_)
      refine x_ifz (k := 1) (tg := 77) (np := 74) (by decide +kernel) (by decide) l5139 (fun q5141 => ?_) (fun q5142 => ?_)
      · have q5141 : v5138 ≠ 2147483648 := q5141
        refine x_iload (np := 79) (x := 8) (by decide +kernel) rfl (by first | decide | omega) ?_
        refine x_istore (np := 81) (x := 9) (lo' := [x_r 69, iv_c 2147483648, iv_c a2, iv_c a3, iv_c a4, iv_c a5, iv_c v20, iv_c v24, iv_c v5124, iv_c v5124]) (by decide +kernel) (by first | decide | omega) (Nat.le_of_ble_eq_true rfl) rfl ?_
        have p5271 : ∀ (n : Nat) (v5266 : Nat) (h5268 : xh), 4294967296 - v5266 < n → (2147483648 ≤ v5266 ∧ v5266 ≤ 2147483660) → J h5268 → Fr 65537 h5127 h5268 → X sc 276 (d + 21) (xV fun h' => J h' ∧ Fr 65537 h h') 0 0 81 [x_r 69, iv_c 2147483648, iv_c a2, iv_c a3, iv_c a4, iv_c a5, iv_c v20, iv_c v24, iv_c v5124, iv_c v5266] [] h5268 := by
          intro n
          induction n with
          | zero => intro v5266 h5268 q5272; exact absurd q5272 (Nat.not_lt_zero _)
          | succ n i5273 =>
            intro v5266 h5268 q5272 b5267 j5270 f5269
            have f5274 := Fr.trans f5133 f5269 (by decide)
            have f5275 := Fr.trans f5128 f5269 (by decide)
            refine x_iload (np := 83) (x := 9) (by decide +kernel) rfl (by first | decide | omega) ?_
            refine x_const (np := 85) (x := 9223372090541867020) (a := 2147483660) (by decide +kernel) (by decide) (by decide) ?_
            refine x_icmp (k := 3) (tg := 139) (np := 88) (by decide +kernel) (by decide) (by first | decide | omega) (by decide) (fun q5276 => ?_) (fun q5277 => ?_)
            · have q5276 : 2147483660 ≤ v5266 := q5276
              refine x_iinc (np := 142) (i := 8) (j := 2147483649) (v := (1 + v5124)) (lo' := [x_r 69, iv_c 2147483648, iv_c a2, iv_c a3, iv_c a4, iv_c a5, iv_c v20, iv_c v24, iv_c (1 + v5124), iv_c v5266]) (by decide +kernel) (by decide) (by decide) rfl (by first | decide | omega) (by first | decide | omega) (by first | decide | omega) rfl ?_
              refine x_goto (np := 145) (x := 50) (by decide +kernel) ?_
              exact i5132 (1 + v5124) (iv_c v5266) h5268 (by first | decide | omega) (by first | decide | omega) j5270 f5275
            have q5277 : ¬ (2147483660 ≤ v5266) := q5277
            refine x_iload (np := 90) (x := 6) (by decide +kernel) rfl l21 ?_
            refine x_iload (np := 92) (x := 9) (by decide +kernel) rfl (by first | decide | omega) ?_
            refine x_cP (t := 7) (mj := 148) (n := 2) (rc := 0) (ml := 2) (nr := 0) (np := 95) (as := [iv_c v20, iv_c v5266]) (rest := []) (lo1 := [iv_c v20, iv_c v5266]) (by decide +kernel) (by decide) (by decide +kernel) (Or.inl rfl) rfl rfl (x_wi l21 (x_wi (by first | decide | omega) x_wn)) x_wn (by decide) rfl (c148 j5270 (by first | decide | omega) (by first | decide | omega)) (fun v5278 l5279 q5280 => ?_)
            refine x_ifz (k := 0) (tg := 139) (np := 98) (by decide +kernel) (by decide) l5279 (fun q5281 => ?_) (fun q5282 => ?_)
            · have q5281 : v5278 = 2147483648 := q5281
              refine x_iinc (np := 142) (i := 8) (j := 2147483649) (v := (1 + v5124)) (lo' := [x_r 69, iv_c 2147483648, iv_c a2, iv_c a3, iv_c a4, iv_c a5, iv_c v20, iv_c v24, iv_c (1 + v5124), iv_c v5266]) (by decide +kernel) (by decide) (by decide) rfl (by first | decide | omega) (by first | decide | omega) (by first | decide | omega) rfl ?_
              refine x_goto (np := 145) (x := 50) (by decide +kernel) ?_
              exact i5132 (1 + v5124) (iv_c v5266) h5268 (by first | decide | omega) (by first | decide | omega) j5270 f5275
            have q5282 : ¬ (v5278 = 2147483648) := q5282
            refine x_aload (np := 99) (x := 0) (by decide +kernel) rfl (x_nc_le (by decide)) ?_
            refine x_nI (t := 8) (mj := 278) (n := 1) (rc := 13) (ml := 1) (nr := 0) (np := 102) (as := [x_r 69]) (rest := []) (lo1 := [x_r 69]) (by decide +kernel) (by decide) (by decide +kernel) (x_rb_of (by decide +kernel)) rfl rfl (x_wr (by decide) x_wn) x_wn (by decide) rfl ?_
            refine x_aload (np := 1) (x := 0) (by decide +kernel) rfl (x_nc_le (by decide)) ?_
            have b5283 := jB (e := 9) 0 j5270 rg_69_9_0_1 (by first | decide | omega) (by first | decide | omega)
            refine x_getC (np := 4) (x := 777) (f := 9) (q := (h5268 69 9)) (by decide +kernel) (by decide) (by decide +kernel) rfl (fun l5284 => ?_)
            refine x_ifz (k := 1) (tg := 21) (np := 7) (by decide +kernel) (by decide) l5284 (fun q5285 => ?_) (fun q5286 => ?_)
            · have q5285 : (h5268 69 9) ≠ 2147483648 := q5285
              refine x_const (np := 22) (x := 9223372043297226753) (a := 2147483649) (by decide +kernel) (by decide) (by decide) ?_
              refine x_goto (np := 25) (x := 26) (by decide +kernel) ?_
              refine x_retI (np := 27) (x := 0) (by decide +kernel) (by decide) (Or.inr ⟨by decide +kernel, by first | decide | omega, by first | decide | omega⟩) ⟨_, rfl, (by decide), ?_⟩
              refine x_ifz (k := 1) (tg := 139) (np := 105) (by decide +kernel) (by decide) (by decide) (fun q5287 => ?_) (fun q5288 => ?_)
              · have q5287 : 2147483649 ≠ 2147483648 := q5287
                refine x_iinc (np := 142) (i := 8) (j := 2147483649) (v := (1 + v5124)) (lo' := [x_r 69, iv_c 2147483648, iv_c a2, iv_c a3, iv_c a4, iv_c a5, iv_c v20, iv_c v24, iv_c (1 + v5124), iv_c v5266]) (by decide +kernel) (by decide) (by decide) rfl (by first | decide | omega) (by first | decide | omega) (by first | decide | omega) rfl ?_
                refine x_goto (np := 145) (x := 50) (by decide +kernel) ?_
                exact i5132 (1 + v5124) (iv_c v5266) h5268 (by first | decide | omega) (by first | decide | omega) j5270 f5275
              have q5288 : ¬ (2147483649 ≠ 2147483648) := q5288
              exfalso; omega
            have q5286 : ¬ ((h5268 69 9) ≠ 2147483648) := q5286
            refine x_aload (np := 8) (x := 0) (by decide +kernel) rfl (x_nc_le (by decide)) ?_
            refine x_getC (np := 11) (x := 776) (f := 8) (q := (h5268 69 8)) (by decide +kernel) (by decide) (by decide +kernel) rfl (fun l5289 => ?_)
            refine x_ifz (k := 5) (tg := 25) (np := 14) (by decide +kernel) (by decide) l5289 (fun q5290 => ?_) (fun q5291 => ?_)
            · have q5290 : (h5268 69 8) ≤ 2147483648 := q5290
              refine x_const (np := 26) (x := 9223372039002259456) (a := 2147483648) (by decide +kernel) (by decide) (by decide) ?_
              refine x_retI (np := 27) (x := 0) (by decide +kernel) (by decide) (Or.inr ⟨by decide +kernel, by first | decide | omega, by first | decide | omega⟩) ⟨_, rfl, (by decide), ?_⟩
              refine x_ifz (k := 1) (tg := 139) (np := 105) (by decide +kernel) (by decide) (by decide) (fun q5292 => ?_) (fun q5293 => ?_)
              · have q5292 : 2147483648 ≠ 2147483648 := q5292
                exfalso; omega
              have q5293 : ¬ (2147483648 ≠ 2147483648) := q5293
              refine x_iload (np := 107) (x := 9) (by decide +kernel) rfl (by first | decide | omega) ?_
              refine x_iload (np := 109) (x := 4) (by decide +kernel) rfl la4 ?_
              refine x_icmp (k := 2) (tg := 133) (np := 112) (by decide +kernel) (by decide) (by first | decide | omega) la4 (fun q5294 => ?_) (fun q5295 => ?_)
              · have q5294 : v5266 < a4 := q5294
                refine x_iinc (np := 136) (i := 9) (j := 2147483649) (v := (1 + v5266)) (lo' := [x_r 69, iv_c 2147483648, iv_c a2, iv_c a3, iv_c a4, iv_c a5, iv_c v20, iv_c v24, iv_c v5124, iv_c (1 + v5266)]) (by decide +kernel) (by decide) (by decide) rfl (by first | decide | omega) (by first | decide | omega) (by first | decide | omega) rfl ?_
                refine x_goto (np := 139) (x := 81) (by decide +kernel) ?_
                exact i5273 (1 + v5266) h5268 (by first | decide | omega) (by first | decide | omega) j5270 f5269
              have q5295 : ¬ (v5266 < a4) := q5295
              refine x_iload (np := 114) (x := 7) (by decide +kernel) rfl l25 ?_
              refine x_iload (np := 116) (x := 9) (by decide +kernel) rfl (by first | decide | omega) ?_
              refine x_cP (t := 7) (mj := 148) (n := 2) (rc := 0) (ml := 2) (nr := 0) (np := 119) (as := [iv_c v24, iv_c v5266]) (rest := []) (lo1 := [iv_c v24, iv_c v5266]) (by decide +kernel) (by decide) (by decide +kernel) (Or.inl rfl) rfl rfl (x_wi l25 (x_wi (by first | decide | omega) x_wn)) x_wn (by decide) rfl (c148 j5270 (by first | decide | omega) (by first | decide | omega)) (fun v5296 l5297 q5298 => ?_)
              refine x_ifz (k := 0) (tg := 133) (np := 122) (by decide +kernel) (by decide) l5297 (fun q5299 => ?_) (fun q5300 => ?_)
              · have q5299 : v5296 = 2147483648 := q5299
                refine x_iinc (np := 136) (i := 9) (j := 2147483649) (v := (1 + v5266)) (lo' := [x_r 69, iv_c 2147483648, iv_c a2, iv_c a3, iv_c a4, iv_c a5, iv_c v20, iv_c v24, iv_c v5124, iv_c (1 + v5266)]) (by decide +kernel) (by decide) (by decide) rfl (by first | decide | omega) (by first | decide | omega) (by first | decide | omega) rfl ?_
                refine x_goto (np := 139) (x := 81) (by decide +kernel) ?_
                exact i5273 (1 + v5266) h5268 (by first | decide | omega) (by first | decide | omega) j5270 f5269
              have q5300 : ¬ (v5296 = 2147483648) := q5300
              refine x_aload (np := 123) (x := 0) (by decide +kernel) rfl (x_nc_le (by decide)) ?_
              refine x_iload (np := 124) (x := 1) (by decide +kernel) rfl (by decide) ?_
              refine x_iload (np := 125) (x := 2) (by decide +kernel) rfl la2 ?_
              refine x_iload (np := 126) (x := 3) (by decide +kernel) rfl la3 ?_
              refine x_iload (np := 128) (x := 8) (by decide +kernel) rfl (by first | decide | omega) ?_
              refine x_iload (np := 130) (x := 9) (by decide +kernel) rfl (by first | decide | omega) ?_
              refine x_cV (t := 8) (mj := 277) (n := 6) (rc := 13) (ml := 7) (nr := 0) (np := 133) (as := [x_r 69, iv_c 2147483648, iv_c a2, iv_c a3, iv_c v5124, iv_c v5266]) (rest := []) (lo1 := [x_r 69, iv_c 2147483648, iv_c a2, iv_c a3, iv_c v5124, iv_c v5266, 147573952589676412928]) (by decide +kernel) (by decide) (by decide +kernel) (x_rb_of (by decide +kernel)) rfl rfl (x_wr (by decide) (x_wi (by decide) (x_wi la2 (x_wi la3 (x_wi (by first | decide | omega) (x_wi (by first | decide | omega) x_wn)))))) x_wn (by decide) rfl (c277_69_c0 j5270   (by first | decide | omega) (by first | decide | omega) (by first | decide | omega) (by first | decide | omega)) (fun h5304 q5303 => ?_)
              obtain ⟨j5305, f5306⟩ := q5303
              have f5309 := Fr.trans f5274 f5306 (by decide)
              have f5310 := Fr.trans f5275 f5306 (by decide)
              have f5311 := Fr.trans f5269 f5306 (by decide)
              refine x_iinc (np := 136) (i := 9) (j := 2147483649) (v := (1 + v5266)) (lo' := [x_r 69, iv_c 2147483648, iv_c a2, iv_c a3, iv_c a4, iv_c a5, iv_c v20, iv_c v24, iv_c v5124, iv_c (1 + v5266)]) (by decide +kernel) (by decide) (by decide) rfl (by first | decide | omega) (by first | decide | omega) (by first | decide | omega) rfl ?_
              refine x_goto (np := 139) (x := 81) (by decide +kernel) ?_
              exact i5273 (1 + v5266) h5304 (by first | decide | omega) (by first | decide | omega) j5305 f5311
            have q5291 : ¬ ((h5268 69 8) ≤ 2147483648) := q5291
            refine x_aload (np := 15) (x := 0) (by decide +kernel) rfl (x_nc_le (by decide)) ?_
            refine x_vI (P := fun r9 h9 => X sc 278 _ _ 0 0 18 [x_r 69] (iv_c r9 :: []) h9) (np := 18) (x := 5246977) (kk := 1) (cls := 5) (mj := 61) (ml := 1) (nr := 0) (rest := []) (lo1 := [x_r 69]) (by decide +kernel) (by decide) (by decide) (by decide) (by decide +kernel) (by decide +kernel) (by decide) (by decide +kernel) (by decide +kernel) x_wn (by decide) rfl ?_ (fun _ _ _ z => z)
            refine x_const (np := 1) (x := 9223372039002259456) (a := 2147483648) (by decide +kernel) (by decide) (by decide) ?_
            refine x_retI (np := 2) (x := 0) (by decide +kernel) (by decide) (Or.inr ⟨by decide +kernel, by first | decide | omega, by first | decide | omega⟩) ⟨_, rfl, (by decide), ?_⟩
            refine x_ifz (k := 0) (tg := 25) (np := 21) (by decide +kernel) (by decide) (by decide) (fun q5312 => ?_) (fun q5313 => ?_)
            · have q5312 : 2147483648 = 2147483648 := q5312
              refine x_const (np := 26) (x := 9223372039002259456) (a := 2147483648) (by decide +kernel) (by decide) (by decide) ?_
              refine x_retI (np := 27) (x := 0) (by decide +kernel) (by decide) (Or.inr ⟨by decide +kernel, by first | decide | omega, by first | decide | omega⟩) ⟨_, rfl, (by decide), ?_⟩
              refine x_ifz (k := 1) (tg := 139) (np := 105) (by decide +kernel) (by decide) (by decide) (fun q5314 => ?_) (fun q5315 => ?_)
              · have q5314 : 2147483648 ≠ 2147483648 := q5314
                exfalso; omega
              have q5315 : ¬ (2147483648 ≠ 2147483648) := q5315
              refine x_iload (np := 107) (x := 9) (by decide +kernel) rfl (by first | decide | omega) ?_
              refine x_iload (np := 109) (x := 4) (by decide +kernel) rfl la4 ?_
              refine x_icmp (k := 2) (tg := 133) (np := 112) (by decide +kernel) (by decide) (by first | decide | omega) la4 (fun q5316 => ?_) (fun q5317 => ?_)
              · have q5316 : v5266 < a4 := q5316
                refine x_iinc (np := 136) (i := 9) (j := 2147483649) (v := (1 + v5266)) (lo' := [x_r 69, iv_c 2147483648, iv_c a2, iv_c a3, iv_c a4, iv_c a5, iv_c v20, iv_c v24, iv_c v5124, iv_c (1 + v5266)]) (by decide +kernel) (by decide) (by decide) rfl (by first | decide | omega) (by first | decide | omega) (by first | decide | omega) rfl ?_
                refine x_goto (np := 139) (x := 81) (by decide +kernel) ?_
                exact i5273 (1 + v5266) h5268 (by first | decide | omega) (by first | decide | omega) j5270 f5269
              have q5317 : ¬ (v5266 < a4) := q5317
              refine x_iload (np := 114) (x := 7) (by decide +kernel) rfl l25 ?_
              refine x_iload (np := 116) (x := 9) (by decide +kernel) rfl (by first | decide | omega) ?_
              refine x_cP (t := 7) (mj := 148) (n := 2) (rc := 0) (ml := 2) (nr := 0) (np := 119) (as := [iv_c v24, iv_c v5266]) (rest := []) (lo1 := [iv_c v24, iv_c v5266]) (by decide +kernel) (by decide) (by decide +kernel) (Or.inl rfl) rfl rfl (x_wi l25 (x_wi (by first | decide | omega) x_wn)) x_wn (by decide) rfl (c148 j5270 (by first | decide | omega) (by first | decide | omega)) (fun v5318 l5319 q5320 => ?_)
              refine x_ifz (k := 0) (tg := 133) (np := 122) (by decide +kernel) (by decide) l5319 (fun q5321 => ?_) (fun q5322 => ?_)
              · have q5321 : v5318 = 2147483648 := q5321
                refine x_iinc (np := 136) (i := 9) (j := 2147483649) (v := (1 + v5266)) (lo' := [x_r 69, iv_c 2147483648, iv_c a2, iv_c a3, iv_c a4, iv_c a5, iv_c v20, iv_c v24, iv_c v5124, iv_c (1 + v5266)]) (by decide +kernel) (by decide) (by decide) rfl (by first | decide | omega) (by first | decide | omega) (by first | decide | omega) rfl ?_
                refine x_goto (np := 139) (x := 81) (by decide +kernel) ?_
                exact i5273 (1 + v5266) h5268 (by first | decide | omega) (by first | decide | omega) j5270 f5269
              have q5322 : ¬ (v5318 = 2147483648) := q5322
              refine x_aload (np := 123) (x := 0) (by decide +kernel) rfl (x_nc_le (by decide)) ?_
              refine x_iload (np := 124) (x := 1) (by decide +kernel) rfl (by decide) ?_
              refine x_iload (np := 125) (x := 2) (by decide +kernel) rfl la2 ?_
              refine x_iload (np := 126) (x := 3) (by decide +kernel) rfl la3 ?_
              refine x_iload (np := 128) (x := 8) (by decide +kernel) rfl (by first | decide | omega) ?_
              refine x_iload (np := 130) (x := 9) (by decide +kernel) rfl (by first | decide | omega) ?_
              refine x_cV (t := 8) (mj := 277) (n := 6) (rc := 13) (ml := 7) (nr := 0) (np := 133) (as := [x_r 69, iv_c 2147483648, iv_c a2, iv_c a3, iv_c v5124, iv_c v5266]) (rest := []) (lo1 := [x_r 69, iv_c 2147483648, iv_c a2, iv_c a3, iv_c v5124, iv_c v5266, 147573952589676412928]) (by decide +kernel) (by decide) (by decide +kernel) (x_rb_of (by decide +kernel)) rfl rfl (x_wr (by decide) (x_wi (by decide) (x_wi la2 (x_wi la3 (x_wi (by first | decide | omega) (x_wi (by first | decide | omega) x_wn)))))) x_wn (by decide) rfl (c277_69_c0 j5270   (by first | decide | omega) (by first | decide | omega) (by first | decide | omega) (by first | decide | omega)) (fun h5326 q5325 => ?_)
              obtain ⟨j5327, f5328⟩ := q5325
              have f5331 := Fr.trans f5274 f5328 (by decide)
              have f5332 := Fr.trans f5275 f5328 (by decide)
              have f5333 := Fr.trans f5269 f5328 (by decide)
              refine x_iinc (np := 136) (i := 9) (j := 2147483649) (v := (1 + v5266)) (lo' := [x_r 69, iv_c 2147483648, iv_c a2, iv_c a3, iv_c a4, iv_c a5, iv_c v20, iv_c v24, iv_c v5124, iv_c (1 + v5266)]) (by decide +kernel) (by decide) (by decide) rfl (by first | decide | omega) (by first | decide | omega) (by first | decide | omega) rfl ?_
              refine x_goto (np := 139) (x := 81) (by decide +kernel) ?_
              exact i5273 (1 + v5266) h5326 (by first | decide | omega) (by first | decide | omega) j5327 f5333
            have q5313 : ¬ (2147483648 = 2147483648) := q5313
            exfalso; omega
        exact p5271 _ v5124 h5127 (Nat.lt_succ_self _) (by first | decide | omega) j5129 (Fr.refl _ _)
      have q5142 : ¬ (v5138 ≠ 2147483648) := q5142
      refine x_goto (np := 77) (x := 139) (by decide +kernel) ?_
      refine x_iinc (np := 142) (i := 8) (j := 2147483649) (v := (1 + v5124)) (lo' := [x_r 69, iv_c 2147483648, iv_c a2, iv_c a3, iv_c a4, iv_c a5, iv_c v20, iv_c v24, iv_c (1 + v5124), w5126]) (by decide +kernel) (by decide) (by decide) rfl (by first | decide | omega) (by first | decide | omega) (by first | decide | omega) rfl ?_
      refine x_goto (np := 145) (x := 50) (by decide +kernel) ?_
      exact i5132 (1 + v5124) w5126 h5127 (by first | decide | omega) (by first | decide | omega) j5129 f5128
  exact p5130 _ 2147483648 147573952589676412928 h (Nat.lt_succ_self _) (by first | decide | omega) hJ (Fr.refl _ _)
set_option maxHeartbeats 0 in
/-- LentNames$Search.mend(I)V -/
theorem c275_69_c0 {sc : Nat × Nat} {d  : Nat} {h : xh} (hJ : J h) : X sc 275 (d + 22) (xV fun h' => J h' ∧ Fr 65537 h h') 0 0 0 [x_r 69, iv_c 2147483648, 147573952589676412928, 147573952589676412928, 147573952589676412928, 147573952589676412928, 147573952589676412928, 147573952589676412928] [] h := by
  have hF := Fr.refl 65537 h
  refine x_aload (np := 1) (x := 0) (by decide +kernel) rfl (x_nc_le (by decide)) ?_
  refine x_getC (np := 4) (x := 778) (f := 10) (q := (h 69 10)) (by decide +kernel) (by decide) (by decide +kernel) rfl (fun l1 => ?_)
  refine x_istore (np := 5) (x := 2) (lo' := [x_r 69, iv_c 2147483648, iv_c (h 69 10), 147573952589676412928, 147573952589676412928, 147573952589676412928, 147573952589676412928, 147573952589676412928]) (by decide +kernel) l1 (Nat.le_of_ble_eq_true rfl) rfl ?_
  refine x_aload (np := 6) (x := 0) (by decide +kernel) rfl (x_nc_le (by decide)) ?_
  refine x_getC (np := 9) (x := 779) (f := 11) (q := (h 69 11)) (by decide +kernel) (by decide) (by decide +kernel) rfl (fun l2 => ?_)
  refine x_istore (np := 10) (x := 3) (lo' := [x_r 69, iv_c 2147483648, iv_c (h 69 10), iv_c (h 69 11), 147573952589676412928, 147573952589676412928, 147573952589676412928, 147573952589676412928]) (by decide +kernel) l2 (Nat.le_of_ble_eq_true rfl) rfl ?_
  refine x_aload (np := 11) (x := 0) (by decide +kernel) rfl (x_nc_le (by decide)) ?_
  refine x_getC (np := 14) (x := 780) (f := 12) (q := (h 69 12)) (by decide +kernel) (by decide) (by decide +kernel) rfl (fun l3 => ?_)
  refine x_istore (np := 16) (x := 4) (lo' := [x_r 69, iv_c 2147483648, iv_c (h 69 10), iv_c (h 69 11), iv_c (h 69 12), 147573952589676412928, 147573952589676412928, 147573952589676412928]) (by decide +kernel) l3 (Nat.le_of_ble_eq_true rfl) rfl ?_
  refine x_aload (np := 17) (x := 0) (by decide +kernel) rfl (x_nc_le (by decide)) ?_
  refine x_getC (np := 20) (x := 781) (f := 13) (q := (h 69 13)) (by decide +kernel) (by decide) (by decide +kernel) rfl (fun l4 => ?_)
  refine x_istore (np := 22) (x := 5) (lo' := [x_r 69, iv_c 2147483648, iv_c (h 69 10), iv_c (h 69 11), iv_c (h 69 12), iv_c (h 69 13), 147573952589676412928, 147573952589676412928]) (by decide +kernel) l4 (Nat.le_of_ble_eq_true rfl) rfl ?_
  refine x_const (np := 23) (x := 9223372039002259456) (a := 2147483648) (by decide +kernel) (by decide) (by decide) ?_
  refine x_istore (np := 25) (x := 6) (lo' := [x_r 69, iv_c 2147483648, iv_c (h 69 10), iv_c (h 69 11), iv_c (h 69 12), iv_c (h 69 13), iv_c 2147483648, 147573952589676412928]) (by decide +kernel) (by decide) (Nat.le_of_ble_eq_true rfl) rfl ?_
  have p1452 : ∀ (n : Nat) (v1446 : Nat) (w1448 : Nat) (h1449 : xh), 4294967296 - v1446 < n → (2147483648 ≤ v1446 ∧ v1446 ≤ 2147483654) → J h1449 → Fr 65537 h h1449 → X sc 275 (d + 22) (xV fun h' => J h' ∧ Fr 65537 h h') 0 0 25 [x_r 69, iv_c 2147483648, iv_c (h 69 10), iv_c (h 69 11), iv_c (h 69 12), iv_c (h 69 13), iv_c v1446, w1448] [] h1449 := by
    intro n
    induction n with
    | zero => intro v1446 w1448 h1449 q1453; exact absurd q1453 (Nat.not_lt_zero _)
    | succ n i1454 =>
      intro v1446 w1448 h1449 q1453 b1447 j1451 f1450
      have f1455 := Fr.trans hF f1450 (by decide)
      refine x_iload (np := 27) (x := 6) (by decide +kernel) rfl (by first | decide | omega) ?_
      refine x_aload (np := 28) (x := 0) (by decide +kernel) rfl (x_nc_le (by decide)) ?_
      have t1456 : tw (h1449 69 6) := j1451.2.2.2.2.2.2.1
      refine x_getR (np := 31) (x := 774) (f := 6) (q := (h1449 69 6)) (by decide +kernel) (by decide) (by decide +kernel) rfl ?_
      have q1457 : h1449 (h1449 69 6) 7 = h (h1449 69 6) 7 := jK 0 f1450 (rg_T0_7_0_1 t1456) (by first | decide | omega) (by first | decide | omega) (by decide)
      have b1458 := jB (e := 7) 0 hJ (rg_T0_7_0_1 t1456) (by first | decide | omega) (by first | decide | omega)
      refine x_getC (np := 34) (x := 519) (f := 7) (q := (h (h1449 69 6) 7)) (by decide +kernel) (by decide) (tg_0_519_7_0 t1456) q1457 (fun l1459 => ?_)
      refine x_icmp (k := 3) (tg := 95) (np := 37) (by decide +kernel) (by decide) (by first | decide | omega) l1459 (fun q1460 => ?_) (fun q1461 => ?_)
      · have q1460 : (h (h1449 69 6) 7) ≤ v1446 := q1460
        refine x_retV (np := 96) (x := 0) (by decide +kernel) (by decide +kernel) ⟨rfl, ?_⟩
        exact ⟨j1451, f1455⟩
      have q1461 : ¬ ((h (h1449 69 6) 7) ≤ v1446) := q1461
      refine x_const (np := 38) (x := 9223372039002259456) (a := 2147483648) (by decide +kernel) (by decide) (by decide) ?_
      refine x_istore (np := 40) (x := 7) (lo' := [x_r 69, iv_c 2147483648, iv_c (h 69 10), iv_c (h 69 11), iv_c (h 69 12), iv_c (h 69 13), iv_c v1446, iv_c 2147483648]) (by decide +kernel) (by decide) (Nat.le_of_ble_eq_true rfl) rfl ?_
      have p1659 : ∀ (n : Nat) (v1654 : Nat) (h1656 : xh), 4294967296 - v1654 < n → (2147483648 ≤ v1654 ∧ v1654 ≤ 2147483654) → J h1656 → Fr 65537 h1449 h1656 → X sc 275 (d + 22) (xV fun h' => J h' ∧ Fr 65537 h h') 0 0 40 [x_r 69, iv_c 2147483648, iv_c (h 69 10), iv_c (h 69 11), iv_c (h 69 12), iv_c (h 69 13), iv_c v1446, iv_c v1654] [] h1656 := by
        intro n
        induction n with
        | zero => intro v1654 h1656 q1660; exact absurd q1660 (Nat.not_lt_zero _)
        | succ n i1661 =>
          intro v1654 h1656 q1660 b1655 j1658 f1657
          have f1662 := Fr.trans f1455 f1657 (by decide)
          have f1663 := Fr.trans f1450 f1657 (by decide)
          refine x_iload (np := 42) (x := 7) (by decide +kernel) rfl (by first | decide | omega) ?_
          refine x_aload (np := 43) (x := 0) (by decide +kernel) rfl (x_nc_le (by decide)) ?_
          have t1664 : tw (h1656 69 6) := j1658.2.2.2.2.2.2.1
          refine x_getR (np := 46) (x := 774) (f := 6) (q := (h1656 69 6)) (by decide +kernel) (by decide) (by decide +kernel) rfl ?_
          have q1665 : h1656 (h1656 69 6) 7 = h1449 (h1656 69 6) 7 := jK 0 f1657 (rg_T0_7_0_1 t1664) (by first | decide | omega) (by first | decide | omega) (by decide)
          have q1666 : h1449 (h1656 69 6) 7 = h (h1656 69 6) 7 := jK 0 f1450 (rg_T0_7_0_1 t1664) (by first | decide | omega) (by first | decide | omega) (by decide)
          have b1667 := jB (e := 7) 0 hJ (rg_T0_7_0_1 t1664) (by first | decide | omega) (by first | decide | omega)
          refine x_getC (np := 49) (x := 519) (f := 7) (q := (h (h1656 69 6) 7)) (by decide +kernel) (by decide) (tg_0_519_7_0 t1664) (q1665.trans q1666) (fun l1668 => ?_)
          refine x_icmp (k := 3) (tg := 89) (np := 52) (by decide +kernel) (by decide) (by first | decide | omega) l1668 (fun q1669 => ?_) (fun q1670 => ?_)
          · have q1669 : (h (h1656 69 6) 7) ≤ v1654 := q1669
            refine x_iinc (np := 92) (i := 6) (j := 2147483649) (v := (1 + v1446)) (lo' := [x_r 69, iv_c 2147483648, iv_c (h 69 10), iv_c (h 69 11), iv_c (h 69 12), iv_c (h 69 13), iv_c (1 + v1446), iv_c v1654]) (by decide +kernel) (by decide) (by decide) rfl (by first | decide | omega) (by first | decide | omega) (by first | decide | omega) rfl ?_
            refine x_goto (np := 95) (x := 25) (by decide +kernel) ?_
            exact i1454 (1 + v1446) (iv_c v1654) h1656 (by first | decide | omega) (by first | decide | omega) j1658 f1663
          have q1670 : ¬ ((h (h1656 69 6) 7) ≤ v1654) := q1670
          refine x_iload (np := 53) (x := 2) (by decide +kernel) rfl l1 ?_
          refine x_iload (np := 55) (x := 6) (by decide +kernel) rfl (by first | decide | omega) ?_
          refine x_cP (t := 7) (mj := 148) (n := 2) (rc := 0) (ml := 2) (nr := 0) (np := 58) (as := [iv_c (h 69 10), iv_c v1446]) (rest := []) (lo1 := [iv_c (h 69 10), iv_c v1446]) (by decide +kernel) (by decide) (by decide +kernel) (Or.inl rfl) rfl rfl (x_wi l1 (x_wi (by first | decide | omega) x_wn)) x_wn (by decide) rfl (c148 j1658 (by first | decide | omega) (by first | decide | omega)) (fun v1671 l1672 q1673 => ?_)
          refine x_ifz (k := 0) (tg := 83) (np := 61) (by decide +kernel) (by decide) l1672 (fun q1674 => ?_) (fun q1675 => ?_)
          · have q1674 : v1671 = 2147483648 := q1674
            refine x_iinc (np := 86) (i := 7) (j := 2147483649) (v := (1 + v1654)) (lo' := [x_r 69, iv_c 2147483648, iv_c (h 69 10), iv_c (h 69 11), iv_c (h 69 12), iv_c (h 69 13), iv_c v1446, iv_c (1 + v1654)]) (by decide +kernel) (by decide) (by decide) rfl (by first | decide | omega) (by first | decide | omega) (by first | decide | omega) rfl ?_
            refine x_goto (np := 89) (x := 40) (by decide +kernel) ?_
            exact i1661 (1 + v1654) h1656 (by first | decide | omega) (by first | decide | omega) j1658 f1657
          have q1675 : ¬ (v1671 = 2147483648) := q1675
          refine x_iload (np := 62) (x := 3) (by decide +kernel) rfl l2 ?_
          refine x_iload (np := 64) (x := 7) (by decide +kernel) rfl (by first | decide | omega) ?_
          refine x_cP (t := 7) (mj := 148) (n := 2) (rc := 0) (ml := 2) (nr := 0) (np := 67) (as := [iv_c (h 69 11), iv_c v1654]) (rest := []) (lo1 := [iv_c (h 69 11), iv_c v1654]) (by decide +kernel) (by decide) (by decide +kernel) (Or.inl rfl) rfl rfl (x_wi l2 (x_wi (by first | decide | omega) x_wn)) x_wn (by decide) rfl (c148 j1658 (by first | decide | omega) (by first | decide | omega)) (fun v1676 l1677 q1678 => ?_)
          refine x_ifz (k := 0) (tg := 83) (np := 70) (by decide +kernel) (by decide) l1677 (fun q1679 => ?_) (fun q1680 => ?_)
          · have q1679 : v1676 = 2147483648 := q1679
            refine x_iinc (np := 86) (i := 7) (j := 2147483649) (v := (1 + v1654)) (lo' := [x_r 69, iv_c 2147483648, iv_c (h 69 10), iv_c (h 69 11), iv_c (h 69 12), iv_c (h 69 13), iv_c v1446, iv_c (1 + v1654)]) (by decide +kernel) (by decide) (by decide) rfl (by first | decide | omega) (by first | decide | omega) (by first | decide | omega) rfl ?_
            refine x_goto (np := 89) (x := 40) (by decide +kernel) ?_
            exact i1661 (1 + v1654) h1656 (by first | decide | omega) (by first | decide | omega) j1658 f1657
          have q1680 : ¬ (v1676 = 2147483648) := q1680
          refine x_aload (np := 71) (x := 0) (by decide +kernel) rfl (x_nc_le (by decide)) ?_
          refine x_iload (np := 72) (x := 1) (by decide +kernel) rfl (by decide) ?_
          refine x_iload (np := 74) (x := 6) (by decide +kernel) rfl (by first | decide | omega) ?_
          refine x_iload (np := 76) (x := 7) (by decide +kernel) rfl (by first | decide | omega) ?_
          refine x_iload (np := 78) (x := 4) (by decide +kernel) rfl l3 ?_
          refine x_iload (np := 80) (x := 5) (by decide +kernel) rfl l4 ?_
          refine x_cV (t := 8) (mj := 276) (n := 6) (rc := 13) (ml := 10) (nr := 0) (np := 83) (as := [x_r 69, iv_c 2147483648, iv_c v1446, iv_c v1654, iv_c (h 69 12), iv_c (h 69 13)]) (rest := []) (lo1 := [x_r 69, iv_c 2147483648, iv_c v1446, iv_c v1654, iv_c (h 69 12), iv_c (h 69 13), 147573952589676412928, 147573952589676412928, 147573952589676412928, 147573952589676412928]) (by decide +kernel) (by decide) (by decide +kernel) (x_rb_of (by decide +kernel)) rfl rfl (x_wr (by decide) (x_wi (by decide) (x_wi (by first | decide | omega) (x_wi (by first | decide | omega) (x_wi l3 (x_wi l4 x_wn)))))) x_wn (by decide) rfl (c276_69_c0 j1658   (by first | decide | omega) (by first | decide | omega) (by first | decide | omega) (by first | decide | omega)) (fun h1684 q1683 => ?_)
          obtain ⟨j1685, f1686⟩ := q1683
          have f1689 := Fr.trans f1662 f1686 (by decide)
          have f1690 := Fr.trans f1663 f1686 (by decide)
          have f1691 := Fr.trans f1657 f1686 (by decide)
          refine x_iinc (np := 86) (i := 7) (j := 2147483649) (v := (1 + v1654)) (lo' := [x_r 69, iv_c 2147483648, iv_c (h 69 10), iv_c (h 69 11), iv_c (h 69 12), iv_c (h 69 13), iv_c v1446, iv_c (1 + v1654)]) (by decide +kernel) (by decide) (by decide) rfl (by first | decide | omega) (by first | decide | omega) (by first | decide | omega) rfl ?_
          refine x_goto (np := 89) (x := 40) (by decide +kernel) ?_
          exact i1661 (1 + v1654) h1684 (by first | decide | omega) (by first | decide | omega) j1685 f1691
      exact p1659 _ 2147483648 h1449 (Nat.lt_succ_self _) (by first | decide | omega) j1451 (Fr.refl _ _)
  exact p1452 _ 2147483648 147573952589676412928 h (Nat.lt_succ_self _) (by first | decide | omega) hJ (Fr.refl _ _)
set_option maxHeartbeats 0 in
/-- LentNames$Search.keepSet(I)V -/
theorem c279_69_c0 {sc : Nat × Nat} {d  : Nat} {h : xh} (hJ : J h) : X sc 279 d (xV fun h' => J h' ∧ Fr 65537 h h') 0 0 0 [x_r 69, iv_c 2147483648, 147573952589676412928, 147573952589676412928] [] h := by
  have hF := Fr.refl 65537 h
  refine x_aload (np := 1) (x := 0) (by decide +kernel) rfl (x_nc_le (by decide)) ?_
  refine x_dup (np := 2) (x := 0) (by decide +kernel) (by have z := x_nc_le (k := 69) (by decide); unfold x_r; omega) ?_
  refine x_getC (np := 5) (x := 776) (f := 8) (q := (h 69 8)) (by decide +kernel) (by decide) (by decide +kernel) rfl (fun l1 => ?_)
  refine x_const (np := 6) (x := 9223372043297226753) (a := 2147483649) (by decide +kernel) (by decide) (by decide) ?_
  refine x_addA (by rw [tb_b279]; decide +kernel) l1 (by decide) (fun v2 l3 => ?_)
  refine x_putI (np := 10) (x := 776) (f := 8) (by decide +kernel) (by decide +kernel) l3 (Or.inl (by decide)) ?_
  have j5 := jU (e := 8) (v := v2) 0 hJ rg_69_8_0_1 (by first | decide | omega) (by first | decide | omega) (by first | decide | omega)
  have f7 := jF (e := 8) (v := v2) 0 hF rg_69_8_0_1 (by first | decide | omega) (by first | decide | omega) (by decide)
  generalize e6 : x_up h 69 8 v2 = h4 at j5 f7 ⊢
  refine x_aload (np := 11) (x := 0) (by decide +kernel) rfl (x_nc_le (by decide)) ?_
  have q8 : h4 69 8 = v2 := by rw [← e6]; exact x_up_at
  refine x_getC (np := 14) (x := 776) (f := 8) (q := v2) (by decide +kernel) (by decide) (by decide +kernel) q8 (fun l9 => ?_)
  refine x_const (np := 15) (x := 9223372043297226753) (a := 2147483649) (by decide +kernel) (by decide) (by decide) ?_
  refine x_icmp (k := 5) (tg := 19) (np := 18) (by decide +kernel) (by decide) l3 (by decide) (fun q10 => ?_) (fun q11 => ?_)
  · have q10 : v2 ≤ 2147483649 := q10
    refine x_aload (np := 20) (x := 0) (by decide +kernel) rfl (x_nc_le (by decide)) ?_
    refine x_iload (np := 21) (x := 1) (by decide +kernel) rfl (by decide) ?_
    refine x_putI (np := 24) (x := 783) (f := 15) (by decide +kernel) (by decide +kernel) (by decide) (Or.inl (by decide)) ?_
    have j13 := jU (e := 15) (v := 2147483648) 0 j5 rg_69_15_0_1 (by first | decide | omega) (by first | decide | omega) (by first | decide | omega)
    have f15 := jF (e := 15) (v := 2147483648) 0 f7 rg_69_15_0_1 (by first | decide | omega) (by first | decide | omega) (by decide)
    generalize e14 : x_up h4 69 15 2147483648 = h12 at j13 f15 ⊢
    refine x_const (np := 25) (x := 9223372039002259456) (a := 2147483648) (by decide +kernel) (by decide) (by decide) ?_
    refine x_istore (np := 26) (x := 2) (lo' := [x_r 69, iv_c 2147483648, iv_c 2147483648, 147573952589676412928]) (by decide +kernel) (by decide) (Nat.le_of_ble_eq_true rfl) rfl ?_
    have p26 : ∀ (n : Nat) (v23 : Nat) (w25 : Nat), 0 < n → (2147483648 ≤ v23 ∧ v23 ≤ 2147483648) → X sc 279 d (xV fun h' => J h' ∧ Fr 65537 h h') 0 0 26 [x_r 69, iv_c 2147483648, iv_c v23, w25] [] h12 := by
      intro n
      induction n with
      | zero => intro v23 w25 q27; exact absurd q27 (Nat.not_lt_zero _)
      | succ n i28 =>
        intro v23 w25 q27 b24
        refine x_iload (np := 27) (x := 2) (by decide +kernel) rfl (by first | decide | omega) ?_
        refine x_aload (np := 28) (x := 0) (by decide +kernel) rfl (x_nc_le (by decide)) ?_
        have q29 : h12 69 15 = 2147483648 := by rw [← e14]; exact x_up_at
        refine x_getC (np := 31) (x := 783) (f := 15) (q := 2147483648) (by decide +kernel) (by decide) (by decide +kernel) q29 (fun l30 => ?_)
        refine x_icmp (k := 3) (tg := 95) (np := 34) (by decide +kernel) (by decide) (by first | decide | omega) (by decide) (fun q31 => ?_) (fun q32 => ?_)
        · have q31 : 2147483648 ≤ v23 := q31
          refine x_retV (np := 96) (x := 0) (by decide +kernel) (by decide +kernel) ⟨rfl, ?_⟩
          exact ⟨j13, f15⟩
        have q32 : ¬ (2147483648 ≤ v23) := q32
        exfalso; omega
    exact p26 _ 2147483648 147573952589676412928 (Nat.lt_succ_self _) (by first | decide | omega)
  have q11 : ¬ (v2 ≤ 2147483649) := q11
  refine x_retV (np := 19) (x := 0) (by decide +kernel) (by decide +kernel) ⟨rfl, ?_⟩
  exact ⟨j5, f7⟩
set_option maxHeartbeats 0 in
/-- LentNames$Search.come(I)V -/
theorem c274_69_c0 {sc : Nat × Nat} {d  : Nat} {h : xh} (hJ : J h) : X sc 274 (d + 23) (xV fun h' => J h' ∧ Fr 65537 h h') 0 0 0 [x_r 69, iv_c 2147483648] [] h := by
  have hF := Fr.refl 65537 h
  refine x_aload (np := 1) (x := 0) (by decide +kernel) rfl (x_nc_le (by decide)) ?_
  refine x_dup (np := 2) (x := 0) (by decide +kernel) (by have z := x_nc_le (k := 69) (by decide); unfold x_r; omega) ?_
  refine x_getC (np := 5) (x := 785) (f := 17) (q := (h 69 17)) (by decide +kernel) (by decide) (by decide +kernel) rfl (fun l1 => ?_)
  refine x_const (np := 6) (x := 9223372043297226753) (a := 2147483649) (by decide +kernel) (by decide) (by decide) ?_
  refine x_addA (by rw [tb_b274]; decide +kernel) l1 (by decide) (fun v2 l3 => ?_)
  refine x_putI (np := 10) (x := 785) (f := 17) (by decide +kernel) (by decide +kernel) l3 (Or.inl (by decide)) ?_
  have j5 := jU (e := 17) (v := v2) 0 hJ rg_69_17_0_1 (by first | decide | omega) (by first | decide | omega) (by first | decide | omega)
  have f7 := jF (e := 17) (v := v2) 0 hF rg_69_17_0_1 (by first | decide | omega) (by first | decide | omega) (by decide)
  generalize e6 : x_up h 69 17 v2 = h4 at j5 f7 ⊢
  refine x_aload (np := 11) (x := 0) (by decide +kernel) rfl (x_nc_le (by decide)) ?_
  have q8 : h4 69 17 = v2 := by rw [← e6]; exact x_up_at
  refine x_getC (np := 14) (x := 785) (f := 17) (q := v2) (by decide +kernel) (by decide) (by decide +kernel) q8 (fun l9 => ?_)
  refine x_const (np := 17) (x := 9223457938348199456) (a := 2147503648) (by decide +kernel) (by decide) (by decide) ?_
  refine x_icmp (k := 5) (tg := 28) (np := 20) (by decide +kernel) (by decide) l3 (by decide) (fun q10 => ?_) (fun q11 => ?_)
  · have q10 : v2 ≤ 2147503648 := q10
    refine x_aload (np := 29) (x := 0) (by decide +kernel) rfl (x_nc_le (by decide)) ?_
    refine x_vI (np := 32) (x := 5246979) (kk := 3) (cls := 5) (mj := 63) (ml := 3) (nr := 0) (rest := []) (lo1 := [x_r 69, 147573952589676412928, 147573952589676412928]) (by decide +kernel) (by decide) (by decide) (by decide) (by decide +kernel) (by decide +kernel) (by decide) (by decide +kernel) (by decide +kernel) x_wn (by decide) rfl (c63_69 j5) (fun v12 h15 l13 q14 => ?_)
    obtain ⟨j16, f17, b18⟩ := q14
    have f19 := Fr.trans f7 f17 (by decide)
    refine x_ifz (k := 1) (tg := 43) (np := 35) (by decide +kernel) (by decide) l13 (fun q20 => ?_) (fun q21 => ?_)
    · have q20 : v12 ≠ 2147483648 := q20
      refine x_iload (np := 44) (x := 1) (by decide +kernel) rfl (by decide) ?_
      refine x_aload (np := 45) (x := 0) (by decide +kernel) rfl (x_nc_le (by decide)) ?_
      refine x_getC (np := 48) (x := 784) (f := 16) (q := (h15 69 16)) (by decide +kernel) (by decide) (by decide +kernel) rfl (fun l22 => ?_)
      refine x_icmp (k := 3) (tg := 61) (np := 51) (by decide +kernel) (by decide) (by decide) l22 (fun q23 => ?_) (fun q24 => ?_)
      · have q23 : (h15 69 16) ≤ 2147483648 := q23
        refine x_retV (np := 62) (x := 0) (by decide +kernel) (by decide +kernel) ⟨rfl, ?_⟩
        exact ⟨j16, f19⟩
      have q24 : ¬ ((h15 69 16) ≤ 2147483648) := q24
      refine x_iload (np := 52) (x := 1) (by decide +kernel) rfl (by decide) ?_
      refine x_const (np := 53) (x := 9223372060477095941) (a := 2147483653) (by decide +kernel) (by decide) (by decide) ?_
      refine x_icmp (k := 3) (tg := 61) (np := 56) (by decide +kernel) (by decide) (by decide) (by decide) (fun q25 => ?_) (fun q26 => ?_)
      · have q25 : 2147483653 ≤ 2147483648 := q25
        exfalso; omega
      have q26 : ¬ (2147483653 ≤ 2147483648) := q26
      refine x_aload (np := 57) (x := 0) (by decide +kernel) rfl (x_nc_le (by decide)) ?_
      refine x_iload (np := 58) (x := 1) (by decide +kernel) rfl (by decide) ?_
      refine x_cV (t := 8) (mj := 275) (n := 2) (rc := 13) (ml := 8) (nr := 0) (np := 61) (as := [x_r 69, iv_c 2147483648]) (rest := []) (lo1 := [x_r 69, iv_c 2147483648, 147573952589676412928, 147573952589676412928, 147573952589676412928, 147573952589676412928, 147573952589676412928, 147573952589676412928]) (by decide +kernel) (by decide) (by decide +kernel) (x_rb_of (by decide +kernel)) rfl rfl (x_wr (by decide) (x_wi (by decide) x_wn)) x_wn (by decide) rfl (c275_69_c0 j16  ) (fun h30 q29 => ?_)
      obtain ⟨j31, f32⟩ := q29
      have f35 := Fr.trans f19 f32 (by decide)
      refine x_retV (np := 62) (x := 0) (by decide +kernel) (by decide +kernel) ⟨rfl, ?_⟩
      exact ⟨j31, f35⟩
    have q21 : ¬ (v12 ≠ 2147483648) := q21
    refine x_aload (np := 36) (x := 0) (by decide +kernel) rfl (x_nc_le (by decide)) ?_
    refine x_iload (np := 37) (x := 1) (by decide +kernel) rfl (by decide) ?_
    refine x_cV (t := 8) (mj := 279) (n := 2) (rc := 13) (ml := 4) (nr := 0) (np := 40) (as := [x_r 69, iv_c 2147483648]) (rest := []) (lo1 := [x_r 69, iv_c 2147483648, 147573952589676412928, 147573952589676412928]) (by decide +kernel) (by decide) (by decide +kernel) (x_rb_of (by decide +kernel)) rfl rfl (x_wr (by decide) (x_wi (by decide) x_wn)) x_wn (by decide) rfl (c279_69_c0 j16  ) (fun h39 q38 => ?_)
    obtain ⟨j40, f41⟩ := q38
    have f44 := Fr.trans f19 f41 (by decide)
    refine x_goto (np := 43) (x := 61) (by decide +kernel) ?_
    refine x_retV (np := 62) (x := 0) (by decide +kernel) (by decide +kernel) ⟨rfl, ?_⟩
    exact ⟨j40, f44⟩
  have q11 : ¬ (v2 ≤ 2147503648) := q11
  refine x_aload (np := 21) (x := 0) (by decide +kernel) rfl (x_nc_le (by decide)) ?_
  refine x_const (np := 22) (x := 9223372043297226753) (a := 2147483649) (by decide +kernel) (by decide) (by decide) ?_
  refine x_putI (np := 25) (x := 4873) (f := 9) (by decide +kernel) (by decide +kernel) (by decide) (Or.inr ⟨by decide, by first | decide | omega, by first | decide | omega⟩) ?_
  have j46 := jU (e := 9) (v := 2147483649) 0 j5 rg_69_9_0_1 (by first | decide | omega) (by first | decide | omega) (by first | decide | omega)
  have f48 := jF (e := 9) (v := 2147483649) 0 f7 rg_69_9_0_1 (by first | decide | omega) (by first | decide | omega) (by decide)
  generalize e47 : x_up h4 69 9 2147483649 = h45 at j46 f48 ⊢
  refine x_goto (np := 28) (x := 61) (by decide +kernel) ?_
  refine x_retV (np := 62) (x := 0) (by decide +kernel) (by decide +kernel) ⟨rfl, ?_⟩
  exact ⟨j46, f48⟩
set_option maxHeartbeats 0 in
/-- LentNames$Search.ask(I)V -/
theorem c271_69 {sc : Nat × Nat} {d a1 : Nat} {h : xh} (hJ : J h) (ba1 : 2147483648 ≤ a1 ∧ a1 ≤ 2147483659) : X sc 271 (d + 24) (xV fun h' => J h' ∧ Fr 65537 h h') 0 0 0 [x_r 69, iv_c a1, 147573952589676412928] [] h := by
  have la1 : a1 < 4294967296 := by first | decide | omega
  have hF := Fr.refl 65537 h
  refine x_aload (np := 1) (x := 0) (by decide +kernel) rfl (x_nc_le (by decide)) ?_
  have b1 := jB (e := 14) 0 hJ rg_69_14_0_1 (by first | decide | omega) (by first | decide | omega)
  refine x_getC (np := 4) (x := 782) (f := 14) (q := (h 69 14)) (by decide +kernel) (by decide) (by decide +kernel) rfl (fun l2 => ?_)
  refine x_ifz (k := 0) (tg := 16) (np := 7) (by decide +kernel) (by decide) l2 (fun q3 => ?_) (fun q4 => ?_)
  · have q3 : (h 69 14) = 2147483648 := q3
    refine x_aload (np := 17) (x := 0) (by decide +kernel) rfl (x_nc_le (by decide)) ?_
    refine x_aload (np := 18) (x := 0) (by decide +kernel) rfl (x_nc_le (by decide)) ?_
    have q5 : h 69 5 = 45 := by have z := jB (e := 5) 0 hJ rg_69_5_0_1 (by decide) (by decide); omega
    refine x_getR (np := 21) (x := 773) (f := 5) (q := 45) (by decide +kernel) (by decide) (by decide +kernel) q5 ?_
    have t6 : tw (h 45 5) := hJ.2.2.2.1
    refine x_getR (np := 24) (x := 69) (f := 5) (q := (h 45 5)) (by decide +kernel) (by decide) (by decide +kernel) rfl ?_
    refine x_putR (np := 27) (x := 8966) (f := 6) (by decide +kernel) (by decide +kernel) (tn_0 t6) (by decide) ?_
    have j8 := J_upW (k := 69) (i := 6) hJ t6 (by decide)
    have f10 := Fr.up (k := 69) (i := 6) (v := (h 45 5)) hF (by decide +kernel)
    generalize e9 : x_up h 69 6 (h 45 5) = h7 at j8 f10 ⊢
    refine x_aload (np := 28) (x := 0) (by decide +kernel) rfl (x_nc_le (by decide)) ?_
    refine x_iload (np := 29) (x := 1) (by decide +kernel) rfl la1 ?_
    refine x_putI (np := 32) (x := 775) (f := 7) (by decide +kernel) (by decide +kernel) la1 (Or.inl (by decide)) ?_
    have j12 := jU (e := 7) (v := a1) 0 j8 rg_69_7_0_1 (by first | decide | omega) (by first | decide | omega) (by first | decide | omega)
    have f14 := jF (e := 7) (v := a1) 0 f10 rg_69_7_0_1 (by first | decide | omega) (by first | decide | omega) (by decide)
    generalize e13 : x_up h7 69 7 a1 = h11 at j12 f14 ⊢
    refine x_aload (np := 33) (x := 0) (by decide +kernel) rfl (x_nc_le (by decide)) ?_
    have q15 : h11 69 5 = 45 := by have z := jB (e := 5) 0 j12 rg_69_5_0_1 (by decide) (by decide); omega
    refine x_getR (np := 36) (x := 773) (f := 5) (q := 45) (by decide +kernel) (by decide) (by decide +kernel) q15 ?_
    have q16 : h11 45 1 = 47 := by have z := jB (e := 1) 0 j12 rg_45_1_0_1 (by decide) (by decide); omega
    refine x_getR (np := 39) (x := 65) (f := 1) (q := 47) (by decide +kernel) (by decide) (by decide +kernel) q16 ?_
    refine x_const (np := 40) (x := 9223372039002259456) (a := 2147483648) (by decide +kernel) (by decide) (by decide) ?_
    refine x_aload (np := 41) (x := 0) (by decide +kernel) rfl (x_nc_le (by decide)) ?_
    have q17 : h11 69 0 = 70 := by have z := jB (e := 0) 0 j12 rg_69_0_0_1 (by decide) (by decide); omega
    refine x_getR (np := 44) (x := 768) (f := 0) (q := 70) (by decide +kernel) (by decide) (by decide +kernel) q17 ?_
    refine x_const (np := 45) (x := 9223372039002259456) (a := 2147483648) (by decide +kernel) (by decide) (by decide) ?_
    refine x_aload (np := 46) (x := 0) (by decide +kernel) rfl (x_nc_le (by decide)) ?_
    have q18 : h11 69 0 = 70 := by have z := jB (e := 0) 0 j12 rg_69_0_0_1 (by decide) (by decide); omega
    refine x_getR (np := 49) (x := 768) (f := 0) (q := 70) (by decide +kernel) (by decide) (by decide +kernel) q18 ?_
    refine x_alen (np := 50) (x := 0) (n := 36) (by decide +kernel) (by decide) (by decide +kernel) (by decide +kernel) (by decide) ?_
    show X _ _ _ _ _ _ _ _ [iv_c 2147483684, iv_c 2147483648, x_r 70, iv_c 2147483648, x_r 47] _
    refine x_copy (np := 53) (q := 70) (r := 47) (N := 36) (nq := 36) (nr := 36) (n8 := 0) (by decide +kernel) (by decide +kernel) (by decide +kernel) (by decide) (by decide) (by decide) (by decide) x_wn (by decide) ?_
    have j20 := J_cp (q := 70) (r := 47) (N := 36) j12 (by decide) (by decide +kernel) (by decide +kernel) (by decide +kernel)
    have f21 := Fr_cp (q := 70) (r := 47) (N := 36) (Fr.refl 65536 h11) (fun i _ => show Nat.testBit 65536 16 = true by decide)
    generalize e22 : x_cp h11 70 47 36 = h19 at j20 f21 ⊢
    have f23 := Fr.trans f14 f21 (by decide)
    refine x_const (np := 54) (x := 9223372039002259456) (a := 2147483648) (by decide +kernel) (by decide) (by decide) ?_
    refine x_istore (np := 55) (x := 2) (lo' := [x_r 69, iv_c a1, iv_c 2147483648]) (by decide +kernel) (by decide) (Nat.le_of_ble_eq_true rfl) rfl ?_
    have p116 : ∀ (n : Nat) (v111 : Nat) (h113 : xh), 4294967296 - v111 < n → (2147483648 ≤ v111 ∧ v111 ≤ 2147483654) → J h113 → Fr 65536 h19 h113 → X sc 271 (d + 24) (xV fun h' => J h' ∧ Fr 65537 h h') 0 0 55 [x_r 69, iv_c a1, iv_c v111] [] h113 := by
      intro n
      induction n with
      | zero => intro v111 h113 q117; exact absurd q117 (Nat.not_lt_zero _)
      | succ n i118 =>
        intro v111 h113 q117 b112 j115 f114
        have f119 := Fr.trans f23 f114 (by decide)
        refine x_iload (np := 56) (x := 2) (by decide +kernel) rfl (by first | decide | omega) ?_
        refine x_const (np := 58) (x := 9223372064772063238) (a := 2147483654) (by decide +kernel) (by decide) (by decide) ?_
        refine x_icmp (k := 3) (tg := 74) (np := 61) (by decide +kernel) (by decide) (by first | decide | omega) (by decide) (fun q120 => ?_) (fun q121 => ?_)
        · have q120 : 2147483654 ≤ v111 := q120
          refine x_aload (np := 75) (x := 0) (by decide +kernel) rfl (x_nc_le (by decide)) ?_
          refine x_const (np := 76) (x := 9223372039002259456) (a := 2147483648) (by decide +kernel) (by decide) (by decide) ?_
          refine x_putI (np := 79) (x := 776) (f := 8) (by decide +kernel) (by decide +kernel) (by decide) (Or.inl (by decide)) ?_
          have j123 := jU (e := 8) (v := 2147483648) 0 j115 rg_69_8_0_1 (by first | decide | omega) (by first | decide | omega) (by first | decide | omega)
          have f125 := jF (e := 8) (v := 2147483648) 0 f119 rg_69_8_0_1 (by first | decide | omega) (by first | decide | omega) (by decide)
          generalize e124 : x_up h113 69 8 2147483648 = h122 at j123 f125 ⊢
          refine x_aload (np := 80) (x := 0) (by decide +kernel) rfl (x_nc_le (by decide)) ?_
          refine x_const (np := 81) (x := 9223372039002259456) (a := 2147483648) (by decide +kernel) (by decide) (by decide) ?_
          refine x_putI (np := 84) (x := 783) (f := 15) (by decide +kernel) (by decide +kernel) (by decide) (Or.inl (by decide)) ?_
          have j127 := jU (e := 15) (v := 2147483648) 0 j123 rg_69_15_0_1 (by first | decide | omega) (by first | decide | omega) (by first | decide | omega)
          have f129 := jF (e := 15) (v := 2147483648) 0 f125 rg_69_15_0_1 (by first | decide | omega) (by first | decide | omega) (by decide)
          generalize e128 : x_up h122 69 15 2147483648 = h126 at j127 f129 ⊢
          refine x_aload (np := 85) (x := 0) (by decide +kernel) rfl (x_nc_le (by decide)) ?_
          refine x_const (np := 86) (x := 9223372039002259456) (a := 2147483648) (by decide +kernel) (by decide) (by decide) ?_
          refine x_putI (np := 89) (x := 785) (f := 17) (by decide +kernel) (by decide +kernel) (by decide) (Or.inl (by decide)) ?_
          have j131 := jU (e := 17) (v := 2147483648) 0 j127 rg_69_17_0_1 (by first | decide | omega) (by first | decide | omega) (by first | decide | omega)
          have f133 := jF (e := 17) (v := 2147483648) 0 f129 rg_69_17_0_1 (by first | decide | omega) (by first | decide | omega) (by decide)
          generalize e132 : x_up h126 69 17 2147483648 = h130 at j131 f133 ⊢
          refine x_aload (np := 90) (x := 0) (by decide +kernel) rfl (x_nc_le (by decide)) ?_
          refine x_const (np := 91) (x := 9223372039002259456) (a := 2147483648) (by decide +kernel) (by decide) (by decide) ?_
          refine x_putI (np := 94) (x := 4873) (f := 9) (by decide +kernel) (by decide +kernel) (by decide) (Or.inr ⟨by decide, by first | decide | omega, by first | decide | omega⟩) ?_
          have j135 := jU (e := 9) (v := 2147483648) 0 j131 rg_69_9_0_1 (by first | decide | omega) (by first | decide | omega) (by first | decide | omega)
          have f137 := jF (e := 9) (v := 2147483648) 0 f133 rg_69_9_0_1 (by first | decide | omega) (by first | decide | omega) (by decide)
          generalize e136 : x_up h130 69 9 2147483648 = h134 at j135 f137 ⊢
          refine x_aload (np := 95) (x := 0) (by decide +kernel) rfl (x_nc_le (by decide)) ?_
          refine x_vV (np := 98) (x := 5246978) (kk := 2) (cls := 5) (mj := 62) (ml := 3) (nr := 0) (rest := []) (lo1 := [x_r 69, 147573952589676412928, 147573952589676412928]) (by decide +kernel) (by decide) (by decide) (by decide) (by decide +kernel) (by decide +kernel) (by decide) (by decide +kernel) (by decide +kernel) x_wn (by decide) rfl (c62_69 j135) (fun h141 q140 => ?_)
          obtain ⟨j142, f143⟩ := q140
          have f144 := Fr.trans f137 f143 (by decide)
          refine x_const (np := 99) (x := 9223372039002259456) (a := 2147483648) (by decide +kernel) (by decide) (by decide) ?_
          refine x_istore (np := 100) (x := 2) (lo' := [x_r 69, iv_c a1, iv_c 2147483648]) (by decide +kernel) (by decide) (Nat.le_of_ble_eq_true rfl) rfl ?_
          have p292 : ∀ (n : Nat) (v287 : Nat) (h289 : xh), 4294967296 - v287 < n → (2147483648 ≤ v287 ∧ v287 ≤ 2147483653) → J h289 → Fr 65537 h141 h289 → X sc 271 (d + 24) (xV fun h' => J h' ∧ Fr 65537 h h') 0 0 100 [x_r 69, iv_c a1, iv_c v287] [] h289 := by
            intro n
            induction n with
            | zero => intro v287 h289 q293; exact absurd q293 (Nat.not_lt_zero _)
            | succ n i294 =>
              intro v287 h289 q293 b288 j291 f290
              have f295 := Fr.trans f144 f290 (by decide)
              refine x_iload (np := 101) (x := 2) (by decide +kernel) rfl (by first | decide | omega) ?_
              refine x_aload (np := 102) (x := 0) (by decide +kernel) rfl (x_nc_le (by decide)) ?_
              refine x_vI (P := fun r9 h9 => X sc 271 _ _ 0 0 105 [x_r 69, iv_c a1, iv_c v287] (iv_c r9 :: [iv_c v287]) h9) (np := 105) (x := 5246976) (kk := 0) (cls := 5) (mj := 60) (ml := 1) (nr := 1) (rest := [iv_c v287]) (lo1 := [x_r 69]) (by decide +kernel) (by decide) (by decide) (by decide) (by decide +kernel) (by decide +kernel) (by decide) (by decide +kernel) (by decide +kernel) (x_wi (by first | decide | omega) x_wn) (by decide) rfl ?_ (fun _ _ _ z => z)
              refine x_const (np := 1) (x := 9223372056182128644) (a := 2147483652) (by decide +kernel) (by decide) (by decide) ?_
              refine x_retI (np := 2) (x := 0) (by decide +kernel) (by decide) (Or.inl (by decide +kernel)) ⟨_, rfl, (by decide), ?_⟩
              refine x_icmp (k := 4) (tg := 138) (np := 108) (by decide +kernel) (by decide) (by first | decide | omega) (by decide) (fun q296 => ?_) (fun q297 => ?_)
              · have q296 : 2147483652 < v287 := q296
                refine x_aload (np := 139) (x := 0) (by decide +kernel) rfl (x_nc_le (by decide)) ?_
                refine x_const (np := 140) (x := 9223372043297226753) (a := 2147483649) (by decide +kernel) (by decide) (by decide) ?_
                refine x_putI (np := 143) (x := 4878) (f := 14) (by decide +kernel) (by decide +kernel) (by decide) (Or.inr ⟨by decide, by first | decide | omega, by first | decide | omega⟩) ?_
                have j299 := jU (e := 14) (v := 2147483649) 0 j291 rg_69_14_0_1 (by first | decide | omega) (by first | decide | omega) (by first | decide | omega)
                have f301 := jF (e := 14) (v := 2147483649) 0 f295 rg_69_14_0_1 (by first | decide | omega) (by first | decide | omega) (by decide)
                generalize e300 : x_up h289 69 14 2147483649 = h298 at j299 f301 ⊢
                refine x_retV (np := 144) (x := 0) (by decide +kernel) (by decide +kernel) ⟨rfl, ?_⟩
                exact ⟨j299, f301⟩
              have q297 : ¬ (2147483652 < v287) := q297
              refine x_aload (np := 109) (x := 0) (by decide +kernel) rfl (x_nc_le (by decide)) ?_
              refine x_getC (np := 112) (x := 776) (f := 8) (q := (h289 69 8)) (by decide +kernel) (by decide) (by decide +kernel) rfl (fun l302 => ?_)
              refine x_ifz (k := 1) (tg := 138) (np := 115) (by decide +kernel) (by decide) l302 (fun q303 => ?_) (fun q304 => ?_)
              · have q303 : (h289 69 8) ≠ 2147483648 := q303
                refine x_aload (np := 139) (x := 0) (by decide +kernel) rfl (x_nc_le (by decide)) ?_
                refine x_const (np := 140) (x := 9223372043297226753) (a := 2147483649) (by decide +kernel) (by decide) (by decide) ?_
                refine x_putI (np := 143) (x := 4878) (f := 14) (by decide +kernel) (by decide +kernel) (by decide) (Or.inr ⟨by decide, by first | decide | omega, by first | decide | omega⟩) ?_
                have j306 := jU (e := 14) (v := 2147483649) 0 j291 rg_69_14_0_1 (by first | decide | omega) (by first | decide | omega) (by first | decide | omega)
                have f308 := jF (e := 14) (v := 2147483649) 0 f295 rg_69_14_0_1 (by first | decide | omega) (by first | decide | omega) (by decide)
                generalize e307 : x_up h289 69 14 2147483649 = h305 at j306 f308 ⊢
                refine x_retV (np := 144) (x := 0) (by decide +kernel) (by decide +kernel) ⟨rfl, ?_⟩
                exact ⟨j306, f308⟩
              have q304 : ¬ ((h289 69 8) ≠ 2147483648) := q304
              refine x_aload (np := 116) (x := 0) (by decide +kernel) rfl (x_nc_le (by decide)) ?_
              have b309 := jB (e := 9) 0 j291 rg_69_9_0_1 (by first | decide | omega) (by first | decide | omega)
              refine x_getC (np := 119) (x := 777) (f := 9) (q := (h289 69 9)) (by decide +kernel) (by decide) (by decide +kernel) rfl (fun l310 => ?_)
              refine x_ifz (k := 1) (tg := 138) (np := 122) (by decide +kernel) (by decide) l310 (fun q311 => ?_) (fun q312 => ?_)
              · have q311 : (h289 69 9) ≠ 2147483648 := q311
                refine x_aload (np := 139) (x := 0) (by decide +kernel) rfl (x_nc_le (by decide)) ?_
                refine x_const (np := 140) (x := 9223372043297226753) (a := 2147483649) (by decide +kernel) (by decide) (by decide) ?_
                refine x_putI (np := 143) (x := 4878) (f := 14) (by decide +kernel) (by decide +kernel) (by decide) (Or.inr ⟨by decide, by first | decide | omega, by first | decide | omega⟩) ?_
                have j314 := jU (e := 14) (v := 2147483649) 0 j291 rg_69_14_0_1 (by first | decide | omega) (by first | decide | omega) (by first | decide | omega)
                have f316 := jF (e := 14) (v := 2147483649) 0 f295 rg_69_14_0_1 (by first | decide | omega) (by first | decide | omega) (by decide)
                generalize e315 : x_up h289 69 14 2147483649 = h313 at j314 f316 ⊢
                refine x_retV (np := 144) (x := 0) (by decide +kernel) (by decide +kernel) ⟨rfl, ?_⟩
                exact ⟨j314, f316⟩
              have q312 : ¬ ((h289 69 9) ≠ 2147483648) := q312
              refine x_aload (np := 123) (x := 0) (by decide +kernel) rfl (x_nc_le (by decide)) ?_
              refine x_iload (np := 124) (x := 2) (by decide +kernel) rfl (by first | decide | omega) ?_
              refine x_putI (np := 127) (x := 784) (f := 16) (by decide +kernel) (by decide +kernel) (by first | decide | omega) (Or.inl (by decide)) ?_
              have j318 := jU (e := 16) (v := v287) 0 j291 rg_69_16_0_1 (by first | decide | omega) (by first | decide | omega) (by first | decide | omega)
              have f320 := jF (e := 16) (v := v287) 0 f295 rg_69_16_0_1 (by first | decide | omega) (by first | decide | omega) (by decide)
              have f321 := jF (e := 16) (v := v287) 0 f290 rg_69_16_0_1 (by first | decide | omega) (by first | decide | omega) (by decide)
              generalize e319 : x_up h289 69 16 v287 = h317 at j318 f320 f321 ⊢
              refine x_aload (np := 128) (x := 0) (by decide +kernel) rfl (x_nc_le (by decide)) ?_
              refine x_const (np := 129) (x := 9223372039002259456) (a := 2147483648) (by decide +kernel) (by decide) (by decide) ?_
              refine x_cV (t := 8) (mj := 274) (n := 2) (rc := 13) (ml := 2) (nr := 0) (np := 132) (as := [x_r 69, iv_c 2147483648]) (rest := []) (lo1 := [x_r 69, iv_c 2147483648]) (by decide +kernel) (by decide) (by decide +kernel) (x_rb_of (by decide +kernel)) rfl rfl (x_wr (by decide) (x_wi (by decide) x_wn)) x_wn (by decide) rfl (c274_69_c0 j318  ) (fun h325 q324 => ?_)
              obtain ⟨j326, f327⟩ := q324
              have f330 := Fr.trans f320 f327 (by decide)
              have f331 := Fr.trans f321 f327 (by decide)
              refine x_iinc (np := 135) (i := 2) (j := 2147483649) (v := (1 + v287)) (lo' := [x_r 69, iv_c a1, iv_c (1 + v287)]) (by decide +kernel) (by decide) (by decide) rfl (by first | decide | omega) (by first | decide | omega) (by first | decide | omega) rfl ?_
              refine x_goto (np := 138) (x := 100) (by decide +kernel) ?_
              exact i294 (1 + v287) h325 (by first | decide | omega) (by first | decide | omega) j326 f331
          exact p292 _ 2147483648 h141 (Nat.lt_succ_self _) (by first | decide | omega) j142 (Fr.refl _ _)
        have q121 : ¬ (2147483654 ≤ v111) := q121
        refine x_aload (np := 62) (x := 0) (by decide +kernel) rfl (x_nc_le (by decide)) ?_
        have q332 : h113 69 2 = 72 := by have z := jB (e := 2) 0 j115 rg_69_2_0_1 (by decide) (by decide); omega
        refine x_getR (np := 65) (x := 770) (f := 2) (q := 72) (by decide +kernel) (by decide) (by decide +kernel) q332 ?_
        refine x_iload (np := 66) (x := 2) (by decide +kernel) rfl (by first | decide | omega) ?_
        refine x_const (np := 67) (x := 9223372039002259456) (a := 2147483648) (by decide +kernel) (by decide) (by decide) ?_
        obtain ⟨u333, q334⟩ : ∃ z, v111 = 2147483648 + z := ⟨v111 - 2147483648, by first | decide | omega⟩
        refine x_ast (np := 68) (x := 0) (kd := 1) (n := 6) (i := u333) (by decide +kernel) (Or.inl rfl) (by decide +kernel) (by first | decide | omega) (by first | decide | omega) (by decide) (by decide) (fun z => absurd z (by decide)) ?_
        have j336 := jU (e := u333) (v := 2147483648) u333 j115 rg_72_0_1_6 (by first | decide | omega) (by first | decide | omega) (by first | decide | omega)
        have f338 := jF (e := u333) (v := 2147483648) u333 f119 rg_72_0_1_6 (by first | decide | omega) (by first | decide | omega) (by decide)
        have f339 := jF (e := u333) (v := 2147483648) u333 f114 rg_72_0_1_6 (by first | decide | omega) (by first | decide | omega) (by decide)
        generalize e337 : x_up h113 72 u333 2147483648 = h335 at j336 f338 f339 ⊢
        refine x_iinc (np := 71) (i := 2) (j := 2147483649) (v := (1 + v111)) (lo' := [x_r 69, iv_c a1, iv_c (1 + v111)]) (by decide +kernel) (by decide) (by decide) rfl (by first | decide | omega) (by first | decide | omega) (by first | decide | omega) rfl ?_
        refine x_goto (np := 74) (x := 55) (by decide +kernel) ?_
        exact i118 (1 + v111) h335 (by first | decide | omega) (by first | decide | omega) j336 f339
    exact p116 _ 2147483648 h19 (Nat.lt_succ_self _) (by first | decide | omega) j20 (Fr.refl _ _)
  have q4 : ¬ ((h 69 14) = 2147483648) := q4
  refine x_aload (np := 8) (x := 0) (by decide +kernel) rfl (x_nc_le (by decide)) ?_
  refine x_getC (np := 11) (x := 775) (f := 7) (q := (h 69 7)) (by decide +kernel) (by decide) (by decide +kernel) rfl (fun l340 => ?_)
  refine x_iload (np := 12) (x := 1) (by decide +kernel) rfl la1 ?_
  refine x_icmp (k := 1) (tg := 16) (np := 15) (by decide +kernel) (by decide) l340 la1 (fun q341 => ?_) (fun q342 => ?_)
  · have q341 : (h 69 7) ≠ a1 := q341
    refine x_aload (np := 17) (x := 0) (by decide +kernel) rfl (x_nc_le (by decide)) ?_
    refine x_aload (np := 18) (x := 0) (by decide +kernel) rfl (x_nc_le (by decide)) ?_
    have q343 : h 69 5 = 45 := by have z := jB (e := 5) 0 hJ rg_69_5_0_1 (by decide) (by decide); omega
    refine x_getR (np := 21) (x := 773) (f := 5) (q := 45) (by decide +kernel) (by decide) (by decide +kernel) q343 ?_
    have t344 : tw (h 45 5) := hJ.2.2.2.1
    refine x_getR (np := 24) (x := 69) (f := 5) (q := (h 45 5)) (by decide +kernel) (by decide) (by decide +kernel) rfl ?_
    refine x_putR (np := 27) (x := 8966) (f := 6) (by decide +kernel) (by decide +kernel) (tn_0 t344) (by decide) ?_
    have j346 := J_upW (k := 69) (i := 6) hJ t344 (by decide)
    have f348 := Fr.up (k := 69) (i := 6) (v := (h 45 5)) hF (by decide +kernel)
    generalize e347 : x_up h 69 6 (h 45 5) = h345 at j346 f348 ⊢
    refine x_aload (np := 28) (x := 0) (by decide +kernel) rfl (x_nc_le (by decide)) ?_
    refine x_iload (np := 29) (x := 1) (by decide +kernel) rfl la1 ?_
    refine x_putI (np := 32) (x := 775) (f := 7) (by decide +kernel) (by decide +kernel) la1 (Or.inl (by decide)) ?_
    have j350 := jU (e := 7) (v := a1) 0 j346 rg_69_7_0_1 (by first | decide | omega) (by first | decide | omega) (by first | decide | omega)
    have f352 := jF (e := 7) (v := a1) 0 f348 rg_69_7_0_1 (by first | decide | omega) (by first | decide | omega) (by decide)
    generalize e351 : x_up h345 69 7 a1 = h349 at j350 f352 ⊢
    refine x_aload (np := 33) (x := 0) (by decide +kernel) rfl (x_nc_le (by decide)) ?_
    have q353 : h349 69 5 = 45 := by have z := jB (e := 5) 0 j350 rg_69_5_0_1 (by decide) (by decide); omega
    refine x_getR (np := 36) (x := 773) (f := 5) (q := 45) (by decide +kernel) (by decide) (by decide +kernel) q353 ?_
    have q354 : h349 45 1 = 47 := by have z := jB (e := 1) 0 j350 rg_45_1_0_1 (by decide) (by decide); omega
    refine x_getR (np := 39) (x := 65) (f := 1) (q := 47) (by decide +kernel) (by decide) (by decide +kernel) q354 ?_
    refine x_const (np := 40) (x := 9223372039002259456) (a := 2147483648) (by decide +kernel) (by decide) (by decide) ?_
    refine x_aload (np := 41) (x := 0) (by decide +kernel) rfl (x_nc_le (by decide)) ?_
    have q355 : h349 69 0 = 70 := by have z := jB (e := 0) 0 j350 rg_69_0_0_1 (by decide) (by decide); omega
    refine x_getR (np := 44) (x := 768) (f := 0) (q := 70) (by decide +kernel) (by decide) (by decide +kernel) q355 ?_
    refine x_const (np := 45) (x := 9223372039002259456) (a := 2147483648) (by decide +kernel) (by decide) (by decide) ?_
    refine x_aload (np := 46) (x := 0) (by decide +kernel) rfl (x_nc_le (by decide)) ?_
    have q356 : h349 69 0 = 70 := by have z := jB (e := 0) 0 j350 rg_69_0_0_1 (by decide) (by decide); omega
    refine x_getR (np := 49) (x := 768) (f := 0) (q := 70) (by decide +kernel) (by decide) (by decide +kernel) q356 ?_
    refine x_alen (np := 50) (x := 0) (n := 36) (by decide +kernel) (by decide) (by decide +kernel) (by decide +kernel) (by decide) ?_
    show X _ _ _ _ _ _ _ _ [iv_c 2147483684, iv_c 2147483648, x_r 70, iv_c 2147483648, x_r 47] _
    refine x_copy (np := 53) (q := 70) (r := 47) (N := 36) (nq := 36) (nr := 36) (n8 := 0) (by decide +kernel) (by decide +kernel) (by decide +kernel) (by decide) (by decide) (by decide) (by decide) x_wn (by decide) ?_
    have j358 := J_cp (q := 70) (r := 47) (N := 36) j350 (by decide) (by decide +kernel) (by decide +kernel) (by decide +kernel)
    have f359 := Fr_cp (q := 70) (r := 47) (N := 36) (Fr.refl 65536 h349) (fun i _ => show Nat.testBit 65536 16 = true by decide)
    generalize e360 : x_cp h349 70 47 36 = h357 at j358 f359 ⊢
    have f361 := Fr.trans f352 f359 (by decide)
    refine x_const (np := 54) (x := 9223372039002259456) (a := 2147483648) (by decide +kernel) (by decide) (by decide) ?_
    refine x_istore (np := 55) (x := 2) (lo' := [x_r 69, iv_c a1, iv_c 2147483648]) (by decide +kernel) (by decide) (Nat.le_of_ble_eq_true rfl) rfl ?_
    have p454 : ∀ (n : Nat) (v449 : Nat) (h451 : xh), 4294967296 - v449 < n → (2147483648 ≤ v449 ∧ v449 ≤ 2147483654) → J h451 → Fr 65536 h357 h451 → X sc 271 (d + 24) (xV fun h' => J h' ∧ Fr 65537 h h') 0 0 55 [x_r 69, iv_c a1, iv_c v449] [] h451 := by
      intro n
      induction n with
      | zero => intro v449 h451 q455; exact absurd q455 (Nat.not_lt_zero _)
      | succ n i456 =>
        intro v449 h451 q455 b450 j453 f452
        have f457 := Fr.trans f361 f452 (by decide)
        refine x_iload (np := 56) (x := 2) (by decide +kernel) rfl (by first | decide | omega) ?_
        refine x_const (np := 58) (x := 9223372064772063238) (a := 2147483654) (by decide +kernel) (by decide) (by decide) ?_
        refine x_icmp (k := 3) (tg := 74) (np := 61) (by decide +kernel) (by decide) (by first | decide | omega) (by decide) (fun q458 => ?_) (fun q459 => ?_)
        · have q458 : 2147483654 ≤ v449 := q458
          refine x_aload (np := 75) (x := 0) (by decide +kernel) rfl (x_nc_le (by decide)) ?_
          refine x_const (np := 76) (x := 9223372039002259456) (a := 2147483648) (by decide +kernel) (by decide) (by decide) ?_
          refine x_putI (np := 79) (x := 776) (f := 8) (by decide +kernel) (by decide +kernel) (by decide) (Or.inl (by decide)) ?_
          have j461 := jU (e := 8) (v := 2147483648) 0 j453 rg_69_8_0_1 (by first | decide | omega) (by first | decide | omega) (by first | decide | omega)
          have f463 := jF (e := 8) (v := 2147483648) 0 f457 rg_69_8_0_1 (by first | decide | omega) (by first | decide | omega) (by decide)
          generalize e462 : x_up h451 69 8 2147483648 = h460 at j461 f463 ⊢
          refine x_aload (np := 80) (x := 0) (by decide +kernel) rfl (x_nc_le (by decide)) ?_
          refine x_const (np := 81) (x := 9223372039002259456) (a := 2147483648) (by decide +kernel) (by decide) (by decide) ?_
          refine x_putI (np := 84) (x := 783) (f := 15) (by decide +kernel) (by decide +kernel) (by decide) (Or.inl (by decide)) ?_
          have j465 := jU (e := 15) (v := 2147483648) 0 j461 rg_69_15_0_1 (by first | decide | omega) (by first | decide | omega) (by first | decide | omega)
          have f467 := jF (e := 15) (v := 2147483648) 0 f463 rg_69_15_0_1 (by first | decide | omega) (by first | decide | omega) (by decide)
          generalize e466 : x_up h460 69 15 2147483648 = h464 at j465 f467 ⊢
          refine x_aload (np := 85) (x := 0) (by decide +kernel) rfl (x_nc_le (by decide)) ?_
          refine x_const (np := 86) (x := 9223372039002259456) (a := 2147483648) (by decide +kernel) (by decide) (by decide) ?_
          refine x_putI (np := 89) (x := 785) (f := 17) (by decide +kernel) (by decide +kernel) (by decide) (Or.inl (by decide)) ?_
          have j469 := jU (e := 17) (v := 2147483648) 0 j465 rg_69_17_0_1 (by first | decide | omega) (by first | decide | omega) (by first | decide | omega)
          have f471 := jF (e := 17) (v := 2147483648) 0 f467 rg_69_17_0_1 (by first | decide | omega) (by first | decide | omega) (by decide)
          generalize e470 : x_up h464 69 17 2147483648 = h468 at j469 f471 ⊢
          refine x_aload (np := 90) (x := 0) (by decide +kernel) rfl (x_nc_le (by decide)) ?_
          refine x_const (np := 91) (x := 9223372039002259456) (a := 2147483648) (by decide +kernel) (by decide) (by decide) ?_
          refine x_putI (np := 94) (x := 4873) (f := 9) (by decide +kernel) (by decide +kernel) (by decide) (Or.inr ⟨by decide, by first | decide | omega, by first | decide | omega⟩) ?_
          have j473 := jU (e := 9) (v := 2147483648) 0 j469 rg_69_9_0_1 (by first | decide | omega) (by first | decide | omega) (by first | decide | omega)
          have f475 := jF (e := 9) (v := 2147483648) 0 f471 rg_69_9_0_1 (by first | decide | omega) (by first | decide | omega) (by decide)
          generalize e474 : x_up h468 69 9 2147483648 = h472 at j473 f475 ⊢
          refine x_aload (np := 95) (x := 0) (by decide +kernel) rfl (x_nc_le (by decide)) ?_
          refine x_vV (np := 98) (x := 5246978) (kk := 2) (cls := 5) (mj := 62) (ml := 3) (nr := 0) (rest := []) (lo1 := [x_r 69, 147573952589676412928, 147573952589676412928]) (by decide +kernel) (by decide) (by decide) (by decide) (by decide +kernel) (by decide +kernel) (by decide) (by decide +kernel) (by decide +kernel) x_wn (by decide) rfl (c62_69 j473) (fun h479 q478 => ?_)
          obtain ⟨j480, f481⟩ := q478
          have f482 := Fr.trans f475 f481 (by decide)
          refine x_const (np := 99) (x := 9223372039002259456) (a := 2147483648) (by decide +kernel) (by decide) (by decide) ?_
          refine x_istore (np := 100) (x := 2) (lo' := [x_r 69, iv_c a1, iv_c 2147483648]) (by decide +kernel) (by decide) (Nat.le_of_ble_eq_true rfl) rfl ?_
          have p630 : ∀ (n : Nat) (v625 : Nat) (h627 : xh), 4294967296 - v625 < n → (2147483648 ≤ v625 ∧ v625 ≤ 2147483653) → J h627 → Fr 65537 h479 h627 → X sc 271 (d + 24) (xV fun h' => J h' ∧ Fr 65537 h h') 0 0 100 [x_r 69, iv_c a1, iv_c v625] [] h627 := by
            intro n
            induction n with
            | zero => intro v625 h627 q631; exact absurd q631 (Nat.not_lt_zero _)
            | succ n i632 =>
              intro v625 h627 q631 b626 j629 f628
              have f633 := Fr.trans f482 f628 (by decide)
              refine x_iload (np := 101) (x := 2) (by decide +kernel) rfl (by first | decide | omega) ?_
              refine x_aload (np := 102) (x := 0) (by decide +kernel) rfl (x_nc_le (by decide)) ?_
              refine x_vI (P := fun r9 h9 => X sc 271 _ _ 0 0 105 [x_r 69, iv_c a1, iv_c v625] (iv_c r9 :: [iv_c v625]) h9) (np := 105) (x := 5246976) (kk := 0) (cls := 5) (mj := 60) (ml := 1) (nr := 1) (rest := [iv_c v625]) (lo1 := [x_r 69]) (by decide +kernel) (by decide) (by decide) (by decide) (by decide +kernel) (by decide +kernel) (by decide) (by decide +kernel) (by decide +kernel) (x_wi (by first | decide | omega) x_wn) (by decide) rfl ?_ (fun _ _ _ z => z)
              refine x_const (np := 1) (x := 9223372056182128644) (a := 2147483652) (by decide +kernel) (by decide) (by decide) ?_
              refine x_retI (np := 2) (x := 0) (by decide +kernel) (by decide) (Or.inl (by decide +kernel)) ⟨_, rfl, (by decide), ?_⟩
              refine x_icmp (k := 4) (tg := 138) (np := 108) (by decide +kernel) (by decide) (by first | decide | omega) (by decide) (fun q634 => ?_) (fun q635 => ?_)
              · have q634 : 2147483652 < v625 := q634
                refine x_aload (np := 139) (x := 0) (by decide +kernel) rfl (x_nc_le (by decide)) ?_
                refine x_const (np := 140) (x := 9223372043297226753) (a := 2147483649) (by decide +kernel) (by decide) (by decide) ?_
                refine x_putI (np := 143) (x := 4878) (f := 14) (by decide +kernel) (by decide +kernel) (by decide) (Or.inr ⟨by decide, by first | decide | omega, by first | decide | omega⟩) ?_
                have j637 := jU (e := 14) (v := 2147483649) 0 j629 rg_69_14_0_1 (by first | decide | omega) (by first | decide | omega) (by first | decide | omega)
                have f639 := jF (e := 14) (v := 2147483649) 0 f633 rg_69_14_0_1 (by first | decide | omega) (by first | decide | omega) (by decide)
                generalize e638 : x_up h627 69 14 2147483649 = h636 at j637 f639 ⊢
                refine x_retV (np := 144) (x := 0) (by decide +kernel) (by decide +kernel) ⟨rfl, ?_⟩
                exact ⟨j637, f639⟩
              have q635 : ¬ (2147483652 < v625) := q635
              refine x_aload (np := 109) (x := 0) (by decide +kernel) rfl (x_nc_le (by decide)) ?_
              refine x_getC (np := 112) (x := 776) (f := 8) (q := (h627 69 8)) (by decide +kernel) (by decide) (by decide +kernel) rfl (fun l640 => ?_)
              refine x_ifz (k := 1) (tg := 138) (np := 115) (by decide +kernel) (by decide) l640 (fun q641 => ?_) (fun q642 => ?_)
              · have q641 : (h627 69 8) ≠ 2147483648 := q641
                refine x_aload (np := 139) (x := 0) (by decide +kernel) rfl (x_nc_le (by decide)) ?_
                refine x_const (np := 140) (x := 9223372043297226753) (a := 2147483649) (by decide +kernel) (by decide) (by decide) ?_
                refine x_putI (np := 143) (x := 4878) (f := 14) (by decide +kernel) (by decide +kernel) (by decide) (Or.inr ⟨by decide, by first | decide | omega, by first | decide | omega⟩) ?_
                have j644 := jU (e := 14) (v := 2147483649) 0 j629 rg_69_14_0_1 (by first | decide | omega) (by first | decide | omega) (by first | decide | omega)
                have f646 := jF (e := 14) (v := 2147483649) 0 f633 rg_69_14_0_1 (by first | decide | omega) (by first | decide | omega) (by decide)
                generalize e645 : x_up h627 69 14 2147483649 = h643 at j644 f646 ⊢
                refine x_retV (np := 144) (x := 0) (by decide +kernel) (by decide +kernel) ⟨rfl, ?_⟩
                exact ⟨j644, f646⟩
              have q642 : ¬ ((h627 69 8) ≠ 2147483648) := q642
              refine x_aload (np := 116) (x := 0) (by decide +kernel) rfl (x_nc_le (by decide)) ?_
              have b647 := jB (e := 9) 0 j629 rg_69_9_0_1 (by first | decide | omega) (by first | decide | omega)
              refine x_getC (np := 119) (x := 777) (f := 9) (q := (h627 69 9)) (by decide +kernel) (by decide) (by decide +kernel) rfl (fun l648 => ?_)
              refine x_ifz (k := 1) (tg := 138) (np := 122) (by decide +kernel) (by decide) l648 (fun q649 => ?_) (fun q650 => ?_)
              · have q649 : (h627 69 9) ≠ 2147483648 := q649
                refine x_aload (np := 139) (x := 0) (by decide +kernel) rfl (x_nc_le (by decide)) ?_
                refine x_const (np := 140) (x := 9223372043297226753) (a := 2147483649) (by decide +kernel) (by decide) (by decide) ?_
                refine x_putI (np := 143) (x := 4878) (f := 14) (by decide +kernel) (by decide +kernel) (by decide) (Or.inr ⟨by decide, by first | decide | omega, by first | decide | omega⟩) ?_
                have j652 := jU (e := 14) (v := 2147483649) 0 j629 rg_69_14_0_1 (by first | decide | omega) (by first | decide | omega) (by first | decide | omega)
                have f654 := jF (e := 14) (v := 2147483649) 0 f633 rg_69_14_0_1 (by first | decide | omega) (by first | decide | omega) (by decide)
                generalize e653 : x_up h627 69 14 2147483649 = h651 at j652 f654 ⊢
                refine x_retV (np := 144) (x := 0) (by decide +kernel) (by decide +kernel) ⟨rfl, ?_⟩
                exact ⟨j652, f654⟩
              have q650 : ¬ ((h627 69 9) ≠ 2147483648) := q650
              refine x_aload (np := 123) (x := 0) (by decide +kernel) rfl (x_nc_le (by decide)) ?_
              refine x_iload (np := 124) (x := 2) (by decide +kernel) rfl (by first | decide | omega) ?_
              refine x_putI (np := 127) (x := 784) (f := 16) (by decide +kernel) (by decide +kernel) (by first | decide | omega) (Or.inl (by decide)) ?_
              have j656 := jU (e := 16) (v := v625) 0 j629 rg_69_16_0_1 (by first | decide | omega) (by first | decide | omega) (by first | decide | omega)
              have f658 := jF (e := 16) (v := v625) 0 f633 rg_69_16_0_1 (by first | decide | omega) (by first | decide | omega) (by decide)
              have f659 := jF (e := 16) (v := v625) 0 f628 rg_69_16_0_1 (by first | decide | omega) (by first | decide | omega) (by decide)
              generalize e657 : x_up h627 69 16 v625 = h655 at j656 f658 f659 ⊢
              refine x_aload (np := 128) (x := 0) (by decide +kernel) rfl (x_nc_le (by decide)) ?_
              refine x_const (np := 129) (x := 9223372039002259456) (a := 2147483648) (by decide +kernel) (by decide) (by decide) ?_
              refine x_cV (t := 8) (mj := 274) (n := 2) (rc := 13) (ml := 2) (nr := 0) (np := 132) (as := [x_r 69, iv_c 2147483648]) (rest := []) (lo1 := [x_r 69, iv_c 2147483648]) (by decide +kernel) (by decide) (by decide +kernel) (x_rb_of (by decide +kernel)) rfl rfl (x_wr (by decide) (x_wi (by decide) x_wn)) x_wn (by decide) rfl (c274_69_c0 j656  ) (fun h663 q662 => ?_)
              obtain ⟨j664, f665⟩ := q662
              have f668 := Fr.trans f658 f665 (by decide)
              have f669 := Fr.trans f659 f665 (by decide)
              refine x_iinc (np := 135) (i := 2) (j := 2147483649) (v := (1 + v625)) (lo' := [x_r 69, iv_c a1, iv_c (1 + v625)]) (by decide +kernel) (by decide) (by decide) rfl (by first | decide | omega) (by first | decide | omega) (by first | decide | omega) rfl ?_
              refine x_goto (np := 138) (x := 100) (by decide +kernel) ?_
              exact i632 (1 + v625) h663 (by first | decide | omega) (by first | decide | omega) j664 f669
          exact p630 _ 2147483648 h479 (Nat.lt_succ_self _) (by first | decide | omega) j480 (Fr.refl _ _)
        have q459 : ¬ (2147483654 ≤ v449) := q459
        refine x_aload (np := 62) (x := 0) (by decide +kernel) rfl (x_nc_le (by decide)) ?_
        have q670 : h451 69 2 = 72 := by have z := jB (e := 2) 0 j453 rg_69_2_0_1 (by decide) (by decide); omega
        refine x_getR (np := 65) (x := 770) (f := 2) (q := 72) (by decide +kernel) (by decide) (by decide +kernel) q670 ?_
        refine x_iload (np := 66) (x := 2) (by decide +kernel) rfl (by first | decide | omega) ?_
        refine x_const (np := 67) (x := 9223372039002259456) (a := 2147483648) (by decide +kernel) (by decide) (by decide) ?_
        obtain ⟨u671, q672⟩ : ∃ z, v449 = 2147483648 + z := ⟨v449 - 2147483648, by first | decide | omega⟩
        refine x_ast (np := 68) (x := 0) (kd := 1) (n := 6) (i := u671) (by decide +kernel) (Or.inl rfl) (by decide +kernel) (by first | decide | omega) (by first | decide | omega) (by decide) (by decide) (fun z => absurd z (by decide)) ?_
        have j674 := jU (e := u671) (v := 2147483648) u671 j453 rg_72_0_1_6 (by first | decide | omega) (by first | decide | omega) (by first | decide | omega)
        have f676 := jF (e := u671) (v := 2147483648) u671 f457 rg_72_0_1_6 (by first | decide | omega) (by first | decide | omega) (by decide)
        have f677 := jF (e := u671) (v := 2147483648) u671 f452 rg_72_0_1_6 (by first | decide | omega) (by first | decide | omega) (by decide)
        generalize e675 : x_up h451 72 u671 2147483648 = h673 at j674 f676 f677 ⊢
        refine x_iinc (np := 71) (i := 2) (j := 2147483649) (v := (1 + v449)) (lo' := [x_r 69, iv_c a1, iv_c (1 + v449)]) (by decide +kernel) (by decide) (by decide) rfl (by first | decide | omega) (by first | decide | omega) (by first | decide | omega) rfl ?_
        refine x_goto (np := 74) (x := 55) (by decide +kernel) ?_
        exact i456 (1 + v449) h673 (by first | decide | omega) (by first | decide | omega) j674 f677
    exact p454 _ 2147483648 h357 (Nat.lt_succ_self _) (by first | decide | omega) j358 (Fr.refl _ _)
  have q342 : ¬ ((h 69 7) ≠ a1) := q342
  refine x_retV (np := 16) (x := 0) (by decide +kernel) (by decide +kernel) ⟨rfl, ?_⟩
  exact ⟨hJ, hF⟩
