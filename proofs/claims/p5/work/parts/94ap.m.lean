/-! ===== methods ===== -/
set_option maxHeartbeats 0 in
/-- LentNamesModel.paysAll()V -/
theorem c232_75 {sc : Nat × Nat} {d  : Nat} {h : xh} (hJ : J h) (hW : WT 76 h) : X sc 232 (d + 5) (xV fun h' => J h' ∧ Fr 272730554369 h h') 0 0 0 [x_r 75, 147573952589676412928, 147573952589676412928, 147573952589676412928] [] h := by
  have hF := Fr.refl 272730554369 h
  refine x_aload (np := 1) (x := 0) (by decide +kernel) rfl (x_nc_le (by decide)) ?_
  refine x_cV (t := 6) (mj := 210) (n := 1) (rc := 12) (ml := 5) (nr := 0) (np := 4) (as := [x_r 75]) (rest := []) (lo1 := [x_r 75, 147573952589676412928, 147573952589676412928, 147573952589676412928, 147573952589676412928]) (by decide +kernel) (by decide) (by decide +kernel) (x_rb_of (by decide +kernel)) rfl rfl (x_wr (by decide) x_wn) x_wn (by decide) rfl (c210_75 hJ  hW) (fun h4 q3 => ?_)
  obtain ⟨j5, f6⟩ := q3
  have f9 := Fr.trans hF f6 (by decide)
  refine x_aload (np := 5) (x := 0) (by decide +kernel) rfl (x_nc_le (by decide)) ?_
  refine x_const (np := 6) (x := 9223372039002259456) (a := 2147483648) (by decide +kernel) (by decide) (by decide) ?_
  refine x_putI (np := 9) (x := 730) (f := 26) (by decide +kernel) (by decide +kernel) (by decide) (Or.inl (by decide)) ?_
  have j11 := jU (e := 26) (v := 2147483648) 0 j5 rg_75_26_0_1 (by first | decide | omega) (by first | decide | omega) (by first | decide | omega)
  have f13 := jF (e := 26) (v := 2147483648) 0 f9 rg_75_26_0_1 (by first | decide | omega) (by first | decide | omega) (by decide)
  generalize e12 : x_up h4 75 26 2147483648 = h10 at j11 f13 ⊢
  refine x_const (np := 10) (x := 9223372039002259456) (a := 2147483648) (by decide +kernel) (by decide) (by decide) ?_
  refine x_istore (np := 11) (x := 1) (lo' := [x_r 75, iv_c 2147483648, 147573952589676412928, 147573952589676412928]) (by decide +kernel) (by decide) (Nat.le_of_ble_eq_true rfl) rfl ?_
  have p135 : ∀ (n : Nat) (v130 : Nat) (h132 : xh), 4294967296 - v130 < n → (2147483648 ≤ v130 ∧ v130 ≤ 2147483654) → J h132 → Fr 137438953472 h10 h132 → X sc 232 (d + 5) (xV fun h' => J h' ∧ Fr 272730554369 h h') 0 0 11 [x_r 75, iv_c v130, 147573952589676412928, 147573952589676412928] [] h132 := by
    intro n
    induction n with
    | zero => intro v130 h132 q136; exact absurd q136 (Nat.not_lt_zero _)
    | succ n i137 =>
      intro v130 h132 q136 b131 j134 f133
      have f138 := Fr.trans f13 f133 (by decide)
      refine x_iload (np := 12) (x := 1) (by decide +kernel) rfl (by first | decide | omega) ?_
      refine x_const (np := 14) (x := 9223372064772063238) (a := 2147483654) (by decide +kernel) (by decide) (by decide) ?_
      refine x_icmp (k := 3) (tg := 38) (np := 17) (by decide +kernel) (by decide) (by first | decide | omega) (by decide) (fun q139 => ?_) (fun q140 => ?_)
      · have q139 : 2147483654 ≤ v130 := q139
        refine x_const (np := 39) (x := 9223372039002259456) (a := 2147483648) (by decide +kernel) (by decide) (by decide) ?_
        refine x_istore (np := 40) (x := 1) (lo' := [x_r 75, iv_c 2147483648, 147573952589676412928, 147573952589676412928]) (by decide +kernel) (by decide) (Nat.le_of_ble_eq_true rfl) rfl ?_
        have p20634 : ∀ (n : Nat) (v20627 : Nat) (w20629 : Nat) (w20630 : Nat) (h20631 : xh), 4294967296 - v20627 < n → (2147483648 ≤ v20627 ∧ v20627 ≤ 2147483660) → J h20631 → Fr 137439084544 h132 h20631 → X sc 232 (d + 5) (xV fun h' => J h' ∧ Fr 272730554369 h h') 0 0 40 [x_r 75, iv_c v20627, w20629, w20630] [] h20631 := by
          intro n
          induction n with
          | zero => intro v20627 w20629 w20630 h20631 q20635; exact absurd q20635 (Nat.not_lt_zero _)
          | succ n i20636 =>
            intro v20627 w20629 w20630 h20631 q20635 b20628 j20633 f20632
            have f20637 := Fr.trans f138 f20632 (by decide)
            refine x_iload (np := 41) (x := 1) (by decide +kernel) rfl (by first | decide | omega) ?_
            refine x_const (np := 43) (x := 9223372090541867020) (a := 2147483660) (by decide +kernel) (by decide) (by decide) ?_
            refine x_icmp (k := 3) (tg := 138) (np := 46) (by decide +kernel) (by decide) (by first | decide | omega) (by decide) (fun q20638 => ?_) (fun q20639 => ?_)
            · have q20638 : 2147483660 ≤ v20627 := q20638
              refine x_retV (np := 139) (x := 0) (by decide +kernel) (by decide +kernel) ⟨rfl, ?_⟩
              exact ⟨j20633, f20637⟩
            have q20639 : ¬ (2147483660 ≤ v20627) := q20639
            refine x_const (np := 47) (x := 9223372039002259456) (a := 2147483648) (by decide +kernel) (by decide) (by decide) ?_
            refine x_istore (np := 48) (x := 2) (lo' := [x_r 75, iv_c v20627, iv_c 2147483648, w20630]) (by decide +kernel) (by decide) (Nat.le_of_ble_eq_true rfl) rfl ?_
            have p22316 : ∀ (n : Nat) (v22310 : Nat) (w22312 : Nat) (h22313 : xh), 4294967296 - v22310 < n → (2147483648 ≤ v22310 ∧ v22310 ≤ 2147483658) → J h22313 → Fr 137439084544 h20631 h22313 → X sc 232 (d + 5) (xV fun h' => J h' ∧ Fr 272730554369 h h') 0 0 48 [x_r 75, iv_c v20627, iv_c v22310, w22312] [] h22313 := by
              intro n
              induction n with
              | zero => intro v22310 w22312 h22313 q22317; exact absurd q22317 (Nat.not_lt_zero _)
              | succ n i22318 =>
                intro v22310 w22312 h22313 q22317 b22311 j22315 f22314
                have f22319 := Fr.trans f20637 f22314 (by decide)
                have f22320 := Fr.trans f20632 f22314 (by decide)
                refine x_iload (np := 49) (x := 2) (by decide +kernel) rfl (by first | decide | omega) ?_
                refine x_aload (np := 50) (x := 0) (by decide +kernel) rfl (x_nc_le (by decide)) ?_
                have q22321 : h22313 75 1 = 76 := by have z := jB (e := 1) 0 j22315 rg_75_1_0_1 (by decide) (by decide); omega
                refine x_getR (np := 53) (x := 705) (f := 1) (q := 76) (by decide +kernel) (by decide) (by decide +kernel) q22321 ?_
                refine x_const (np := 54) (x := 9223372056182128644) (a := 2147483652) (by decide +kernel) (by decide) (by decide) ?_
                have q22322 : h22313 76 4 = h20631 76 4 := jK 0 f22314 rg_76_4_0_1 (by first | decide | omega) (by first | decide | omega) (by decide)
                have q22323 : h20631 76 4 = h132 76 4 := jK 0 f20632 rg_76_4_0_1 (by first | decide | omega) (by first | decide | omega) (by decide)
                have q22324 : h132 76 4 = h10 76 4 := jK 0 f133 rg_76_4_0_1 (by first | decide | omega) (by first | decide | omega) (by decide)
                have q22325 : h10 76 4 = h4 76 4 := by rw [← e12]; exact x_up_k (by decide)
                have q22326 : h4 76 4 = h 76 4 := jK 0 f6 rg_76_4_0_1 (by first | decide | omega) (by first | decide | omega) (by decide)
                have b22327 := jB (e := 4) 0 hJ rg_76_4_0_1 (by first | decide | omega) (by first | decide | omega)
                refine x_aldC (np := 55) (x := 0) (n := 1952) (i := 4) (q := (h 76 4)) (by decide +kernel) (by decide +kernel) (by first | decide | omega) (by first | decide | omega) (by decide) ((((q22322.trans q22323).trans q22324).trans q22325).trans q22326) (fun l22328 => ?_)
                refine x_icmp (k := 3) (tg := 132) (np := 58) (by decide +kernel) (by decide) (by first | decide | omega) l22328 (fun q22329 => ?_) (fun q22330 => ?_)
                · have q22329 : (h 76 4) ≤ v22310 := q22329
                  refine x_iinc (np := 135) (i := 1) (j := 2147483649) (v := (1 + v20627)) (lo' := [x_r 75, iv_c (1 + v20627), iv_c v22310, w22312]) (by decide +kernel) (by decide) (by decide) rfl (by first | decide | omega) (by first | decide | omega) (by first | decide | omega) rfl ?_
                  refine x_goto (np := 138) (x := 40) (by decide +kernel) ?_
                  exact i20636 (1 + v20627) (iv_c v22310) w22312 h22313 (by first | decide | omega) (by first | decide | omega) j22315 f22320
                have q22330 : ¬ ((h 76 4) ≤ v22310) := q22330
                refine x_aload (np := 59) (x := 0) (by decide +kernel) rfl (x_nc_le (by decide)) ?_
                refine x_iload (np := 60) (x := 2) (by decide +kernel) rfl (by first | decide | omega) ?_
                refine x_const (np := 61) (x := 9223372051887161347) (a := 2147483651) (by decide +kernel) (by decide) (by decide) ?_
                refine x_nI (t := 6) (mj := 163) (n := 3) (rc := 12) (ml := 3) (nr := 0) (np := 64) (as := [x_r 75, iv_c v22310, iv_c 2147483651]) (rest := []) (lo1 := [x_r 75, iv_c v22310, iv_c 2147483651]) (by decide +kernel) (by decide) (by decide +kernel) (x_rb_of (by decide +kernel)) rfl rfl (x_wr (by decide) (x_wi (by first | decide | omega) (x_wi (by decide) x_wn))) x_wn (by decide) rfl ?_
                refine x_aload (np := 1) (x := 0) (by decide +kernel) rfl (x_nc_le (by decide)) ?_
                have q22331 : h22313 75 1 = 76 := by have z := jB (e := 1) 0 j22315 rg_75_1_0_1 (by decide) (by decide); omega
                refine x_getR (np := 4) (x := 705) (f := 1) (q := 76) (by decide +kernel) (by decide) (by decide +kernel) q22331 ?_
                refine x_const (np := 7) (x := 9223372897995718856) (a := 2147483848) (by decide +kernel) (by decide) (by decide) ?_
                refine x_const (np := 8) (x := 9223372060477095941) (a := 2147483653) (by decide +kernel) (by decide) (by decide) ?_
                refine x_iload (np := 9) (x := 1) (by decide +kernel) rfl (by first | decide | omega) ?_
                obtain ⟨u22332, q22333⟩ : ∃ z, v22310 = 2147483648 + z := ⟨v22310 - 2147483648, by first | decide | omega⟩
                refine x_imul (np := 10) (x := 0) (i := 5) (j := u22332) (v := (2147483648 + 5 * u22332)) (by decide +kernel) (by first | decide | omega) (by first | decide | omega) (by first | decide | omega) (by first | decide | omega) (by decide) (by first | decide | omega) ?_
                refine x_iadd (np := 11) (x := 0) (v := (2147483848 + 5 * u22332)) (by decide +kernel) (by decide) (by first | decide | omega) (by first | decide | omega) (by first | decide | omega) ?_
                refine x_iload (np := 12) (x := 2) (by decide +kernel) rfl (by decide) ?_
                refine x_iadd (np := 13) (x := 0) (v := (2147483851 + 5 * u22332)) (by decide +kernel) (by first | decide | omega) (by decide) (by first | decide | omega) (by first | decide | omega) ?_
                have q22335 : h22313 76 (203 + 5 * u22332) = h20631 76 (203 + 5 * u22332) := jK u22332 f22314 rg_76_203_5_10 (by first | decide | omega) (by first | decide | omega) (by decide)
                have q22336 : h20631 76 (203 + 5 * u22332) = h132 76 (203 + 5 * u22332) := jK u22332 f20632 rg_76_203_5_10 (by first | decide | omega) (by first | decide | omega) (by decide)
                have q22337 : h132 76 (203 + 5 * u22332) = h10 76 (203 + 5 * u22332) := jK u22332 f133 rg_76_203_5_10 (by first | decide | omega) (by first | decide | omega) (by decide)
                have q22338 : h10 76 (203 + 5 * u22332) = h4 76 (203 + 5 * u22332) := by rw [← e12]; exact x_up_k (by decide)
                have q22339 : h4 76 (203 + 5 * u22332) = h 76 (203 + 5 * u22332) := jK u22332 f6 rg_76_203_5_10 (by first | decide | omega) (by first | decide | omega) (by decide)
                have b22340 := jB (e := (203 + 5 * u22332)) u22332 hJ rg_76_203_5_10 (by first | decide | omega) (by first | decide | omega)
                refine x_aldC (np := 14) (x := 0) (n := 1952) (i := (203 + 5 * u22332)) (q := ((h 76 (203 + 5 * u22332)))) (by decide +kernel) (by decide +kernel) (by first | decide | omega) (by first | decide | omega) (by decide) ((((q22335.trans q22336).trans q22337).trans q22338).trans q22339) (fun l22341 => ?_)
                refine x_retI (np := 15) (x := 0) (by decide +kernel) l22341 (Or.inl (by decide +kernel)) ⟨_, rfl, l22341, ?_⟩
                refine x_iload (np := 65) (x := 1) (by decide +kernel) rfl (by first | decide | omega) ?_
                refine x_icmp (k := 0) (tg := 71) (np := 68) (by decide +kernel) (by decide) l22341 (by first | decide | omega) (fun q22342 => ?_) (fun q22343 => ?_)
                · have q22342 : ((h 76 (203 + 5 * u22332))) = v20627 := q22342
                  refine x_aload (np := 72) (x := 0) (by decide +kernel) rfl (x_nc_le (by decide)) ?_
                  refine x_iload (np := 73) (x := 2) (by decide +kernel) rfl (by first | decide | omega) ?_
                  refine x_nI (t := 6) (mj := 228) (n := 2) (rc := 12) (ml := 4) (nr := 0) (np := 76) (as := [x_r 75, iv_c v22310]) (rest := []) (lo1 := [x_r 75, iv_c v22310, 147573952589676412928, 147573952589676412928]) (by decide +kernel) (by decide) (by decide +kernel) (x_rb_of (by decide +kernel)) rfl rfl (x_wr (by decide) (x_wi (by first | decide | omega) x_wn)) x_wn (by decide) rfl ?_
                  refine x_aload (np := 1) (x := 0) (by decide +kernel) rfl (x_nc_le (by decide)) ?_
                  refine x_iload (np := 2) (x := 1) (by decide +kernel) rfl (by first | decide | omega) ?_
                  refine x_const (np := 3) (x := 9223372043297226753) (a := 2147483649) (by decide +kernel) (by decide) (by decide) ?_
                  refine x_nI (t := 6) (mj := 163) (n := 3) (rc := 12) (ml := 3) (nr := 0) (np := 6) (as := [x_r 75, iv_c v22310, iv_c 2147483649]) (rest := []) (lo1 := [x_r 75, iv_c v22310, iv_c 2147483649]) (by decide +kernel) (by decide) (by decide +kernel) (x_rb_of (by decide +kernel)) rfl rfl (x_wr (by decide) (x_wi (by first | decide | omega) (x_wi (by decide) x_wn))) x_wn (by decide) rfl ?_
                  refine x_aload (np := 1) (x := 0) (by decide +kernel) rfl (x_nc_le (by decide)) ?_
                  have q22344 : h22313 75 1 = 76 := by have z := jB (e := 1) 0 j22315 rg_75_1_0_1 (by decide) (by decide); omega
                  refine x_getR (np := 4) (x := 705) (f := 1) (q := 76) (by decide +kernel) (by decide) (by decide +kernel) q22344 ?_
                  refine x_const (np := 7) (x := 9223372897995718856) (a := 2147483848) (by decide +kernel) (by decide) (by decide) ?_
                  refine x_const (np := 8) (x := 9223372060477095941) (a := 2147483653) (by decide +kernel) (by decide) (by decide) ?_
                  refine x_iload (np := 9) (x := 1) (by decide +kernel) rfl (by first | decide | omega) ?_
                  refine x_imul (np := 10) (x := 0) (i := 5) (j := u22332) (v := (2147483648 + 5 * u22332)) (by decide +kernel) (by first | decide | omega) (by first | decide | omega) (by first | decide | omega) (by first | decide | omega) (by decide) (by first | decide | omega) ?_
                  refine x_iadd (np := 11) (x := 0) (v := (2147483848 + 5 * u22332)) (by decide +kernel) (by decide) (by first | decide | omega) (by first | decide | omega) (by first | decide | omega) ?_
                  refine x_iload (np := 12) (x := 2) (by decide +kernel) rfl (by decide) ?_
                  refine x_iadd (np := 13) (x := 0) (v := (2147483849 + 5 * u22332)) (by decide +kernel) (by first | decide | omega) (by decide) (by first | decide | omega) (by first | decide | omega) ?_
                  have q22346 : h22313 76 (201 + 5 * u22332) = h20631 76 (201 + 5 * u22332) := jK u22332 f22314 rg_76_201_5_10 (by first | decide | omega) (by first | decide | omega) (by decide)
                  have q22347 : h20631 76 (201 + 5 * u22332) = h132 76 (201 + 5 * u22332) := jK u22332 f20632 rg_76_201_5_10 (by first | decide | omega) (by first | decide | omega) (by decide)
                  have q22348 : h132 76 (201 + 5 * u22332) = h10 76 (201 + 5 * u22332) := jK u22332 f133 rg_76_201_5_10 (by first | decide | omega) (by first | decide | omega) (by decide)
                  have q22349 : h10 76 (201 + 5 * u22332) = h4 76 (201 + 5 * u22332) := by rw [← e12]; exact x_up_k (by decide)
                  have q22350 : h4 76 (201 + 5 * u22332) = h 76 (201 + 5 * u22332) := jK u22332 f6 rg_76_201_5_10 (by first | decide | omega) (by first | decide | omega) (by decide)
                  have b22351 := jB (e := (201 + 5 * u22332)) u22332 hJ rg_76_201_5_10 (by first | decide | omega) (by first | decide | omega)
                  refine x_aldC (np := 14) (x := 0) (n := 1952) (i := (201 + 5 * u22332)) (q := ((h 76 (201 + 5 * u22332)))) (by decide +kernel) (by decide +kernel) (by first | decide | omega) (by first | decide | omega) (by decide) ((((q22346.trans q22347).trans q22348).trans q22349).trans q22350) (fun l22352 => ?_)
                  refine x_retI (np := 15) (x := 0) (by decide +kernel) l22352 (Or.inl (by decide +kernel)) ⟨_, rfl, l22352, ?_⟩
                  refine x_istore (np := 7) (x := 2) (lo' := [x_r 75, iv_c v22310, iv_c ((h 76 (201 + 5 * u22332))), 147573952589676412928]) (by decide +kernel) l22352 (Nat.le_of_ble_eq_true rfl) rfl ?_
                  refine x_aload (np := 8) (x := 0) (by decide +kernel) rfl (x_nc_le (by decide)) ?_
                  refine x_iload (np := 9) (x := 1) (by decide +kernel) rfl (by first | decide | omega) ?_
                  refine x_const (np := 10) (x := 9223372051887161347) (a := 2147483651) (by decide +kernel) (by decide) (by decide) ?_
                  refine x_nI (t := 6) (mj := 163) (n := 3) (rc := 12) (ml := 3) (nr := 0) (np := 13) (as := [x_r 75, iv_c v22310, iv_c 2147483651]) (rest := []) (lo1 := [x_r 75, iv_c v22310, iv_c 2147483651]) (by decide +kernel) (by decide) (by decide +kernel) (x_rb_of (by decide +kernel)) rfl rfl (x_wr (by decide) (x_wi (by first | decide | omega) (x_wi (by decide) x_wn))) x_wn (by decide) rfl ?_
                  refine x_aload (np := 1) (x := 0) (by decide +kernel) rfl (x_nc_le (by decide)) ?_
                  have q22353 : h22313 75 1 = 76 := by have z := jB (e := 1) 0 j22315 rg_75_1_0_1 (by decide) (by decide); omega
                  refine x_getR (np := 4) (x := 705) (f := 1) (q := 76) (by decide +kernel) (by decide) (by decide +kernel) q22353 ?_
                  refine x_const (np := 7) (x := 9223372897995718856) (a := 2147483848) (by decide +kernel) (by decide) (by decide) ?_
                  refine x_const (np := 8) (x := 9223372060477095941) (a := 2147483653) (by decide +kernel) (by decide) (by decide) ?_
                  refine x_iload (np := 9) (x := 1) (by decide +kernel) rfl (by first | decide | omega) ?_
                  refine x_imul (np := 10) (x := 0) (i := 5) (j := u22332) (v := (2147483648 + 5 * u22332)) (by decide +kernel) (by first | decide | omega) (by first | decide | omega) (by first | decide | omega) (by first | decide | omega) (by decide) (by first | decide | omega) ?_
                  refine x_iadd (np := 11) (x := 0) (v := (2147483848 + 5 * u22332)) (by decide +kernel) (by decide) (by first | decide | omega) (by first | decide | omega) (by first | decide | omega) ?_
                  refine x_iload (np := 12) (x := 2) (by decide +kernel) rfl (by decide) ?_
                  refine x_iadd (np := 13) (x := 0) (v := (2147483851 + 5 * u22332)) (by decide +kernel) (by first | decide | omega) (by decide) (by first | decide | omega) (by first | decide | omega) ?_
                  have q22355 : h22313 76 (203 + 5 * u22332) = h20631 76 (203 + 5 * u22332) := jK u22332 f22314 rg_76_203_5_10 (by first | decide | omega) (by first | decide | omega) (by decide)
                  have q22356 : h20631 76 (203 + 5 * u22332) = h132 76 (203 + 5 * u22332) := jK u22332 f20632 rg_76_203_5_10 (by first | decide | omega) (by first | decide | omega) (by decide)
                  have q22357 : h132 76 (203 + 5 * u22332) = h10 76 (203 + 5 * u22332) := jK u22332 f133 rg_76_203_5_10 (by first | decide | omega) (by first | decide | omega) (by decide)
                  have q22358 : h10 76 (203 + 5 * u22332) = h4 76 (203 + 5 * u22332) := by rw [← e12]; exact x_up_k (by decide)
                  have q22359 : h4 76 (203 + 5 * u22332) = h 76 (203 + 5 * u22332) := jK u22332 f6 rg_76_203_5_10 (by first | decide | omega) (by first | decide | omega) (by decide)
                  refine x_aldC (np := 14) (x := 0) (n := 1952) (i := (203 + 5 * u22332)) (q := ((h 76 (203 + 5 * u22332)))) (by decide +kernel) (by decide +kernel) (by first | decide | omega) (by first | decide | omega) (by decide) ((((q22355.trans q22356).trans q22357).trans q22358).trans q22359) (fun l22360 => ?_)
                  refine x_retI (np := 15) (x := 0) (by decide +kernel) l22341 (Or.inl (by decide +kernel)) ⟨_, rfl, l22341, ?_⟩
                  refine x_istore (np := 14) (x := 3) (lo' := [x_r 75, iv_c v22310, iv_c ((h 76 (201 + 5 * u22332))), iv_c ((h 76 (203 + 5 * u22332)))]) (by decide +kernel) l22341 (Nat.le_of_ble_eq_true rfl) rfl ?_
                  refine x_aload (np := 15) (x := 0) (by decide +kernel) rfl (x_nc_le (by decide)) ?_
                  refine x_iload (np := 16) (x := 1) (by decide +kernel) rfl (by first | decide | omega) ?_
                  refine x_const (np := 17) (x := 9223372039002259456) (a := 2147483648) (by decide +kernel) (by decide) (by decide) ?_
                  refine x_nI (t := 6) (mj := 163) (n := 3) (rc := 12) (ml := 3) (nr := 0) (np := 20) (as := [x_r 75, iv_c v22310, iv_c 2147483648]) (rest := []) (lo1 := [x_r 75, iv_c v22310, iv_c 2147483648]) (by decide +kernel) (by decide) (by decide +kernel) (x_rb_of (by decide +kernel)) rfl rfl (x_wr (by decide) (x_wi (by first | decide | omega) (x_wi (by decide) x_wn))) x_wn (by decide) rfl ?_
                  refine x_aload (np := 1) (x := 0) (by decide +kernel) rfl (x_nc_le (by decide)) ?_
                  have q22361 : h22313 75 1 = 76 := by have z := jB (e := 1) 0 j22315 rg_75_1_0_1 (by decide) (by decide); omega
                  refine x_getR (np := 4) (x := 705) (f := 1) (q := 76) (by decide +kernel) (by decide) (by decide +kernel) q22361 ?_
                  refine x_const (np := 7) (x := 9223372897995718856) (a := 2147483848) (by decide +kernel) (by decide) (by decide) ?_
                  refine x_const (np := 8) (x := 9223372060477095941) (a := 2147483653) (by decide +kernel) (by decide) (by decide) ?_
                  refine x_iload (np := 9) (x := 1) (by decide +kernel) rfl (by first | decide | omega) ?_
                  refine x_imul (np := 10) (x := 0) (i := 5) (j := u22332) (v := (2147483648 + 5 * u22332)) (by decide +kernel) (by first | decide | omega) (by first | decide | omega) (by first | decide | omega) (by first | decide | omega) (by decide) (by first | decide | omega) ?_
                  refine x_iadd (np := 11) (x := 0) (v := (2147483848 + 5 * u22332)) (by decide +kernel) (by decide) (by first | decide | omega) (by first | decide | omega) (by first | decide | omega) ?_
                  refine x_iload (np := 12) (x := 2) (by decide +kernel) rfl (by decide) ?_
                  refine x_iadd (np := 13) (x := 0) (v := (2147483848 + 5 * u22332)) (by decide +kernel) (by first | decide | omega) (by decide) (by first | decide | omega) (by first | decide | omega) ?_
                  have q22363 : h22313 76 (200 + 5 * u22332) = h20631 76 (200 + 5 * u22332) := jK u22332 f22314 rg_76_200_5_10 (by first | decide | omega) (by first | decide | omega) (by decide)
                  have q22364 : h20631 76 (200 + 5 * u22332) = h132 76 (200 + 5 * u22332) := jK u22332 f20632 rg_76_200_5_10 (by first | decide | omega) (by first | decide | omega) (by decide)
                  have q22365 : h132 76 (200 + 5 * u22332) = h10 76 (200 + 5 * u22332) := jK u22332 f133 rg_76_200_5_10 (by first | decide | omega) (by first | decide | omega) (by decide)
                  have q22366 : h10 76 (200 + 5 * u22332) = h4 76 (200 + 5 * u22332) := by rw [← e12]; exact x_up_k (by decide)
                  have q22367 : h4 76 (200 + 5 * u22332) = h 76 (200 + 5 * u22332) := jK u22332 f6 rg_76_200_5_10 (by first | decide | omega) (by first | decide | omega) (by decide)
                  refine x_aldC (np := 14) (x := 0) (n := 1952) (i := (200 + 5 * u22332)) (q := ((h 76 (200 + 5 * u22332)))) (by decide +kernel) (by decide +kernel) (by first | decide | omega) (by first | decide | omega) (by decide) ((((q22363.trans q22364).trans q22365).trans q22366).trans q22367) (fun l22368 => ?_)
                  refine x_retI (np := 15) (x := 0) (by decide +kernel) l22368 (Or.inl (by decide +kernel)) ⟨_, rfl, l22368, ?_⟩
                  refine x_const (np := 21) (x := 9223372043297226753) (a := 2147483649) (by decide +kernel) (by decide) (by decide) ?_
                  refine x_icmp (k := 1) (tg := 33) (np := 24) (by decide +kernel) (by decide) l22368 (by decide) (fun q22369 => ?_) (fun q22370 => ?_)
                  · have q22369 : ((h 76 (200 + 5 * u22332))) ≠ 2147483649 := q22369
                    refine x_aload (np := 34) (x := 0) (by decide +kernel) rfl (x_nc_le (by decide)) ?_
                    refine x_iload (np := 35) (x := 2) (by decide +kernel) rfl l22352 ?_
                    refine x_iload (np := 36) (x := 3) (by decide +kernel) rfl l22341 ?_
                    refine x_cP (t := 6) (mj := 200) (n := 3) (rc := 12) (ml := 3) (nr := 0) (np := 39) (as := [x_r 75, iv_c ((h 76 (201 + 5 * u22332))), iv_c ((h 76 (203 + 5 * u22332)))]) (rest := []) (lo1 := [x_r 75, iv_c ((h 76 (201 + 5 * u22332))), iv_c ((h 76 (203 + 5 * u22332)))]) (by decide +kernel) (by decide) (by decide +kernel) (x_rb_of (by decide +kernel)) rfl rfl (x_wr (by decide) (x_wi l22352 (x_wi l22341 x_wn))) x_wn (by decide) rfl (c200_75 j22315  (by first | decide | omega) (by first | decide | omega)) (fun v22371 l22372 q22373 => ?_)
                    refine x_ifz (k := 0) (tg := 46) (np := 42) (by decide +kernel) (by decide) l22372 (fun q22374 => ?_) (fun q22375 => ?_)
                    · have q22374 : v22371 = 2147483648 := q22374
                      refine x_const (np := 47) (x := 9223372034707292159) (a := 2147483647) (by decide +kernel) (by decide) (by decide) ?_
                      refine x_retI (np := 48) (x := 0) (by decide +kernel) (by decide) (Or.inl (by decide +kernel)) ⟨_, rfl, (by decide), ?_⟩
                      refine x_istore (np := 77) (x := 3) (lo' := [x_r 75, iv_c v20627, iv_c v22310, iv_c 2147483647]) (by decide +kernel) (by decide) (Nat.le_of_ble_eq_true rfl) rfl ?_
                      refine x_iload (np := 78) (x := 3) (by decide +kernel) rfl (by decide) ?_
                      refine x_ifz (k := 2) (tg := 96) (np := 81) (by decide +kernel) (by decide) (by decide) (fun q22376 => ?_) (fun q22377 => ?_)
                      · have q22376 : 2147483647 < 2147483648 := q22376
                        refine x_aload (np := 97) (x := 0) (by decide +kernel) rfl (x_nc_le (by decide)) ?_
                        refine x_dup (np := 98) (x := 0) (by decide +kernel) (by have z := x_nc_le (k := 75) (by decide); unfold x_r; omega) ?_
                        refine x_getC (np := 101) (x := 730) (f := 26) (q := (h22313 75 26)) (by decide +kernel) (by decide) (by decide +kernel) rfl (fun l22378 => ?_)
                        refine x_const (np := 102) (x := 9223372043297226753) (a := 2147483649) (by decide +kernel) (by decide) (by decide) ?_
                        refine x_iload (np := 103) (x := 2) (by decide +kernel) rfl (by first | decide | omega) ?_
                        refine x_any (np := 104) (k9 := 3) (by decide +kernel) (by decide) (by decide) (by first | decide | omega) (fun v22379 l22380 => ?_)
                        refine x_any (np := 105) (k9 := 1) (by decide +kernel) (by decide) l22378 l22380 (fun v22381 l22382 => ?_)
                        refine x_putI (np := 108) (x := 730) (f := 26) (by decide +kernel) (by decide +kernel) l22382 (Or.inl (by decide)) ?_
                        have j22384 := jU (e := 26) (v := v22381) 0 j22315 rg_75_26_0_1 (by first | decide | omega) (by first | decide | omega) (by first | decide | omega)
                        have f22386 := jF (e := 26) (v := v22381) 0 f22319 rg_75_26_0_1 (by first | decide | omega) (by first | decide | omega) (by decide)
                        have f22387 := jF (e := 26) (v := v22381) 0 f22320 rg_75_26_0_1 (by first | decide | omega) (by first | decide | omega) (by decide)
                        have f22388 := jF (e := 26) (v := v22381) 0 f22314 rg_75_26_0_1 (by first | decide | omega) (by first | decide | omega) (by decide)
                        generalize e22385 : x_up h22313 75 26 v22381 = h22383 at j22384 f22386 f22387 f22388 ⊢
                        refine x_goto (np := 111) (x := 126) (by decide +kernel) ?_
                        refine x_iinc (np := 129) (i := 2) (j := 2147483649) (v := (1 + v22310)) (lo' := [x_r 75, iv_c v20627, iv_c (1 + v22310), iv_c 2147483647]) (by decide +kernel) (by decide) (by decide) rfl (by first | decide | omega) (by first | decide | omega) (by first | decide | omega) rfl ?_
                        refine x_goto (np := 132) (x := 48) (by decide +kernel) ?_
                        exact i22318 (1 + v22310) (iv_c 2147483647) h22383 (by first | decide | omega) (by first | decide | omega) j22384 f22388
                      have q22377 : ¬ (2147483647 < 2147483648) := q22377
                      exfalso; omega
                    have q22375 : ¬ (v22371 = 2147483648) := q22375
                    refine x_iload (np := 43) (x := 2) (by decide +kernel) rfl l22352 ?_
                    refine x_goto (np := 46) (x := 47) (by decide +kernel) ?_
                    refine x_retI (np := 48) (x := 0) (by decide +kernel) l22352 (Or.inl (by decide +kernel)) ⟨_, rfl, l22352, ?_⟩
                    refine x_istore (np := 77) (x := 3) (lo' := [x_r 75, iv_c v20627, iv_c v22310, iv_c ((h 76 (201 + 5 * u22332)))]) (by decide +kernel) l22352 (Nat.le_of_ble_eq_true rfl) rfl ?_
                    refine x_iload (np := 78) (x := 3) (by decide +kernel) rfl l22352 ?_
                    refine x_ifz (k := 2) (tg := 96) (np := 81) (by decide +kernel) (by decide) l22352 (fun q22389 => ?_) (fun q22390 => ?_)
                    · have q22389 : ((h 76 (201 + 5 * u22332))) < 2147483648 := q22389
                      exfalso; omega
                    have q22390 : ¬ (((h 76 (201 + 5 * u22332))) < 2147483648) := q22390
                    refine x_aload (np := 82) (x := 0) (by decide +kernel) rfl (x_nc_le (by decide)) ?_
                    have q22391 : h22313 75 25 = 92 := by have z := jB (e := 25) 0 j22315 rg_75_25_0_1 (by decide) (by decide); omega
                    refine x_getR (np := 85) (x := 729) (f := 25) (q := 92) (by decide +kernel) (by decide) (by decide +kernel) q22391 ?_
                    refine x_iload (np := 86) (x := 3) (by decide +kernel) rfl l22352 ?_
                    obtain ⟨u22392, q22393⟩ : ∃ z, ((h 76 (201 + 5 * u22332))) = 2147483648 + z := ⟨((h 76 (201 + 5 * u22332))) - 2147483648, by first | decide | omega⟩
                    refine x_aldC (np := 87) (x := 0) (n := 6) (i := u22392) (q := (h22313 92 u22392)) (by decide +kernel) (by decide +kernel) (by first | decide | omega) (by first | decide | omega) (by decide) rfl (fun l22394 => ?_)
                    refine x_aload (np := 88) (x := 0) (by decide +kernel) rfl (x_nc_le (by decide)) ?_
                    refine x_iload (np := 89) (x := 2) (by decide +kernel) rfl (by first | decide | omega) ?_
                    refine x_const (np := 90) (x := 9223372056182128644) (a := 2147483652) (by decide +kernel) (by decide) (by decide) ?_
                    refine x_nI (t := 6) (mj := 163) (n := 3) (rc := 12) (ml := 3) (nr := 1) (np := 93) (as := [x_r 75, iv_c v22310, iv_c 2147483652]) (rest := [iv_c (h22313 92 u22392)]) (lo1 := [x_r 75, iv_c v22310, iv_c 2147483652]) (by decide +kernel) (by decide) (by decide +kernel) (x_rb_of (by decide +kernel)) rfl rfl (x_wr (by decide) (x_wi (by first | decide | omega) (x_wi (by decide) x_wn))) (x_wi l22394 x_wn) (by decide) rfl ?_
                    refine x_aload (np := 1) (x := 0) (by decide +kernel) rfl (x_nc_le (by decide)) ?_
                    have q22395 : h22313 75 1 = 76 := by have z := jB (e := 1) 0 j22315 rg_75_1_0_1 (by decide) (by decide); omega
                    refine x_getR (np := 4) (x := 705) (f := 1) (q := 76) (by decide +kernel) (by decide) (by decide +kernel) q22395 ?_
                    refine x_const (np := 7) (x := 9223372897995718856) (a := 2147483848) (by decide +kernel) (by decide) (by decide) ?_
                    refine x_const (np := 8) (x := 9223372060477095941) (a := 2147483653) (by decide +kernel) (by decide) (by decide) ?_
                    refine x_iload (np := 9) (x := 1) (by decide +kernel) rfl (by first | decide | omega) ?_
                    refine x_imul (np := 10) (x := 0) (i := 5) (j := u22332) (v := (2147483648 + 5 * u22332)) (by decide +kernel) (by first | decide | omega) (by first | decide | omega) (by first | decide | omega) (by first | decide | omega) (by decide) (by first | decide | omega) ?_
                    refine x_iadd (np := 11) (x := 0) (v := (2147483848 + 5 * u22332)) (by decide +kernel) (by decide) (by first | decide | omega) (by first | decide | omega) (by first | decide | omega) ?_
                    refine x_iload (np := 12) (x := 2) (by decide +kernel) rfl (by decide) ?_
                    refine x_iadd (np := 13) (x := 0) (v := (2147483852 + 5 * u22332)) (by decide +kernel) (by first | decide | omega) (by decide) (by first | decide | omega) (by first | decide | omega) ?_
                    have q22397 : h22313 76 (204 + 5 * u22332) = h20631 76 (204 + 5 * u22332) := jK u22332 f22314 rg_76_204_5_10 (by first | decide | omega) (by first | decide | omega) (by decide)
                    have q22398 : h20631 76 (204 + 5 * u22332) = h132 76 (204 + 5 * u22332) := jK u22332 f20632 rg_76_204_5_10 (by first | decide | omega) (by first | decide | omega) (by decide)
                    have q22399 : h132 76 (204 + 5 * u22332) = h10 76 (204 + 5 * u22332) := jK u22332 f133 rg_76_204_5_10 (by first | decide | omega) (by first | decide | omega) (by decide)
                    have q22400 : h10 76 (204 + 5 * u22332) = h4 76 (204 + 5 * u22332) := by rw [← e12]; exact x_up_k (by decide)
                    have q22401 : h4 76 (204 + 5 * u22332) = h 76 (204 + 5 * u22332) := jK u22332 f6 rg_76_204_5_10 (by first | decide | omega) (by first | decide | omega) (by decide)
                    refine x_aldC (np := 14) (x := 0) (n := 1952) (i := (204 + 5 * u22332)) (q := ((h 76 (204 + 5 * u22332)))) (by decide +kernel) (by decide +kernel) (by first | decide | omega) (by first | decide | omega) (by decide) ((((q22397.trans q22398).trans q22399).trans q22400).trans q22401) (fun l22402 => ?_)
                    refine x_retI (np := 15) (x := 0) (by decide +kernel) l22402 (Or.inl (by decide +kernel)) ⟨_, rfl, l22402, ?_⟩
                    refine x_icmp (k := 3) (tg := 111) (np := 96) (by decide +kernel) (by decide) l22394 l22402 (fun q22403 => ?_) (fun q22404 => ?_)
                    · have q22403 : ((h 76 (204 + 5 * u22332))) ≤ (h22313 92 u22392) := q22403
                      refine x_aload (np := 112) (x := 0) (by decide +kernel) rfl (x_nc_le (by decide)) ?_
                      have q22405 : h22313 75 25 = 92 := by have z := jB (e := 25) 0 j22315 rg_75_25_0_1 (by decide) (by decide); omega
                      refine x_getR (np := 115) (x := 729) (f := 25) (q := 92) (by decide +kernel) (by decide) (by decide +kernel) q22405 ?_
                      refine x_iload (np := 116) (x := 3) (by decide +kernel) rfl l22352 ?_
                      refine x_dup2 (np := 117) (x := 0) (by decide +kernel) (by have z := (iw_c_lt (a := ((h 76 (201 + 5 * u22332)))) l22352).1; omega) (by have z := x_nc_le (k := 92) (by decide); unfold x_r; omega) ?_
                      refine x_aldC (np := 118) (x := 0) (n := 6) (i := u22392) (q := (h22313 92 u22392)) (by decide +kernel) (by decide +kernel) (by first | decide | omega) (by first | decide | omega) (by decide) rfl (fun l22406 => ?_)
                      refine x_aload (np := 119) (x := 0) (by decide +kernel) rfl (x_nc_le (by decide)) ?_
                      refine x_iload (np := 120) (x := 2) (by decide +kernel) rfl (by first | decide | omega) ?_
                      refine x_const (np := 121) (x := 9223372056182128644) (a := 2147483652) (by decide +kernel) (by decide) (by decide) ?_
                      refine x_nI (t := 6) (mj := 163) (n := 3) (rc := 12) (ml := 3) (nr := 3) (np := 124) (as := [x_r 75, iv_c v22310, iv_c 2147483652]) (rest := [iv_c (h22313 92 u22392), iv_c ((h 76 (201 + 5 * u22332))), x_r 92]) (lo1 := [x_r 75, iv_c v22310, iv_c 2147483652]) (by decide +kernel) (by decide) (by decide +kernel) (x_rb_of (by decide +kernel)) rfl rfl (x_wr (by decide) (x_wi (by first | decide | omega) (x_wi (by decide) x_wn))) (x_wi l22394 (x_wi l22352 (x_wr (by decide) x_wn))) (by decide) rfl ?_
                      refine x_aload (np := 1) (x := 0) (by decide +kernel) rfl (x_nc_le (by decide)) ?_
                      have q22407 : h22313 75 1 = 76 := by have z := jB (e := 1) 0 j22315 rg_75_1_0_1 (by decide) (by decide); omega
                      refine x_getR (np := 4) (x := 705) (f := 1) (q := 76) (by decide +kernel) (by decide) (by decide +kernel) q22407 ?_
                      refine x_const (np := 7) (x := 9223372897995718856) (a := 2147483848) (by decide +kernel) (by decide) (by decide) ?_
                      refine x_const (np := 8) (x := 9223372060477095941) (a := 2147483653) (by decide +kernel) (by decide) (by decide) ?_
                      refine x_iload (np := 9) (x := 1) (by decide +kernel) rfl (by first | decide | omega) ?_
                      refine x_imul (np := 10) (x := 0) (i := 5) (j := u22332) (v := (2147483648 + 5 * u22332)) (by decide +kernel) (by first | decide | omega) (by first | decide | omega) (by first | decide | omega) (by first | decide | omega) (by decide) (by first | decide | omega) ?_
                      refine x_iadd (np := 11) (x := 0) (v := (2147483848 + 5 * u22332)) (by decide +kernel) (by decide) (by first | decide | omega) (by first | decide | omega) (by first | decide | omega) ?_
                      refine x_iload (np := 12) (x := 2) (by decide +kernel) rfl (by decide) ?_
                      refine x_iadd (np := 13) (x := 0) (v := (2147483852 + 5 * u22332)) (by decide +kernel) (by first | decide | omega) (by decide) (by first | decide | omega) (by first | decide | omega) ?_
                      have q22409 : h22313 76 (204 + 5 * u22332) = h20631 76 (204 + 5 * u22332) := jK u22332 f22314 rg_76_204_5_10 (by first | decide | omega) (by first | decide | omega) (by decide)
                      have q22410 : h20631 76 (204 + 5 * u22332) = h132 76 (204 + 5 * u22332) := jK u22332 f20632 rg_76_204_5_10 (by first | decide | omega) (by first | decide | omega) (by decide)
                      have q22411 : h132 76 (204 + 5 * u22332) = h10 76 (204 + 5 * u22332) := jK u22332 f133 rg_76_204_5_10 (by first | decide | omega) (by first | decide | omega) (by decide)
                      have q22412 : h10 76 (204 + 5 * u22332) = h4 76 (204 + 5 * u22332) := by rw [← e12]; exact x_up_k (by decide)
                      have q22413 : h4 76 (204 + 5 * u22332) = h 76 (204 + 5 * u22332) := jK u22332 f6 rg_76_204_5_10 (by first | decide | omega) (by first | decide | omega) (by decide)
                      refine x_aldC (np := 14) (x := 0) (n := 1952) (i := (204 + 5 * u22332)) (q := ((h 76 (204 + 5 * u22332)))) (by decide +kernel) (by decide +kernel) (by first | decide | omega) (by first | decide | omega) (by decide) ((((q22409.trans q22410).trans q22411).trans q22412).trans q22413) (fun l22414 => ?_)
                      refine x_retI (np := 15) (x := 0) (by decide +kernel) l22402 (Or.inl (by decide +kernel)) ⟨_, rfl, l22402, ?_⟩
                      refine x_subA (by rw [tb_b232]; decide +kernel) l22394 l22402 (fun v22415 l22416 => ?_)
                      refine x_ast (np := 126) (x := 0) (kd := 1) (n := 6) (i := u22392) (by decide +kernel) (Or.inl rfl) (by decide +kernel) (by first | decide | omega) (by first | decide | omega) (by decide) l22416 (fun z => absurd z (by decide)) ?_
                      have j22418 := jU (e := u22392) (v := v22415) u22392 j22315 rg_92_0_1_6 (by first | decide | omega) (by first | decide | omega) (by first | decide | omega)
                      have f22420 := jF (e := u22392) (v := v22415) u22392 f22319 rg_92_0_1_6 (by first | decide | omega) (by first | decide | omega) (by decide)
                      have f22421 := jF (e := u22392) (v := v22415) u22392 f22320 rg_92_0_1_6 (by first | decide | omega) (by first | decide | omega) (by decide)
                      have f22422 := jF (e := u22392) (v := v22415) u22392 f22314 rg_92_0_1_6 (by first | decide | omega) (by first | decide | omega) (by decide)
                      generalize e22419 : x_up h22313 92 u22392 v22415 = h22417 at j22418 f22420 f22421 f22422 ⊢
                      refine x_iinc (np := 129) (i := 2) (j := 2147483649) (v := (1 + v22310)) (lo' := [x_r 75, iv_c v20627, iv_c (1 + v22310), iv_c ((h 76 (201 + 5 * u22332)))]) (by decide +kernel) (by decide) (by decide) rfl (by first | decide | omega) (by first | decide | omega) (by first | decide | omega) rfl ?_
                      refine x_goto (np := 132) (x := 48) (by decide +kernel) ?_
                      exact i22318 (1 + v22310) (iv_c ((h 76 (201 + 5 * u22332)))) h22417 (by first | decide | omega) (by first | decide | omega) j22418 f22422
                    have q22404 : ¬ (((h 76 (204 + 5 * u22332))) ≤ (h22313 92 u22392)) := q22404
                    refine x_aload (np := 97) (x := 0) (by decide +kernel) rfl (x_nc_le (by decide)) ?_
                    refine x_dup (np := 98) (x := 0) (by decide +kernel) (by have z := x_nc_le (k := 75) (by decide); unfold x_r; omega) ?_
                    refine x_getC (np := 101) (x := 730) (f := 26) (q := (h22313 75 26)) (by decide +kernel) (by decide) (by decide +kernel) rfl (fun l22423 => ?_)
                    refine x_const (np := 102) (x := 9223372043297226753) (a := 2147483649) (by decide +kernel) (by decide) (by decide) ?_
                    refine x_iload (np := 103) (x := 2) (by decide +kernel) rfl (by first | decide | omega) ?_
                    refine x_any (np := 104) (k9 := 3) (by decide +kernel) (by decide) (by decide) (by first | decide | omega) (fun v22424 l22425 => ?_)
                    refine x_any (np := 105) (k9 := 1) (by decide +kernel) (by decide) l22423 l22425 (fun v22426 l22427 => ?_)
                    refine x_putI (np := 108) (x := 730) (f := 26) (by decide +kernel) (by decide +kernel) l22427 (Or.inl (by decide)) ?_
                    have j22429 := jU (e := 26) (v := v22426) 0 j22315 rg_75_26_0_1 (by first | decide | omega) (by first | decide | omega) (by first | decide | omega)
                    have f22431 := jF (e := 26) (v := v22426) 0 f22319 rg_75_26_0_1 (by first | decide | omega) (by first | decide | omega) (by decide)
                    have f22432 := jF (e := 26) (v := v22426) 0 f22320 rg_75_26_0_1 (by first | decide | omega) (by first | decide | omega) (by decide)
                    have f22433 := jF (e := 26) (v := v22426) 0 f22314 rg_75_26_0_1 (by first | decide | omega) (by first | decide | omega) (by decide)
                    generalize e22430 : x_up h22313 75 26 v22426 = h22428 at j22429 f22431 f22432 f22433 ⊢
                    refine x_goto (np := 111) (x := 126) (by decide +kernel) ?_
                    refine x_iinc (np := 129) (i := 2) (j := 2147483649) (v := (1 + v22310)) (lo' := [x_r 75, iv_c v20627, iv_c (1 + v22310), iv_c ((h 76 (201 + 5 * u22332)))]) (by decide +kernel) (by decide) (by decide) rfl (by first | decide | omega) (by first | decide | omega) (by first | decide | omega) rfl ?_
                    refine x_goto (np := 132) (x := 48) (by decide +kernel) ?_
                    exact i22318 (1 + v22310) (iv_c ((h 76 (201 + 5 * u22332)))) h22428 (by first | decide | omega) (by first | decide | omega) j22429 f22433
                  have q22370 : ¬ (((h 76 (200 + 5 * u22332))) ≠ 2147483649) := q22370
                  refine x_aload (np := 25) (x := 0) (by decide +kernel) rfl (x_nc_le (by decide)) ?_
                  refine x_iload (np := 26) (x := 2) (by decide +kernel) rfl l22352 ?_
                  refine x_iload (np := 27) (x := 3) (by decide +kernel) rfl l22341 ?_
                  refine x_nI (t := 6) (mj := 211) (n := 3) (rc := 12) (ml := 3) (nr := 0) (np := 30) (as := [x_r 75, iv_c ((h 76 (201 + 5 * u22332))), iv_c ((h 76 (203 + 5 * u22332)))]) (rest := []) (lo1 := [x_r 75, iv_c ((h 76 (201 + 5 * u22332))), iv_c ((h 76 (203 + 5 * u22332)))]) (by decide +kernel) (by decide) (by decide +kernel) (x_rb_of (by decide +kernel)) rfl rfl (x_wr (by decide) (x_wi l22352 (x_wi l22341 x_wn))) x_wn (by decide) rfl ?_
                  refine x_aload (np := 1) (x := 0) (by decide +kernel) rfl (x_nc_le (by decide)) ?_
                  have q22434 : h22313 75 20 = 87 := by have z := jB (e := 20) 0 j22315 rg_75_20_0_1 (by decide) (by decide); omega
                  refine x_getR (np := 4) (x := 724) (f := 20) (q := 87) (by decide +kernel) (by decide) (by decide +kernel) q22434 ?_
                  refine x_const (np := 6) (x := 9223372090541867020) (a := 2147483660) (by decide +kernel) (by decide) (by decide) ?_
                  refine x_iload (np := 7) (x := 1) (by decide +kernel) rfl l22352 ?_
                  obtain ⟨u22435, q22436⟩ : ∃ z, ((h 76 (201 + 5 * u22332))) = 2147483648 + z := ⟨((h 76 (201 + 5 * u22332))) - 2147483648, by first | decide | omega⟩
                  refine x_imul (np := 8) (x := 0) (i := 12) (j := u22435) (v := (2147483648 + 12 * u22435)) (by decide +kernel) (by first | decide | omega) (by first | decide | omega) (by first | decide | omega) (by first | decide | omega) (by decide) l22352 ?_
                  refine x_iload (np := 9) (x := 2) (by decide +kernel) rfl l22341 ?_
                  refine x_iadd (np := 10) (x := 0) (v := (12 * u22435 + (h 76 (203 + 5 * u22332)))) (by decide +kernel) (by first | decide | omega) l22341 (by first | decide | omega) (by first | decide | omega) ?_
                  obtain ⟨u22438, q22439⟩ : ∃ z, ((h 76 (203 + 5 * u22332))) = 2147483648 + z := ⟨((h 76 (203 + 5 * u22332))) - 2147483648, by first | decide | omega⟩
                  have q22440 : h22313 87 (12 * u22435 + u22438) = h20631 87 (12 * u22435 + u22438) := jK (12 * u22435 + u22438) f22314 rg_87_0_1_72 (by first | decide | omega) (by first | decide | omega) (by decide)
                  have q22441 : h20631 87 (12 * u22435 + u22438) = h132 87 (12 * u22435 + u22438) := jK (12 * u22435 + u22438) f20632 rg_87_0_1_72 (by first | decide | omega) (by first | decide | omega) (by decide)
                  have q22442 : h132 87 (12 * u22435 + u22438) = h10 87 (12 * u22435 + u22438) := jK (12 * u22435 + u22438) f133 rg_87_0_1_72 (by first | decide | omega) (by first | decide | omega) (by decide)
                  have q22443 : h10 87 (12 * u22435 + u22438) = h4 87 (12 * u22435 + u22438) := by rw [← e12]; exact x_up_k (by decide)
                  have b22444 := jB (e := (12 * u22435 + u22438)) (12 * u22435 + u22438) j5 rg_87_0_1_72 (by first | decide | omega) (by first | decide | omega)
                  refine x_aldC (np := 11) (x := 0) (n := 72) (i := (12 * u22435 + u22438)) (q := ((h4 87 (12 * u22435 + u22438)))) (by decide +kernel) (by decide +kernel) (by first | decide | omega) (by first | decide | omega) (by decide) (((q22440.trans q22441).trans q22442).trans q22443) (fun l22445 => ?_)
                  refine x_retI (np := 12) (x := 0) (by decide +kernel) l22445 (Or.inl (by decide +kernel)) ⟨_, rfl, l22445, ?_⟩
                  refine x_goto (np := 33) (x := 47) (by decide +kernel) ?_
                  refine x_retI (np := 48) (x := 0) (by decide +kernel) l22445 (Or.inl (by decide +kernel)) ⟨_, rfl, l22445, ?_⟩
                  refine x_istore (np := 77) (x := 3) (lo' := [x_r 75, iv_c v20627, iv_c v22310, iv_c ((h4 87 (12 * u22435 + u22438)))]) (by decide +kernel) l22445 (Nat.le_of_ble_eq_true rfl) rfl ?_
                  refine x_iload (np := 78) (x := 3) (by decide +kernel) rfl l22445 ?_
                  refine x_ifz (k := 2) (tg := 96) (np := 81) (by decide +kernel) (by decide) l22445 (fun q22446 => ?_) (fun q22447 => ?_)
                  · have q22446 : ((h4 87 (12 * u22435 + u22438))) < 2147483648 := q22446
                    refine x_aload (np := 97) (x := 0) (by decide +kernel) rfl (x_nc_le (by decide)) ?_
                    refine x_dup (np := 98) (x := 0) (by decide +kernel) (by have z := x_nc_le (k := 75) (by decide); unfold x_r; omega) ?_
                    refine x_getC (np := 101) (x := 730) (f := 26) (q := (h22313 75 26)) (by decide +kernel) (by decide) (by decide +kernel) rfl (fun l22448 => ?_)
                    refine x_const (np := 102) (x := 9223372043297226753) (a := 2147483649) (by decide +kernel) (by decide) (by decide) ?_
                    refine x_iload (np := 103) (x := 2) (by decide +kernel) rfl (by first | decide | omega) ?_
                    refine x_any (np := 104) (k9 := 3) (by decide +kernel) (by decide) (by decide) (by first | decide | omega) (fun v22449 l22450 => ?_)
                    refine x_any (np := 105) (k9 := 1) (by decide +kernel) (by decide) l22448 l22450 (fun v22451 l22452 => ?_)
                    refine x_putI (np := 108) (x := 730) (f := 26) (by decide +kernel) (by decide +kernel) l22452 (Or.inl (by decide)) ?_
                    have j22454 := jU (e := 26) (v := v22451) 0 j22315 rg_75_26_0_1 (by first | decide | omega) (by first | decide | omega) (by first | decide | omega)
                    have f22456 := jF (e := 26) (v := v22451) 0 f22319 rg_75_26_0_1 (by first | decide | omega) (by first | decide | omega) (by decide)
                    have f22457 := jF (e := 26) (v := v22451) 0 f22320 rg_75_26_0_1 (by first | decide | omega) (by first | decide | omega) (by decide)
                    have f22458 := jF (e := 26) (v := v22451) 0 f22314 rg_75_26_0_1 (by first | decide | omega) (by first | decide | omega) (by decide)
                    generalize e22455 : x_up h22313 75 26 v22451 = h22453 at j22454 f22456 f22457 f22458 ⊢
                    refine x_goto (np := 111) (x := 126) (by decide +kernel) ?_
                    refine x_iinc (np := 129) (i := 2) (j := 2147483649) (v := (1 + v22310)) (lo' := [x_r 75, iv_c v20627, iv_c (1 + v22310), iv_c ((h4 87 (12 * u22435 + u22438)))]) (by decide +kernel) (by decide) (by decide) rfl (by first | decide | omega) (by first | decide | omega) (by first | decide | omega) rfl ?_
                    refine x_goto (np := 132) (x := 48) (by decide +kernel) ?_
                    exact i22318 (1 + v22310) (iv_c ((h4 87 (12 * u22435 + u22438)))) h22453 (by first | decide | omega) (by first | decide | omega) j22454 f22458
                  have q22447 : ¬ (((h4 87 (12 * u22435 + u22438))) < 2147483648) := q22447
                  refine x_aload (np := 82) (x := 0) (by decide +kernel) rfl (x_nc_le (by decide)) ?_
                  have q22459 : h22313 75 25 = 92 := by have z := jB (e := 25) 0 j22315 rg_75_25_0_1 (by decide) (by decide); omega
                  refine x_getR (np := 85) (x := 729) (f := 25) (q := 92) (by decide +kernel) (by decide) (by decide +kernel) q22459 ?_
                  refine x_iload (np := 86) (x := 3) (by decide +kernel) rfl l22445 ?_
                  obtain ⟨u22460, q22461⟩ : ∃ z, ((h4 87 (12 * u22435 + u22438))) = 2147483648 + z := ⟨((h4 87 (12 * u22435 + u22438))) - 2147483648, by first | decide | omega⟩
                  refine x_aldC (np := 87) (x := 0) (n := 6) (i := u22460) (q := (h22313 92 u22460)) (by decide +kernel) (by decide +kernel) (by first | decide | omega) (by first | decide | omega) (by decide) rfl (fun l22462 => ?_)
                  refine x_aload (np := 88) (x := 0) (by decide +kernel) rfl (x_nc_le (by decide)) ?_
                  refine x_iload (np := 89) (x := 2) (by decide +kernel) rfl (by first | decide | omega) ?_
                  refine x_const (np := 90) (x := 9223372056182128644) (a := 2147483652) (by decide +kernel) (by decide) (by decide) ?_
                  refine x_nI (t := 6) (mj := 163) (n := 3) (rc := 12) (ml := 3) (nr := 1) (np := 93) (as := [x_r 75, iv_c v22310, iv_c 2147483652]) (rest := [iv_c (h22313 92 u22460)]) (lo1 := [x_r 75, iv_c v22310, iv_c 2147483652]) (by decide +kernel) (by decide) (by decide +kernel) (x_rb_of (by decide +kernel)) rfl rfl (x_wr (by decide) (x_wi (by first | decide | omega) (x_wi (by decide) x_wn))) (x_wi l22462 x_wn) (by decide) rfl ?_
                  refine x_aload (np := 1) (x := 0) (by decide +kernel) rfl (x_nc_le (by decide)) ?_
                  have q22463 : h22313 75 1 = 76 := by have z := jB (e := 1) 0 j22315 rg_75_1_0_1 (by decide) (by decide); omega
                  refine x_getR (np := 4) (x := 705) (f := 1) (q := 76) (by decide +kernel) (by decide) (by decide +kernel) q22463 ?_
                  refine x_const (np := 7) (x := 9223372897995718856) (a := 2147483848) (by decide +kernel) (by decide) (by decide) ?_
                  refine x_const (np := 8) (x := 9223372060477095941) (a := 2147483653) (by decide +kernel) (by decide) (by decide) ?_
                  refine x_iload (np := 9) (x := 1) (by decide +kernel) rfl (by first | decide | omega) ?_
                  refine x_imul (np := 10) (x := 0) (i := 5) (j := u22332) (v := (2147483648 + 5 * u22332)) (by decide +kernel) (by first | decide | omega) (by first | decide | omega) (by first | decide | omega) (by first | decide | omega) (by decide) (by first | decide | omega) ?_
                  refine x_iadd (np := 11) (x := 0) (v := (2147483848 + 5 * u22332)) (by decide +kernel) (by decide) (by first | decide | omega) (by first | decide | omega) (by first | decide | omega) ?_
                  refine x_iload (np := 12) (x := 2) (by decide +kernel) rfl (by decide) ?_
                  refine x_iadd (np := 13) (x := 0) (v := (2147483852 + 5 * u22332)) (by decide +kernel) (by first | decide | omega) (by decide) (by first | decide | omega) (by first | decide | omega) ?_
                  have q22465 : h22313 76 (204 + 5 * u22332) = h20631 76 (204 + 5 * u22332) := jK u22332 f22314 rg_76_204_5_10 (by first | decide | omega) (by first | decide | omega) (by decide)
                  have q22466 : h20631 76 (204 + 5 * u22332) = h132 76 (204 + 5 * u22332) := jK u22332 f20632 rg_76_204_5_10 (by first | decide | omega) (by first | decide | omega) (by decide)
                  have q22467 : h132 76 (204 + 5 * u22332) = h10 76 (204 + 5 * u22332) := jK u22332 f133 rg_76_204_5_10 (by first | decide | omega) (by first | decide | omega) (by decide)
                  have q22468 : h10 76 (204 + 5 * u22332) = h4 76 (204 + 5 * u22332) := by rw [← e12]; exact x_up_k (by decide)
                  have q22469 : h4 76 (204 + 5 * u22332) = h 76 (204 + 5 * u22332) := jK u22332 f6 rg_76_204_5_10 (by first | decide | omega) (by first | decide | omega) (by decide)
                  refine x_aldC (np := 14) (x := 0) (n := 1952) (i := (204 + 5 * u22332)) (q := ((h 76 (204 + 5 * u22332)))) (by decide +kernel) (by decide +kernel) (by first | decide | omega) (by first | decide | omega) (by decide) ((((q22465.trans q22466).trans q22467).trans q22468).trans q22469) (fun l22470 => ?_)
                  refine x_retI (np := 15) (x := 0) (by decide +kernel) l22470 (Or.inl (by decide +kernel)) ⟨_, rfl, l22470, ?_⟩
                  refine x_icmp (k := 3) (tg := 111) (np := 96) (by decide +kernel) (by decide) l22462 l22470 (fun q22471 => ?_) (fun q22472 => ?_)
                  · have q22471 : ((h 76 (204 + 5 * u22332))) ≤ (h22313 92 u22460) := q22471
                    refine x_aload (np := 112) (x := 0) (by decide +kernel) rfl (x_nc_le (by decide)) ?_
                    have q22473 : h22313 75 25 = 92 := by have z := jB (e := 25) 0 j22315 rg_75_25_0_1 (by decide) (by decide); omega
                    refine x_getR (np := 115) (x := 729) (f := 25) (q := 92) (by decide +kernel) (by decide) (by decide +kernel) q22473 ?_
                    refine x_iload (np := 116) (x := 3) (by decide +kernel) rfl l22445 ?_
                    refine x_dup2 (np := 117) (x := 0) (by decide +kernel) (by have z := (iw_c_lt (a := ((h4 87 (12 * u22435 + u22438)))) l22445).1; omega) (by have z := x_nc_le (k := 92) (by decide); unfold x_r; omega) ?_
                    refine x_aldC (np := 118) (x := 0) (n := 6) (i := u22460) (q := (h22313 92 u22460)) (by decide +kernel) (by decide +kernel) (by first | decide | omega) (by first | decide | omega) (by decide) rfl (fun l22474 => ?_)
                    refine x_aload (np := 119) (x := 0) (by decide +kernel) rfl (x_nc_le (by decide)) ?_
                    refine x_iload (np := 120) (x := 2) (by decide +kernel) rfl (by first | decide | omega) ?_
                    refine x_const (np := 121) (x := 9223372056182128644) (a := 2147483652) (by decide +kernel) (by decide) (by decide) ?_
                    refine x_nI (t := 6) (mj := 163) (n := 3) (rc := 12) (ml := 3) (nr := 3) (np := 124) (as := [x_r 75, iv_c v22310, iv_c 2147483652]) (rest := [iv_c (h22313 92 u22460), iv_c ((h4 87 (12 * u22435 + u22438))), x_r 92]) (lo1 := [x_r 75, iv_c v22310, iv_c 2147483652]) (by decide +kernel) (by decide) (by decide +kernel) (x_rb_of (by decide +kernel)) rfl rfl (x_wr (by decide) (x_wi (by first | decide | omega) (x_wi (by decide) x_wn))) (x_wi l22462 (x_wi l22445 (x_wr (by decide) x_wn))) (by decide) rfl ?_
                    refine x_aload (np := 1) (x := 0) (by decide +kernel) rfl (x_nc_le (by decide)) ?_
                    have q22475 : h22313 75 1 = 76 := by have z := jB (e := 1) 0 j22315 rg_75_1_0_1 (by decide) (by decide); omega
                    refine x_getR (np := 4) (x := 705) (f := 1) (q := 76) (by decide +kernel) (by decide) (by decide +kernel) q22475 ?_
                    refine x_const (np := 7) (x := 9223372897995718856) (a := 2147483848) (by decide +kernel) (by decide) (by decide) ?_
                    refine x_const (np := 8) (x := 9223372060477095941) (a := 2147483653) (by decide +kernel) (by decide) (by decide) ?_
                    refine x_iload (np := 9) (x := 1) (by decide +kernel) rfl (by first | decide | omega) ?_
                    refine x_imul (np := 10) (x := 0) (i := 5) (j := u22332) (v := (2147483648 + 5 * u22332)) (by decide +kernel) (by first | decide | omega) (by first | decide | omega) (by first | decide | omega) (by first | decide | omega) (by decide) (by first | decide | omega) ?_
                    refine x_iadd (np := 11) (x := 0) (v := (2147483848 + 5 * u22332)) (by decide +kernel) (by decide) (by first | decide | omega) (by first | decide | omega) (by first | decide | omega) ?_
                    refine x_iload (np := 12) (x := 2) (by decide +kernel) rfl (by decide) ?_
                    refine x_iadd (np := 13) (x := 0) (v := (2147483852 + 5 * u22332)) (by decide +kernel) (by first | decide | omega) (by decide) (by first | decide | omega) (by first | decide | omega) ?_
                    have q22477 : h22313 76 (204 + 5 * u22332) = h20631 76 (204 + 5 * u22332) := jK u22332 f22314 rg_76_204_5_10 (by first | decide | omega) (by first | decide | omega) (by decide)
                    have q22478 : h20631 76 (204 + 5 * u22332) = h132 76 (204 + 5 * u22332) := jK u22332 f20632 rg_76_204_5_10 (by first | decide | omega) (by first | decide | omega) (by decide)
                    have q22479 : h132 76 (204 + 5 * u22332) = h10 76 (204 + 5 * u22332) := jK u22332 f133 rg_76_204_5_10 (by first | decide | omega) (by first | decide | omega) (by decide)
                    have q22480 : h10 76 (204 + 5 * u22332) = h4 76 (204 + 5 * u22332) := by rw [← e12]; exact x_up_k (by decide)
                    have q22481 : h4 76 (204 + 5 * u22332) = h 76 (204 + 5 * u22332) := jK u22332 f6 rg_76_204_5_10 (by first | decide | omega) (by first | decide | omega) (by decide)
                    refine x_aldC (np := 14) (x := 0) (n := 1952) (i := (204 + 5 * u22332)) (q := ((h 76 (204 + 5 * u22332)))) (by decide +kernel) (by decide +kernel) (by first | decide | omega) (by first | decide | omega) (by decide) ((((q22477.trans q22478).trans q22479).trans q22480).trans q22481) (fun l22482 => ?_)
                    refine x_retI (np := 15) (x := 0) (by decide +kernel) l22470 (Or.inl (by decide +kernel)) ⟨_, rfl, l22470, ?_⟩
                    refine x_subA (by rw [tb_b232]; decide +kernel) l22462 l22470 (fun v22483 l22484 => ?_)
                    refine x_ast (np := 126) (x := 0) (kd := 1) (n := 6) (i := u22460) (by decide +kernel) (Or.inl rfl) (by decide +kernel) (by first | decide | omega) (by first | decide | omega) (by decide) l22484 (fun z => absurd z (by decide)) ?_
                    have j22486 := jU (e := u22460) (v := v22483) u22460 j22315 rg_92_0_1_6 (by first | decide | omega) (by first | decide | omega) (by first | decide | omega)
                    have f22488 := jF (e := u22460) (v := v22483) u22460 f22319 rg_92_0_1_6 (by first | decide | omega) (by first | decide | omega) (by decide)
                    have f22489 := jF (e := u22460) (v := v22483) u22460 f22320 rg_92_0_1_6 (by first | decide | omega) (by first | decide | omega) (by decide)
                    have f22490 := jF (e := u22460) (v := v22483) u22460 f22314 rg_92_0_1_6 (by first | decide | omega) (by first | decide | omega) (by decide)
                    generalize e22487 : x_up h22313 92 u22460 v22483 = h22485 at j22486 f22488 f22489 f22490 ⊢
                    refine x_iinc (np := 129) (i := 2) (j := 2147483649) (v := (1 + v22310)) (lo' := [x_r 75, iv_c v20627, iv_c (1 + v22310), iv_c ((h4 87 (12 * u22435 + u22438)))]) (by decide +kernel) (by decide) (by decide) rfl (by first | decide | omega) (by first | decide | omega) (by first | decide | omega) rfl ?_
                    refine x_goto (np := 132) (x := 48) (by decide +kernel) ?_
                    exact i22318 (1 + v22310) (iv_c ((h4 87 (12 * u22435 + u22438)))) h22485 (by first | decide | omega) (by first | decide | omega) j22486 f22490
                  have q22472 : ¬ (((h 76 (204 + 5 * u22332))) ≤ (h22313 92 u22460)) := q22472
                  refine x_aload (np := 97) (x := 0) (by decide +kernel) rfl (x_nc_le (by decide)) ?_
                  refine x_dup (np := 98) (x := 0) (by decide +kernel) (by have z := x_nc_le (k := 75) (by decide); unfold x_r; omega) ?_
                  refine x_getC (np := 101) (x := 730) (f := 26) (q := (h22313 75 26)) (by decide +kernel) (by decide) (by decide +kernel) rfl (fun l22491 => ?_)
                  refine x_const (np := 102) (x := 9223372043297226753) (a := 2147483649) (by decide +kernel) (by decide) (by decide) ?_
                  refine x_iload (np := 103) (x := 2) (by decide +kernel) rfl (by first | decide | omega) ?_
                  refine x_any (np := 104) (k9 := 3) (by decide +kernel) (by decide) (by decide) (by first | decide | omega) (fun v22492 l22493 => ?_)
                  refine x_any (np := 105) (k9 := 1) (by decide +kernel) (by decide) l22491 l22493 (fun v22494 l22495 => ?_)
                  refine x_putI (np := 108) (x := 730) (f := 26) (by decide +kernel) (by decide +kernel) l22495 (Or.inl (by decide)) ?_
                  have j22497 := jU (e := 26) (v := v22494) 0 j22315 rg_75_26_0_1 (by first | decide | omega) (by first | decide | omega) (by first | decide | omega)
                  have f22499 := jF (e := 26) (v := v22494) 0 f22319 rg_75_26_0_1 (by first | decide | omega) (by first | decide | omega) (by decide)
                  have f22500 := jF (e := 26) (v := v22494) 0 f22320 rg_75_26_0_1 (by first | decide | omega) (by first | decide | omega) (by decide)
                  have f22501 := jF (e := 26) (v := v22494) 0 f22314 rg_75_26_0_1 (by first | decide | omega) (by first | decide | omega) (by decide)
                  generalize e22498 : x_up h22313 75 26 v22494 = h22496 at j22497 f22499 f22500 f22501 ⊢
                  refine x_goto (np := 111) (x := 126) (by decide +kernel) ?_
                  refine x_iinc (np := 129) (i := 2) (j := 2147483649) (v := (1 + v22310)) (lo' := [x_r 75, iv_c v20627, iv_c (1 + v22310), iv_c ((h4 87 (12 * u22435 + u22438)))]) (by decide +kernel) (by decide) (by decide) rfl (by first | decide | omega) (by first | decide | omega) (by first | decide | omega) rfl ?_
                  refine x_goto (np := 132) (x := 48) (by decide +kernel) ?_
                  exact i22318 (1 + v22310) (iv_c ((h4 87 (12 * u22435 + u22438)))) h22496 (by first | decide | omega) (by first | decide | omega) j22497 f22501
                have q22343 : ¬ (((h 76 (203 + 5 * u22332))) = v20627) := q22343
                refine x_goto (np := 71) (x := 126) (by decide +kernel) ?_
                refine x_iinc (np := 129) (i := 2) (j := 2147483649) (v := (1 + v22310)) (lo' := [x_r 75, iv_c v20627, iv_c (1 + v22310), w22312]) (by decide +kernel) (by decide) (by decide) rfl (by first | decide | omega) (by first | decide | omega) (by first | decide | omega) rfl ?_
                refine x_goto (np := 132) (x := 48) (by decide +kernel) ?_
                exact i22318 (1 + v22310) w22312 h22313 (by first | decide | omega) (by first | decide | omega) j22315 f22314
            exact p22316 _ 2147483648 w20630 h20631 (Nat.lt_succ_self _) (by first | decide | omega) j20633 (Fr.refl _ _)
        exact p20634 _ 2147483648 147573952589676412928 147573952589676412928 h132 (Nat.lt_succ_self _) (by first | decide | omega) j134 (Fr.refl _ _)
      have q140 : ¬ (2147483654 ≤ v130) := q140
      refine x_aload (np := 18) (x := 0) (by decide +kernel) rfl (x_nc_le (by decide)) ?_
      have q22502 : h132 75 25 = 92 := by have z := jB (e := 25) 0 j134 rg_75_25_0_1 (by decide) (by decide); omega
      refine x_getR (np := 21) (x := 729) (f := 25) (q := 92) (by decide +kernel) (by decide) (by decide +kernel) q22502 ?_
      refine x_iload (np := 22) (x := 1) (by decide +kernel) rfl (by first | decide | omega) ?_
      refine x_aload (np := 23) (x := 0) (by decide +kernel) rfl (x_nc_le (by decide)) ?_
      have q22503 : h132 75 1 = 76 := by have z := jB (e := 1) 0 j134 rg_75_1_0_1 (by decide) (by decide); omega
      refine x_getR (np := 26) (x := 705) (f := 1) (q := 76) (by decide +kernel) (by decide) (by decide +kernel) q22503 ?_
      refine x_const (np := 28) (x := 9223372099131801614) (a := 2147483662) (by decide +kernel) (by decide) (by decide) ?_
      refine x_iload (np := 29) (x := 1) (by decide +kernel) rfl (by first | decide | omega) ?_
      refine x_iadd (np := 30) (x := 0) (v := (14 + v130)) (by decide +kernel) (by decide) (by first | decide | omega) (by first | decide | omega) (by first | decide | omega) ?_
      obtain ⟨u22504, q22505⟩ : ∃ z, v130 = 2147483648 + z := ⟨v130 - 2147483648, by first | decide | omega⟩
      have q22506 : h132 76 (14 + u22504) = h10 76 (14 + u22504) := jK u22504 f133 rg_76_14_1_6 (by first | decide | omega) (by first | decide | omega) (by decide)
      have q22507 : h10 76 (14 + u22504) = h4 76 (14 + u22504) := by rw [← e12]; exact x_up_k (by decide)
      have q22508 : h4 76 (14 + u22504) = h 76 (14 + u22504) := jK u22504 f6 rg_76_14_1_6 (by first | decide | omega) (by first | decide | omega) (by decide)
      refine x_aldC (np := 31) (x := 0) (n := 1952) (i := (14 + u22504)) (q := (h 76 (14 + u22504))) (by decide +kernel) (by decide +kernel) (by first | decide | omega) (by first | decide | omega) (by decide) ((q22506.trans q22507).trans q22508) (fun l22509 => ?_)
      refine x_ast (np := 32) (x := 0) (kd := 1) (n := 6) (i := u22504) (by decide +kernel) (Or.inl rfl) (by decide +kernel) (by first | decide | omega) (by first | decide | omega) (by decide) l22509 (fun z => absurd z (by decide)) ?_
      have j22511 := jU (e := u22504) (v := (h 76 (14 + u22504))) u22504 j134 rg_92_0_1_6 (by first | decide | omega) (by first | decide | omega) (by first | decide | omega)
      have f22513 := jF (e := u22504) (v := (h 76 (14 + u22504))) u22504 f138 rg_92_0_1_6 (by first | decide | omega) (by first | decide | omega) (by decide)
      have f22514 := jF (e := u22504) (v := (h 76 (14 + u22504))) u22504 f133 rg_92_0_1_6 (by first | decide | omega) (by first | decide | omega) (by decide)
      generalize e22512 : x_up h132 92 u22504 (h 76 (14 + u22504)) = h22510 at j22511 f22513 f22514 ⊢
      refine x_iinc (np := 35) (i := 1) (j := 2147483649) (v := (1 + v130)) (lo' := [x_r 75, iv_c (1 + v130), 147573952589676412928, 147573952589676412928]) (by decide +kernel) (by decide) (by decide) rfl (by first | decide | omega) (by first | decide | omega) (by first | decide | omega) rfl ?_
      refine x_goto (np := 38) (x := 11) (by decide +kernel) ?_
      exact i137 (1 + v130) h22510 (by first | decide | omega) (by first | decide | omega) j22511 f22514
  exact p135 _ 2147483648 h10 (Nat.lt_succ_self _) (by first | decide | omega) j11 (Fr.refl _ _)
set_option maxHeartbeats 0 in
/-- LentNamesModel.left(I)I -/
theorem c233_75 {sc : Nat × Nat} {d a1 : Nat} {h : xh} (hJ : J h) (ba1 : 0 ≤ a1 ∧ a1 ≤ 4294967295) (hW : WT 76 h) : X sc 233 (d + 6) (xI fun r h' => J h' ∧ Fr 272730554369 h h' ∧ (0 ≤ r ∧ r ≤ 4294967295)) 0 0 0 [x_r 75, iv_c a1] [] h := by
  have la1 : a1 < 4294967296 := by first | decide | omega
  have hF := Fr.refl 272730554369 h
  refine x_aload (np := 1) (x := 0) (by decide +kernel) rfl (x_nc_le (by decide)) ?_
  refine x_const (np := 2) (x := 9223372039002259456) (a := 2147483648) (by decide +kernel) (by decide) (by decide) ?_
  refine x_putI (np := 5) (x := 704) (f := 0) (by decide +kernel) (by decide +kernel) (by decide) (Or.inl (by decide)) ?_
  have j2 := jU (e := 0) (v := 2147483648) 0 hJ rg_75_0_0_1 (by first | decide | omega) (by first | decide | omega) (by first | decide | omega)
  have f4 := jF (e := 0) (v := 2147483648) 0 hF rg_75_0_0_1 (by first | decide | omega) (by first | decide | omega) (by decide)
  generalize e3 : x_up h 75 0 2147483648 = h1 at j2 f4 ⊢
  refine x_aload (np := 6) (x := 0) (by decide +kernel) rfl (x_nc_le (by decide)) ?_
  refine x_aload (np := 7) (x := 0) (by decide +kernel) rfl (x_nc_le (by decide)) ?_
  refine x_iload (np := 8) (x := 1) (by decide +kernel) rfl la1 ?_
  refine x_nI (t := 6) (mj := 159) (n := 2) (rc := 12) (ml := 2) (nr := 1) (np := 11) (as := [x_r 75, iv_c a1]) (rest := [x_r 75]) (lo1 := [x_r 75, iv_c a1]) (by decide +kernel) (by decide) (by decide +kernel) (x_rb_of (by decide +kernel)) rfl rfl (x_wr (by decide) (x_wi la1 x_wn)) (x_wr (by decide) x_wn) (by decide) rfl ?_
  refine x_aload (np := 1) (x := 0) (by decide +kernel) rfl (x_nc_le (by decide)) ?_
  refine x_iload (np := 2) (x := 1) (by decide +kernel) rfl la1 ?_
  refine x_const (np := 3) (x := 9223372039002259456) (a := 2147483648) (by decide +kernel) (by decide) (by decide) ?_
  refine x_nI (t := 6) (mj := 158) (n := 3) (rc := 12) (ml := 3) (nr := 0) (np := 6) (as := [x_r 75, iv_c a1, iv_c 2147483648]) (rest := []) (lo1 := [x_r 75, iv_c a1, iv_c 2147483648]) (by decide +kernel) (by decide) (by decide +kernel) (x_rb_of (by decide +kernel)) rfl rfl (x_wr (by decide) (x_wi la1 (x_wi (by decide) x_wn))) x_wn (by decide) rfl ?_
  refine x_iload (np := 1) (x := 1) (by decide +kernel) rfl la1 ?_
  refine x_const (np := 2) (x := 9223372039002259456) (a := 2147483648) (by decide +kernel) (by decide) (by decide) ?_
  refine x_aload (np := 3) (x := 0) (by decide +kernel) rfl (x_nc_le (by decide)) ?_
  have q5 : h1 75 1 = 76 := by have z := jB (e := 1) 0 j2 rg_75_1_0_1 (by decide) (by decide); omega
  refine x_getR (np := 6) (x := 705) (f := 1) (q := 76) (by decide +kernel) (by decide) (by decide +kernel) q5 ?_
  refine x_iload (np := 7) (x := 2) (by decide +kernel) rfl (by decide) ?_
  have q6 : h1 76 0 = h 76 0 := by rw [← e3]; exact x_up_k (by decide)
  have b7 := jB (e := 0) 0 hJ rg_76_0_0_1 (by first | decide | omega) (by first | decide | omega)
  refine x_aldC (np := 8) (x := 0) (n := 1952) (i := 0) (q := (h 76 0)) (by decide +kernel) (by decide +kernel) (by first | decide | omega) (by first | decide | omega) (by decide) q6 (fun l8 => ?_)
  refine x_const (np := 9) (x := 9223372043297226753) (a := 2147483649) (by decide +kernel) (by decide) (by decide) ?_
  obtain ⟨v9, q10⟩ : ∃ z, z + 2147483649 = (h 76 0) + 2147483648 := ⟨(h 76 0) + 2147483648 - 2147483649, by first | decide | omega⟩
  refine x_isub (np := 10) (x := 0) (v := v9) (by decide +kernel) l8 (by decide) (by first | decide | omega) (by first | decide | omega) ?_
  refine x_nI (t := 0) (mj := 153) (n := 3) (rc := 0) (ml := 3) (nr := 0) (np := 13) (as := [iv_c a1, iv_c 2147483648, iv_c v9]) (rest := []) (lo1 := [iv_c a1, iv_c 2147483648, iv_c v9]) (by decide +kernel) (by decide) (by decide +kernel) (Or.inl rfl) rfl rfl (x_wi la1 (x_wi (by decide) (x_wi (by first | decide | omega) x_wn))) x_wn (by decide) rfl ?_
  refine x_iload (np := 1) (x := 0) (by decide +kernel) rfl la1 ?_
  refine x_iload (np := 2) (x := 1) (by decide +kernel) rfl (by decide) ?_
  refine x_icmp (k := 2) (tg := 14) (np := 5) (by decide +kernel) (by decide) la1 (by decide) (fun q11 => ?_) (fun q12 => ?_)
  · have q11 : a1 < 2147483648 := q11
    refine x_const (np := 15) (x := 9223372039002259456) (a := 2147483648) (by decide +kernel) (by decide) (by decide) ?_
    refine x_retI (np := 16) (x := 0) (by decide +kernel) (by decide) (Or.inr ⟨by decide +kernel, by first | decide | omega, by first | decide | omega⟩) ⟨_, rfl, (by decide), ?_⟩
    refine x_ifz (k := 1) (tg := 20) (np := 16) (by decide +kernel) (by decide) (by decide) (fun q13 => ?_) (fun q14 => ?_)
    · have q13 : 2147483648 ≠ 2147483648 := q13
      exfalso; omega
    have q14 : ¬ (2147483648 ≠ 2147483648) := q14
    refine x_const (np := 17) (x := 9223372043297226753) (a := 2147483649) (by decide +kernel) (by decide) (by decide) ?_
    refine x_goto (np := 20) (x := 21) (by decide +kernel) ?_
    refine x_retI (np := 22) (x := 0) (by decide +kernel) (by decide) (Or.inr ⟨by decide +kernel, by first | decide | omega, by first | decide | omega⟩) ⟨_, rfl, (by decide), ?_⟩
    refine x_retI (np := 7) (x := 0) (by decide +kernel) (by decide) (Or.inr ⟨by decide +kernel, by first | decide | omega, by first | decide | omega⟩) ⟨_, rfl, (by decide), ?_⟩
    refine x_const (np := 12) (x := 9223372043297226753) (a := 2147483649) (by decide +kernel) (by decide) (by decide) ?_
    refine x_nI (t := 6) (mj := 152) (n := 3) (rc := 12) (ml := 3) (nr := 0) (np := 15) (as := [x_r 75, iv_c 2147483649, iv_c 2147483649]) (rest := []) (lo1 := [x_r 75, iv_c 2147483649, iv_c 2147483649]) (by decide +kernel) (by decide) (by decide +kernel) (x_rb_of (by decide +kernel)) rfl rfl (x_wr (by decide) (x_wi (by decide) (x_wi (by decide) x_wn))) x_wn (by decide) rfl ?_
    refine x_iload (np := 1) (x := 1) (by decide +kernel) rfl (by decide) ?_
    refine x_ifz (k := 0) (tg := 9) (np := 4) (by decide +kernel) (by decide) (by decide) (fun q15 => ?_) (fun q16 => ?_)
    · have q15 : 2147483649 = 2147483648 := q15
      exfalso; omega
    have q16 : ¬ (2147483649 = 2147483648) := q16
    refine x_aload (np := 5) (x := 0) (by decide +kernel) rfl (x_nc_le (by decide)) ?_
    refine x_iload (np := 6) (x := 2) (by decide +kernel) rfl (by decide) ?_
    refine x_putI (np := 9) (x := 704) (f := 0) (by decide +kernel) (by decide +kernel) (by decide) (Or.inl (by decide)) ?_
    have j18 := jU (e := 0) (v := 2147483649) 0 j2 rg_75_0_0_1 (by first | decide | omega) (by first | decide | omega) (by first | decide | omega)
    have f20 := jF (e := 0) (v := 2147483649) 0 f4 rg_75_0_0_1 (by first | decide | omega) (by first | decide | omega) (by decide)
    generalize e19 : x_up h1 75 0 2147483649 = h17 at j18 f20 ⊢
    refine x_iload (np := 10) (x := 1) (by decide +kernel) rfl (by decide) ?_
    refine x_retI (np := 11) (x := 0) (by decide +kernel) (by decide) (Or.inr ⟨by decide +kernel, by first | decide | omega, by first | decide | omega⟩) ⟨_, rfl, (by decide), ?_⟩
    refine x_ifz (k := 0) (tg := 20) (np := 18) (by decide +kernel) (by decide) (by decide) (fun q21 => ?_) (fun q22 => ?_)
    · have q21 : 2147483649 = 2147483648 := q21
      exfalso; omega
    have q22 : ¬ (2147483649 = 2147483648) := q22
    refine x_const (np := 19) (x := 9223372039002259456) (a := 2147483648) (by decide +kernel) (by decide) (by decide) ?_
    refine x_retI (np := 20) (x := 0) (by decide +kernel) (by decide) (Or.inl (by decide +kernel)) ⟨_, rfl, (by decide), ?_⟩
    exact ⟨j18, f20, (by first | decide | omega)⟩
  have q12 : ¬ (a1 < 2147483648) := q12
  refine x_iload (np := 6) (x := 0) (by decide +kernel) rfl la1 ?_
  refine x_iload (np := 7) (x := 2) (by decide +kernel) rfl (by first | decide | omega) ?_
  refine x_icmp (k := 4) (tg := 14) (np := 10) (by decide +kernel) (by decide) la1 (by first | decide | omega) (fun q23 => ?_) (fun q24 => ?_)
  · have q23 : v9 < a1 := q23
    refine x_const (np := 15) (x := 9223372039002259456) (a := 2147483648) (by decide +kernel) (by decide) (by decide) ?_
    refine x_retI (np := 16) (x := 0) (by decide +kernel) (by decide) (Or.inr ⟨by decide +kernel, by first | decide | omega, by first | decide | omega⟩) ⟨_, rfl, (by decide), ?_⟩
    refine x_ifz (k := 1) (tg := 20) (np := 16) (by decide +kernel) (by decide) (by decide) (fun q25 => ?_) (fun q26 => ?_)
    · have q25 : 2147483648 ≠ 2147483648 := q25
      exfalso; omega
    have q26 : ¬ (2147483648 ≠ 2147483648) := q26
    refine x_const (np := 17) (x := 9223372043297226753) (a := 2147483649) (by decide +kernel) (by decide) (by decide) ?_
    refine x_goto (np := 20) (x := 21) (by decide +kernel) ?_
    refine x_retI (np := 22) (x := 0) (by decide +kernel) (by decide) (Or.inr ⟨by decide +kernel, by first | decide | omega, by first | decide | omega⟩) ⟨_, rfl, (by decide), ?_⟩
    refine x_retI (np := 7) (x := 0) (by decide +kernel) (by decide) (Or.inr ⟨by decide +kernel, by first | decide | omega, by first | decide | omega⟩) ⟨_, rfl, (by decide), ?_⟩
    refine x_const (np := 12) (x := 9223372043297226753) (a := 2147483649) (by decide +kernel) (by decide) (by decide) ?_
    refine x_nI (t := 6) (mj := 152) (n := 3) (rc := 12) (ml := 3) (nr := 0) (np := 15) (as := [x_r 75, iv_c 2147483649, iv_c 2147483649]) (rest := []) (lo1 := [x_r 75, iv_c 2147483649, iv_c 2147483649]) (by decide +kernel) (by decide) (by decide +kernel) (x_rb_of (by decide +kernel)) rfl rfl (x_wr (by decide) (x_wi (by decide) (x_wi (by decide) x_wn))) x_wn (by decide) rfl ?_
    refine x_iload (np := 1) (x := 1) (by decide +kernel) rfl (by decide) ?_
    refine x_ifz (k := 0) (tg := 9) (np := 4) (by decide +kernel) (by decide) (by decide) (fun q27 => ?_) (fun q28 => ?_)
    · have q27 : 2147483649 = 2147483648 := q27
      exfalso; omega
    have q28 : ¬ (2147483649 = 2147483648) := q28
    refine x_aload (np := 5) (x := 0) (by decide +kernel) rfl (x_nc_le (by decide)) ?_
    refine x_iload (np := 6) (x := 2) (by decide +kernel) rfl (by decide) ?_
    refine x_putI (np := 9) (x := 704) (f := 0) (by decide +kernel) (by decide +kernel) (by decide) (Or.inl (by decide)) ?_
    have j30 := jU (e := 0) (v := 2147483649) 0 j2 rg_75_0_0_1 (by first | decide | omega) (by first | decide | omega) (by first | decide | omega)
    have f32 := jF (e := 0) (v := 2147483649) 0 f4 rg_75_0_0_1 (by first | decide | omega) (by first | decide | omega) (by decide)
    generalize e31 : x_up h1 75 0 2147483649 = h29 at j30 f32 ⊢
    refine x_iload (np := 10) (x := 1) (by decide +kernel) rfl (by decide) ?_
    refine x_retI (np := 11) (x := 0) (by decide +kernel) (by decide) (Or.inr ⟨by decide +kernel, by first | decide | omega, by first | decide | omega⟩) ⟨_, rfl, (by decide), ?_⟩
    refine x_ifz (k := 0) (tg := 20) (np := 18) (by decide +kernel) (by decide) (by decide) (fun q33 => ?_) (fun q34 => ?_)
    · have q33 : 2147483649 = 2147483648 := q33
      exfalso; omega
    have q34 : ¬ (2147483649 = 2147483648) := q34
    refine x_const (np := 19) (x := 9223372039002259456) (a := 2147483648) (by decide +kernel) (by decide) (by decide) ?_
    refine x_retI (np := 20) (x := 0) (by decide +kernel) (by decide) (Or.inl (by decide +kernel)) ⟨_, rfl, (by decide), ?_⟩
    exact ⟨j30, f32, (by first | decide | omega)⟩
  have q24 : ¬ (v9 < a1) := q24
  refine x_const (np := 11) (x := 9223372043297226753) (a := 2147483649) (by decide +kernel) (by decide) (by decide) ?_
  refine x_goto (np := 14) (x := 15) (by decide +kernel) ?_
  refine x_retI (np := 16) (x := 0) (by decide +kernel) (by decide) (Or.inr ⟨by decide +kernel, by first | decide | omega, by first | decide | omega⟩) ⟨_, rfl, (by decide), ?_⟩
  refine x_ifz (k := 1) (tg := 20) (np := 16) (by decide +kernel) (by decide) (by decide) (fun q35 => ?_) (fun q36 => ?_)
  · have q35 : 2147483649 ≠ 2147483648 := q35
    refine x_const (np := 21) (x := 9223372039002259456) (a := 2147483648) (by decide +kernel) (by decide) (by decide) ?_
    refine x_retI (np := 22) (x := 0) (by decide +kernel) (by decide) (Or.inr ⟨by decide +kernel, by first | decide | omega, by first | decide | omega⟩) ⟨_, rfl, (by decide), ?_⟩
    refine x_retI (np := 7) (x := 0) (by decide +kernel) (by decide) (Or.inr ⟨by decide +kernel, by first | decide | omega, by first | decide | omega⟩) ⟨_, rfl, (by decide), ?_⟩
    refine x_const (np := 12) (x := 9223372043297226753) (a := 2147483649) (by decide +kernel) (by decide) (by decide) ?_
    refine x_nI (t := 6) (mj := 152) (n := 3) (rc := 12) (ml := 3) (nr := 0) (np := 15) (as := [x_r 75, iv_c 2147483648, iv_c 2147483649]) (rest := []) (lo1 := [x_r 75, iv_c 2147483648, iv_c 2147483649]) (by decide +kernel) (by decide) (by decide +kernel) (x_rb_of (by decide +kernel)) rfl rfl (x_wr (by decide) (x_wi (by decide) (x_wi (by decide) x_wn))) x_wn (by decide) rfl ?_
    refine x_iload (np := 1) (x := 1) (by decide +kernel) rfl (by decide) ?_
    refine x_ifz (k := 0) (tg := 9) (np := 4) (by decide +kernel) (by decide) (by decide) (fun q37 => ?_) (fun q38 => ?_)
    · have q37 : 2147483648 = 2147483648 := q37
      refine x_iload (np := 10) (x := 1) (by decide +kernel) rfl (by decide) ?_
      refine x_retI (np := 11) (x := 0) (by decide +kernel) (by decide) (Or.inr ⟨by decide +kernel, by first | decide | omega, by first | decide | omega⟩) ⟨_, rfl, (by decide), ?_⟩
      refine x_ifz (k := 0) (tg := 20) (np := 18) (by decide +kernel) (by decide) (by decide) (fun q39 => ?_) (fun q40 => ?_)
      · have q39 : 2147483648 = 2147483648 := q39
        refine x_aload (np := 21) (x := 0) (by decide +kernel) rfl (x_nc_le (by decide)) ?_
        have m44 : WT 76 h1 := by rw [← e3]; exact WT.oth hW hJ (by decide)
        refine x_cV (t := 6) (mj := 232) (n := 1) (rc := 12) (ml := 4) (nr := 0) (np := 24) (as := [x_r 75]) (rest := []) (lo1 := [x_r 75, 147573952589676412928, 147573952589676412928, 147573952589676412928]) (by decide +kernel) (by decide) (by decide +kernel) (x_rb_of (by decide +kernel)) rfl rfl (x_wr (by decide) x_wn) x_wn (by decide) rfl (c232_75 j2  m44) (fun h45 q43 => ?_)
        obtain ⟨j46, f47⟩ := q43
        have f50 := Fr.trans f4 f47 (by decide)
        refine x_aload (np := 25) (x := 0) (by decide +kernel) rfl (x_nc_le (by decide)) ?_
        have q51 : h45 75 25 = 92 := by have z := jB (e := 25) 0 j46 rg_75_25_0_1 (by decide) (by decide); omega
        refine x_getR (np := 28) (x := 729) (f := 25) (q := 92) (by decide +kernel) (by decide) (by decide +kernel) q51 ?_
        refine x_iload (np := 29) (x := 1) (by decide +kernel) rfl la1 ?_
        obtain ⟨u52, q53⟩ : ∃ z, a1 = 2147483648 + z := ⟨a1 - 2147483648, by first | decide | omega⟩
        refine x_aldC (np := 30) (x := 0) (n := 6) (i := u52) (q := (h45 92 u52)) (by decide +kernel) (by decide +kernel) (by first | decide | omega) (by first | decide | omega) (by decide) rfl (fun l54 => ?_)
        refine x_retI (np := 31) (x := 0) (by decide +kernel) l54 (Or.inl (by decide +kernel)) ⟨_, rfl, l54, ?_⟩
        exact ⟨j46, f50, (by first | decide | omega)⟩
      have q40 : ¬ (2147483648 = 2147483648) := q40
      exfalso; omega
    have q38 : ¬ (2147483648 = 2147483648) := q38
    exfalso; omega
  have q36 : ¬ (2147483649 ≠ 2147483648) := q36
  exfalso; omega
set_option maxHeartbeats 0 in
/-- LentNamesModel.unpaid()I -/
theorem c234_75 {sc : Nat × Nat} {d  : Nat} {h : xh} (hJ : J h) (hW : WT 76 h) : X sc 234 (d + 6) (xI fun r h' => J h' ∧ Fr 272730554369 h h' ∧ (0 ≤ r ∧ r ≤ 4294967295)) 0 0 0 [x_r 75] [] h := by
  have hF := Fr.refl 272730554369 h
  refine x_aload (np := 1) (x := 0) (by decide +kernel) rfl (x_nc_le (by decide)) ?_
  refine x_const (np := 2) (x := 9223372039002259456) (a := 2147483648) (by decide +kernel) (by decide) (by decide) ?_
  refine x_putI (np := 5) (x := 704) (f := 0) (by decide +kernel) (by decide +kernel) (by decide) (Or.inl (by decide)) ?_
  have j2 := jU (e := 0) (v := 2147483648) 0 hJ rg_75_0_0_1 (by first | decide | omega) (by first | decide | omega) (by first | decide | omega)
  have f4 := jF (e := 0) (v := 2147483648) 0 hF rg_75_0_0_1 (by first | decide | omega) (by first | decide | omega) (by decide)
  generalize e3 : x_up h 75 0 2147483648 = h1 at j2 f4 ⊢
  refine x_aload (np := 6) (x := 0) (by decide +kernel) rfl (x_nc_le (by decide)) ?_
  have m8 : WT 76 h1 := by rw [← e3]; exact WT.oth hW hJ (by decide)
  refine x_cV (t := 6) (mj := 232) (n := 1) (rc := 12) (ml := 4) (nr := 0) (np := 9) (as := [x_r 75]) (rest := []) (lo1 := [x_r 75, 147573952589676412928, 147573952589676412928, 147573952589676412928]) (by decide +kernel) (by decide) (by decide +kernel) (x_rb_of (by decide +kernel)) rfl rfl (x_wr (by decide) x_wn) x_wn (by decide) rfl (c232_75 j2  m8) (fun h9 q7 => ?_)
  obtain ⟨j10, f11⟩ := q7
  have f14 := Fr.trans f4 f11 (by decide)
  refine x_aload (np := 10) (x := 0) (by decide +kernel) rfl (x_nc_le (by decide)) ?_
  refine x_getC (np := 13) (x := 730) (f := 26) (q := (h9 75 26)) (by decide +kernel) (by decide) (by decide +kernel) rfl (fun l15 => ?_)
  refine x_retI (np := 14) (x := 0) (by decide +kernel) l15 (Or.inl (by decide +kernel)) ⟨_, rfl, l15, ?_⟩
  exact ⟨j10, f14, (by first | decide | omega)⟩
set_option maxHeartbeats 0 in
/-- LentNamesModel.meets(I)I -/
theorem c235_75 {sc : Nat × Nat} {d a1 : Nat} {h : xh} (hJ : J h) (ba1 : 0 ≤ a1 ∧ a1 ≤ 4294967295) (hW : WT 76 h) : X sc 235 (d + 6) (xI fun r h' => J h' ∧ Fr 272730554369 h h' ∧ (2147483647 ≤ r ∧ r ≤ 2147483653)) 0 0 0 [x_r 75, iv_c a1, 147573952589676412928, 147573952589676412928] [] h := by
  have la1 : a1 < 4294967296 := by first | decide | omega
  have hF := Fr.refl 272730554369 h
  refine x_aload (np := 1) (x := 0) (by decide +kernel) rfl (x_nc_le (by decide)) ?_
  refine x_const (np := 2) (x := 9223372039002259456) (a := 2147483648) (by decide +kernel) (by decide) (by decide) ?_
  refine x_putI (np := 5) (x := 704) (f := 0) (by decide +kernel) (by decide +kernel) (by decide) (Or.inl (by decide)) ?_
  have j2 := jU (e := 0) (v := 2147483648) 0 hJ rg_75_0_0_1 (by first | decide | omega) (by first | decide | omega) (by first | decide | omega)
  have f4 := jF (e := 0) (v := 2147483648) 0 hF rg_75_0_0_1 (by first | decide | omega) (by first | decide | omega) (by decide)
  generalize e3 : x_up h 75 0 2147483648 = h1 at j2 f4 ⊢
  refine x_aload (np := 6) (x := 0) (by decide +kernel) rfl (x_nc_le (by decide)) ?_
  refine x_aload (np := 7) (x := 0) (by decide +kernel) rfl (x_nc_le (by decide)) ?_
  refine x_iload (np := 8) (x := 1) (by decide +kernel) rfl la1 ?_
  refine x_nI (t := 6) (mj := 227) (n := 2) (rc := 12) (ml := 2) (nr := 1) (np := 11) (as := [x_r 75, iv_c a1]) (rest := [x_r 75]) (lo1 := [x_r 75, iv_c a1]) (by decide +kernel) (by decide) (by decide +kernel) (x_rb_of (by decide +kernel)) rfl rfl (x_wr (by decide) (x_wi la1 x_wn)) (x_wr (by decide) x_wn) (by decide) rfl ?_
  refine x_aload (np := 1) (x := 0) (by decide +kernel) rfl (x_nc_le (by decide)) ?_
  refine x_iload (np := 2) (x := 1) (by decide +kernel) rfl la1 ?_
  refine x_const (np := 3) (x := 9223372056182128644) (a := 2147483652) (by decide +kernel) (by decide) (by decide) ?_
  refine x_nI (t := 6) (mj := 158) (n := 3) (rc := 12) (ml := 3) (nr := 0) (np := 6) (as := [x_r 75, iv_c a1, iv_c 2147483652]) (rest := []) (lo1 := [x_r 75, iv_c a1, iv_c 2147483652]) (by decide +kernel) (by decide) (by decide +kernel) (x_rb_of (by decide +kernel)) rfl rfl (x_wr (by decide) (x_wi la1 (x_wi (by decide) x_wn))) x_wn (by decide) rfl ?_
  refine x_iload (np := 1) (x := 1) (by decide +kernel) rfl la1 ?_
  refine x_const (np := 2) (x := 9223372039002259456) (a := 2147483648) (by decide +kernel) (by decide) (by decide) ?_
  refine x_aload (np := 3) (x := 0) (by decide +kernel) rfl (x_nc_le (by decide)) ?_
  have q5 : h1 75 1 = 76 := by have z := jB (e := 1) 0 j2 rg_75_1_0_1 (by decide) (by decide); omega
  refine x_getR (np := 6) (x := 705) (f := 1) (q := 76) (by decide +kernel) (by decide) (by decide +kernel) q5 ?_
  refine x_iload (np := 7) (x := 2) (by decide +kernel) rfl (by decide) ?_
  have q6 : h1 76 4 = h 76 4 := by rw [← e3]; exact x_up_k (by decide)
  have b7 := jB (e := 4) 0 hJ rg_76_4_0_1 (by first | decide | omega) (by first | decide | omega)
  refine x_aldC (np := 8) (x := 0) (n := 1952) (i := 4) (q := (h 76 4)) (by decide +kernel) (by decide +kernel) (by first | decide | omega) (by first | decide | omega) (by decide) q6 (fun l8 => ?_)
  refine x_const (np := 9) (x := 9223372043297226753) (a := 2147483649) (by decide +kernel) (by decide) (by decide) ?_
  obtain ⟨v9, q10⟩ : ∃ z, z + 2147483649 = (h 76 4) + 2147483648 := ⟨(h 76 4) + 2147483648 - 2147483649, by first | decide | omega⟩
  refine x_isub (np := 10) (x := 0) (v := v9) (by decide +kernel) l8 (by decide) (by first | decide | omega) (by first | decide | omega) ?_
  refine x_nI (t := 0) (mj := 153) (n := 3) (rc := 0) (ml := 3) (nr := 0) (np := 13) (as := [iv_c a1, iv_c 2147483648, iv_c v9]) (rest := []) (lo1 := [iv_c a1, iv_c 2147483648, iv_c v9]) (by decide +kernel) (by decide) (by decide +kernel) (Or.inl rfl) rfl rfl (x_wi la1 (x_wi (by decide) (x_wi (by first | decide | omega) x_wn))) x_wn (by decide) rfl ?_
  refine x_iload (np := 1) (x := 0) (by decide +kernel) rfl la1 ?_
  refine x_iload (np := 2) (x := 1) (by decide +kernel) rfl (by decide) ?_
  refine x_icmp (k := 2) (tg := 14) (np := 5) (by decide +kernel) (by decide) la1 (by decide) (fun q11 => ?_) (fun q12 => ?_)
  · have q11 : a1 < 2147483648 := q11
    refine x_const (np := 15) (x := 9223372039002259456) (a := 2147483648) (by decide +kernel) (by decide) (by decide) ?_
    refine x_retI (np := 16) (x := 0) (by decide +kernel) (by decide) (Or.inr ⟨by decide +kernel, by first | decide | omega, by first | decide | omega⟩) ⟨_, rfl, (by decide), ?_⟩
    refine x_ifz (k := 1) (tg := 20) (np := 16) (by decide +kernel) (by decide) (by decide) (fun q13 => ?_) (fun q14 => ?_)
    · have q13 : 2147483648 ≠ 2147483648 := q13
      exfalso; omega
    have q14 : ¬ (2147483648 ≠ 2147483648) := q14
    refine x_const (np := 17) (x := 9223372043297226753) (a := 2147483649) (by decide +kernel) (by decide) (by decide) ?_
    refine x_goto (np := 20) (x := 21) (by decide +kernel) ?_
    refine x_retI (np := 22) (x := 0) (by decide +kernel) (by decide) (Or.inr ⟨by decide +kernel, by first | decide | omega, by first | decide | omega⟩) ⟨_, rfl, (by decide), ?_⟩
    refine x_retI (np := 7) (x := 0) (by decide +kernel) (by decide) (Or.inr ⟨by decide +kernel, by first | decide | omega, by first | decide | omega⟩) ⟨_, rfl, (by decide), ?_⟩
    refine x_const (np := 12) (x := 9223372043297226753) (a := 2147483649) (by decide +kernel) (by decide) (by decide) ?_
    refine x_nI (t := 6) (mj := 152) (n := 3) (rc := 12) (ml := 3) (nr := 0) (np := 15) (as := [x_r 75, iv_c 2147483649, iv_c 2147483649]) (rest := []) (lo1 := [x_r 75, iv_c 2147483649, iv_c 2147483649]) (by decide +kernel) (by decide) (by decide +kernel) (x_rb_of (by decide +kernel)) rfl rfl (x_wr (by decide) (x_wi (by decide) (x_wi (by decide) x_wn))) x_wn (by decide) rfl ?_
    refine x_iload (np := 1) (x := 1) (by decide +kernel) rfl (by decide) ?_
    refine x_ifz (k := 0) (tg := 9) (np := 4) (by decide +kernel) (by decide) (by decide) (fun q15 => ?_) (fun q16 => ?_)
    · have q15 : 2147483649 = 2147483648 := q15
      exfalso; omega
    have q16 : ¬ (2147483649 = 2147483648) := q16
    refine x_aload (np := 5) (x := 0) (by decide +kernel) rfl (x_nc_le (by decide)) ?_
    refine x_iload (np := 6) (x := 2) (by decide +kernel) rfl (by decide) ?_
    refine x_putI (np := 9) (x := 704) (f := 0) (by decide +kernel) (by decide +kernel) (by decide) (Or.inl (by decide)) ?_
    have j18 := jU (e := 0) (v := 2147483649) 0 j2 rg_75_0_0_1 (by first | decide | omega) (by first | decide | omega) (by first | decide | omega)
    have f20 := jF (e := 0) (v := 2147483649) 0 f4 rg_75_0_0_1 (by first | decide | omega) (by first | decide | omega) (by decide)
    generalize e19 : x_up h1 75 0 2147483649 = h17 at j18 f20 ⊢
    refine x_iload (np := 10) (x := 1) (by decide +kernel) rfl (by decide) ?_
    refine x_retI (np := 11) (x := 0) (by decide +kernel) (by decide) (Or.inr ⟨by decide +kernel, by first | decide | omega, by first | decide | omega⟩) ⟨_, rfl, (by decide), ?_⟩
    refine x_ifz (k := 0) (tg := 20) (np := 18) (by decide +kernel) (by decide) (by decide) (fun q21 => ?_) (fun q22 => ?_)
    · have q21 : 2147483649 = 2147483648 := q21
      exfalso; omega
    have q22 : ¬ (2147483649 = 2147483648) := q22
    refine x_const (np := 19) (x := 9223372039002259456) (a := 2147483648) (by decide +kernel) (by decide) (by decide) ?_
    refine x_retI (np := 20) (x := 0) (by decide +kernel) (by decide) (Or.inl (by decide +kernel)) ⟨_, rfl, (by decide), ?_⟩
    exact ⟨j18, f20, (by first | decide | omega)⟩
  have q12 : ¬ (a1 < 2147483648) := q12
  refine x_iload (np := 6) (x := 0) (by decide +kernel) rfl la1 ?_
  refine x_iload (np := 7) (x := 2) (by decide +kernel) rfl (by first | decide | omega) ?_
  refine x_icmp (k := 4) (tg := 14) (np := 10) (by decide +kernel) (by decide) la1 (by first | decide | omega) (fun q23 => ?_) (fun q24 => ?_)
  · have q23 : v9 < a1 := q23
    refine x_const (np := 15) (x := 9223372039002259456) (a := 2147483648) (by decide +kernel) (by decide) (by decide) ?_
    refine x_retI (np := 16) (x := 0) (by decide +kernel) (by decide) (Or.inr ⟨by decide +kernel, by first | decide | omega, by first | decide | omega⟩) ⟨_, rfl, (by decide), ?_⟩
    refine x_ifz (k := 1) (tg := 20) (np := 16) (by decide +kernel) (by decide) (by decide) (fun q25 => ?_) (fun q26 => ?_)
    · have q25 : 2147483648 ≠ 2147483648 := q25
      exfalso; omega
    have q26 : ¬ (2147483648 ≠ 2147483648) := q26
    refine x_const (np := 17) (x := 9223372043297226753) (a := 2147483649) (by decide +kernel) (by decide) (by decide) ?_
    refine x_goto (np := 20) (x := 21) (by decide +kernel) ?_
    refine x_retI (np := 22) (x := 0) (by decide +kernel) (by decide) (Or.inr ⟨by decide +kernel, by first | decide | omega, by first | decide | omega⟩) ⟨_, rfl, (by decide), ?_⟩
    refine x_retI (np := 7) (x := 0) (by decide +kernel) (by decide) (Or.inr ⟨by decide +kernel, by first | decide | omega, by first | decide | omega⟩) ⟨_, rfl, (by decide), ?_⟩
    refine x_const (np := 12) (x := 9223372043297226753) (a := 2147483649) (by decide +kernel) (by decide) (by decide) ?_
    refine x_nI (t := 6) (mj := 152) (n := 3) (rc := 12) (ml := 3) (nr := 0) (np := 15) (as := [x_r 75, iv_c 2147483649, iv_c 2147483649]) (rest := []) (lo1 := [x_r 75, iv_c 2147483649, iv_c 2147483649]) (by decide +kernel) (by decide) (by decide +kernel) (x_rb_of (by decide +kernel)) rfl rfl (x_wr (by decide) (x_wi (by decide) (x_wi (by decide) x_wn))) x_wn (by decide) rfl ?_
    refine x_iload (np := 1) (x := 1) (by decide +kernel) rfl (by decide) ?_
    refine x_ifz (k := 0) (tg := 9) (np := 4) (by decide +kernel) (by decide) (by decide) (fun q27 => ?_) (fun q28 => ?_)
    · have q27 : 2147483649 = 2147483648 := q27
      exfalso; omega
    have q28 : ¬ (2147483649 = 2147483648) := q28
    refine x_aload (np := 5) (x := 0) (by decide +kernel) rfl (x_nc_le (by decide)) ?_
    refine x_iload (np := 6) (x := 2) (by decide +kernel) rfl (by decide) ?_
    refine x_putI (np := 9) (x := 704) (f := 0) (by decide +kernel) (by decide +kernel) (by decide) (Or.inl (by decide)) ?_
    have j30 := jU (e := 0) (v := 2147483649) 0 j2 rg_75_0_0_1 (by first | decide | omega) (by first | decide | omega) (by first | decide | omega)
    have f32 := jF (e := 0) (v := 2147483649) 0 f4 rg_75_0_0_1 (by first | decide | omega) (by first | decide | omega) (by decide)
    generalize e31 : x_up h1 75 0 2147483649 = h29 at j30 f32 ⊢
    refine x_iload (np := 10) (x := 1) (by decide +kernel) rfl (by decide) ?_
    refine x_retI (np := 11) (x := 0) (by decide +kernel) (by decide) (Or.inr ⟨by decide +kernel, by first | decide | omega, by first | decide | omega⟩) ⟨_, rfl, (by decide), ?_⟩
    refine x_ifz (k := 0) (tg := 20) (np := 18) (by decide +kernel) (by decide) (by decide) (fun q33 => ?_) (fun q34 => ?_)
    · have q33 : 2147483649 = 2147483648 := q33
      exfalso; omega
    have q34 : ¬ (2147483649 = 2147483648) := q34
    refine x_const (np := 19) (x := 9223372039002259456) (a := 2147483648) (by decide +kernel) (by decide) (by decide) ?_
    refine x_retI (np := 20) (x := 0) (by decide +kernel) (by decide) (Or.inl (by decide +kernel)) ⟨_, rfl, (by decide), ?_⟩
    exact ⟨j30, f32, (by first | decide | omega)⟩
  have q24 : ¬ (v9 < a1) := q24
  refine x_const (np := 11) (x := 9223372043297226753) (a := 2147483649) (by decide +kernel) (by decide) (by decide) ?_
  refine x_goto (np := 14) (x := 15) (by decide +kernel) ?_
  refine x_retI (np := 16) (x := 0) (by decide +kernel) (by decide) (Or.inr ⟨by decide +kernel, by first | decide | omega, by first | decide | omega⟩) ⟨_, rfl, (by decide), ?_⟩
  refine x_ifz (k := 1) (tg := 20) (np := 16) (by decide +kernel) (by decide) (by decide) (fun q35 => ?_) (fun q36 => ?_)
  · have q35 : 2147483649 ≠ 2147483648 := q35
    refine x_const (np := 21) (x := 9223372039002259456) (a := 2147483648) (by decide +kernel) (by decide) (by decide) ?_
    refine x_retI (np := 22) (x := 0) (by decide +kernel) (by decide) (Or.inr ⟨by decide +kernel, by first | decide | omega, by first | decide | omega⟩) ⟨_, rfl, (by decide), ?_⟩
    refine x_retI (np := 7) (x := 0) (by decide +kernel) (by decide) (Or.inr ⟨by decide +kernel, by first | decide | omega, by first | decide | omega⟩) ⟨_, rfl, (by decide), ?_⟩
    refine x_const (np := 12) (x := 9223372043297226753) (a := 2147483649) (by decide +kernel) (by decide) (by decide) ?_
    refine x_nI (t := 6) (mj := 152) (n := 3) (rc := 12) (ml := 3) (nr := 0) (np := 15) (as := [x_r 75, iv_c 2147483648, iv_c 2147483649]) (rest := []) (lo1 := [x_r 75, iv_c 2147483648, iv_c 2147483649]) (by decide +kernel) (by decide) (by decide +kernel) (x_rb_of (by decide +kernel)) rfl rfl (x_wr (by decide) (x_wi (by decide) (x_wi (by decide) x_wn))) x_wn (by decide) rfl ?_
    refine x_iload (np := 1) (x := 1) (by decide +kernel) rfl (by decide) ?_
    refine x_ifz (k := 0) (tg := 9) (np := 4) (by decide +kernel) (by decide) (by decide) (fun q37 => ?_) (fun q38 => ?_)
    · have q37 : 2147483648 = 2147483648 := q37
      refine x_iload (np := 10) (x := 1) (by decide +kernel) rfl (by decide) ?_
      refine x_retI (np := 11) (x := 0) (by decide +kernel) (by decide) (Or.inr ⟨by decide +kernel, by first | decide | omega, by first | decide | omega⟩) ⟨_, rfl, (by decide), ?_⟩
      refine x_ifz (k := 0) (tg := 20) (np := 18) (by decide +kernel) (by decide) (by decide) (fun q39 => ?_) (fun q40 => ?_)
      · have q39 : 2147483648 = 2147483648 := q39
        refine x_aload (np := 21) (x := 0) (by decide +kernel) rfl (x_nc_le (by decide)) ?_
        have m44 : WT 76 h1 := by rw [← e3]; exact WT.oth hW hJ (by decide)
        refine x_cV (t := 6) (mj := 232) (n := 1) (rc := 12) (ml := 4) (nr := 0) (np := 24) (as := [x_r 75]) (rest := []) (lo1 := [x_r 75, 147573952589676412928, 147573952589676412928, 147573952589676412928]) (by decide +kernel) (by decide) (by decide +kernel) (x_rb_of (by decide +kernel)) rfl rfl (x_wr (by decide) x_wn) x_wn (by decide) rfl (c232_75 j2  m44) (fun h45 q43 => ?_)
        obtain ⟨j46, f47⟩ := q43
        have f50 := Fr.trans f4 f47 (by decide)
        refine x_aload (np := 25) (x := 0) (by decide +kernel) rfl (x_nc_le (by decide)) ?_
        refine x_getC (np := 28) (x := 730) (f := 26) (q := (h45 75 26)) (by decide +kernel) (by decide) (by decide +kernel) rfl (fun l51 => ?_)
        refine x_iload (np := 29) (x := 1) (by decide +kernel) rfl la1 ?_
        refine x_any (np := 30) (k9 := 4) (by decide +kernel) (by decide) l51 la1 (fun v52 l53 => ?_)
        refine x_const (np := 31) (x := 9223372043297226753) (a := 2147483649) (by decide +kernel) (by decide) (by decide) ?_
        refine x_mask (np := 32) (m := 1) (k9 := 2) (by decide +kernel) l53 (by decide +kernel) (by decide) (by decide) (by decide) (fun u54 l55 => ?_)
        refine x_ifz (k := 0) (tg := 44) (np := 35) (by decide +kernel) (by decide) (by first | decide | omega) (fun q56 => ?_) (fun q57 => ?_)
        · have q56 : (2147483648 + u54) = 2147483648 := q56
          refine x_const (np := 45) (x := 9223372034707292159) (a := 2147483647) (by decide +kernel) (by decide) (by decide) ?_
          refine x_retI (np := 46) (x := 0) (by decide +kernel) (by decide) (Or.inl (by decide +kernel)) ⟨_, rfl, (by decide), ?_⟩
          exact ⟨j46, f50, (by first | decide | omega)⟩
        have q57 : ¬ ((2147483648 + u54) = 2147483648) := q57
        refine x_aload (np := 36) (x := 0) (by decide +kernel) rfl (x_nc_le (by decide)) ?_
        refine x_iload (np := 37) (x := 1) (by decide +kernel) rfl la1 ?_
        refine x_const (np := 38) (x := 9223372039002259456) (a := 2147483648) (by decide +kernel) (by decide) (by decide) ?_
        refine x_nI (t := 6) (mj := 163) (n := 3) (rc := 12) (ml := 3) (nr := 0) (np := 41) (as := [x_r 75, iv_c a1, iv_c 2147483648]) (rest := []) (lo1 := [x_r 75, iv_c a1, iv_c 2147483648]) (by decide +kernel) (by decide) (by decide +kernel) (x_rb_of (by decide +kernel)) rfl rfl (x_wr (by decide) (x_wi la1 (x_wi (by decide) x_wn))) x_wn (by decide) rfl ?_
        refine x_aload (np := 1) (x := 0) (by decide +kernel) rfl (x_nc_le (by decide)) ?_
        have q58 : h45 75 1 = 76 := by have z := jB (e := 1) 0 j46 rg_75_1_0_1 (by decide) (by decide); omega
        refine x_getR (np := 4) (x := 705) (f := 1) (q := 76) (by decide +kernel) (by decide) (by decide +kernel) q58 ?_
        refine x_const (np := 7) (x := 9223372897995718856) (a := 2147483848) (by decide +kernel) (by decide) (by decide) ?_
        refine x_const (np := 8) (x := 9223372060477095941) (a := 2147483653) (by decide +kernel) (by decide) (by decide) ?_
        refine x_iload (np := 9) (x := 1) (by decide +kernel) rfl la1 ?_
        obtain ⟨u59, q60⟩ : ∃ z, a1 = 2147483648 + z := ⟨a1 - 2147483648, by first | decide | omega⟩
        refine x_imul (np := 10) (x := 0) (i := 5) (j := u59) (v := (2147483648 + 5 * u59)) (by decide +kernel) (by first | decide | omega) (by first | decide | omega) (by first | decide | omega) (by first | decide | omega) (by decide) la1 ?_
        refine x_iadd (np := 11) (x := 0) (v := (2147483848 + 5 * u59)) (by decide +kernel) (by decide) (by first | decide | omega) (by first | decide | omega) (by first | decide | omega) ?_
        refine x_iload (np := 12) (x := 2) (by decide +kernel) rfl (by decide) ?_
        refine x_iadd (np := 13) (x := 0) (v := (2147483848 + 5 * u59)) (by decide +kernel) (by first | decide | omega) (by decide) (by first | decide | omega) (by first | decide | omega) ?_
        have q62 : h45 76 (200 + 5 * u59) = h1 76 (200 + 5 * u59) := jK u59 f47 rg_76_200_5_10 (by first | decide | omega) (by first | decide | omega) (by decide)
        have q63 : h1 76 (200 + 5 * u59) = h 76 (200 + 5 * u59) := by rw [← e3]; exact x_up_k (by decide)
        refine x_aldC (np := 14) (x := 0) (n := 1952) (i := (200 + 5 * u59)) (q := ((h 76 (200 + 5 * u59)))) (by decide +kernel) (by decide +kernel) (by first | decide | omega) (by first | decide | omega) (by decide) (q62.trans q63) (fun l64 => ?_)
        refine x_retI (np := 15) (x := 0) (by decide +kernel) l64 (Or.inl (by decide +kernel)) ⟨_, rfl, l64, ?_⟩
        refine x_ifz (k := 1) (tg := 46) (np := 44) (by decide +kernel) (by decide) l64 (fun q65 => ?_) (fun q66 => ?_)
        · have q65 : ((h 76 (200 + 5 * u59))) ≠ 2147483648 := q65
          refine x_aload (np := 47) (x := 0) (by decide +kernel) rfl (x_nc_le (by decide)) ?_
          refine x_iload (np := 48) (x := 1) (by decide +kernel) rfl la1 ?_
          refine x_const (np := 49) (x := 9223372051887161347) (a := 2147483651) (by decide +kernel) (by decide) (by decide) ?_
          refine x_nI (t := 6) (mj := 163) (n := 3) (rc := 12) (ml := 3) (nr := 0) (np := 52) (as := [x_r 75, iv_c a1, iv_c 2147483651]) (rest := []) (lo1 := [x_r 75, iv_c a1, iv_c 2147483651]) (by decide +kernel) (by decide) (by decide +kernel) (x_rb_of (by decide +kernel)) rfl rfl (x_wr (by decide) (x_wi la1 (x_wi (by decide) x_wn))) x_wn (by decide) rfl ?_
          refine x_aload (np := 1) (x := 0) (by decide +kernel) rfl (x_nc_le (by decide)) ?_
          have q67 : h45 75 1 = 76 := by have z := jB (e := 1) 0 j46 rg_75_1_0_1 (by decide) (by decide); omega
          refine x_getR (np := 4) (x := 705) (f := 1) (q := 76) (by decide +kernel) (by decide) (by decide +kernel) q67 ?_
          refine x_const (np := 7) (x := 9223372897995718856) (a := 2147483848) (by decide +kernel) (by decide) (by decide) ?_
          refine x_const (np := 8) (x := 9223372060477095941) (a := 2147483653) (by decide +kernel) (by decide) (by decide) ?_
          refine x_iload (np := 9) (x := 1) (by decide +kernel) rfl la1 ?_
          refine x_imul (np := 10) (x := 0) (i := 5) (j := u59) (v := (2147483648 + 5 * u59)) (by decide +kernel) (by first | decide | omega) (by first | decide | omega) (by first | decide | omega) (by first | decide | omega) (by decide) la1 ?_
          refine x_iadd (np := 11) (x := 0) (v := (2147483848 + 5 * u59)) (by decide +kernel) (by decide) (by first | decide | omega) (by first | decide | omega) (by first | decide | omega) ?_
          refine x_iload (np := 12) (x := 2) (by decide +kernel) rfl (by decide) ?_
          refine x_iadd (np := 13) (x := 0) (v := (2147483851 + 5 * u59)) (by decide +kernel) (by first | decide | omega) (by decide) (by first | decide | omega) (by first | decide | omega) ?_
          have q69 : h45 76 (203 + 5 * u59) = h1 76 (203 + 5 * u59) := jK u59 f47 rg_76_203_5_10 (by first | decide | omega) (by first | decide | omega) (by decide)
          have q70 : h1 76 (203 + 5 * u59) = h 76 (203 + 5 * u59) := by rw [← e3]; exact x_up_k (by decide)
          have b71 := jB (e := (203 + 5 * u59)) u59 hJ rg_76_203_5_10 (by first | decide | omega) (by first | decide | omega)
          refine x_aldC (np := 14) (x := 0) (n := 1952) (i := (203 + 5 * u59)) (q := ((h 76 (203 + 5 * u59)))) (by decide +kernel) (by decide +kernel) (by first | decide | omega) (by first | decide | omega) (by decide) (q69.trans q70) (fun l72 => ?_)
          refine x_retI (np := 15) (x := 0) (by decide +kernel) l72 (Or.inl (by decide +kernel)) ⟨_, rfl, l72, ?_⟩
          refine x_istore (np := 53) (x := 2) (lo' := [x_r 75, iv_c a1, iv_c ((h 76 (203 + 5 * u59))), 147573952589676412928]) (by decide +kernel) l72 (Nat.le_of_ble_eq_true rfl) rfl ?_
          refine x_const (np := 54) (x := 9223372039002259456) (a := 2147483648) (by decide +kernel) (by decide) (by decide) ?_
          refine x_istore (np := 55) (x := 3) (lo' := [x_r 75, iv_c a1, iv_c ((h 76 (203 + 5 * u59))), iv_c 2147483648]) (by decide +kernel) (by decide) (Nat.le_of_ble_eq_true rfl) rfl ?_
          have p321 : ∀ (n : Nat) (v319 : Nat), 4294967296 - v319 < n → (2147483648 ≤ v319 ∧ v319 ≤ 2147483654) → X sc 235 (d + 6) (xI fun r h' => J h' ∧ Fr 272730554369 h h' ∧ (2147483647 ≤ r ∧ r ≤ 2147483653)) 0 0 55 [x_r 75, iv_c a1, iv_c ((h 76 (203 + 5 * u59))), iv_c v319] [] h45 := by
            intro n
            induction n with
            | zero => intro v319 q322; exact absurd q322 (Nat.not_lt_zero _)
            | succ n i323 =>
              intro v319 q322 b320
              refine x_iload (np := 56) (x := 3) (by decide +kernel) rfl (by first | decide | omega) ?_
              refine x_aload (np := 57) (x := 0) (by decide +kernel) rfl (x_nc_le (by decide)) ?_
              refine x_nI (t := 6) (mj := 157) (n := 1) (rc := 12) (ml := 1) (nr := 1) (np := 60) (as := [x_r 75]) (rest := [iv_c v319]) (lo1 := [x_r 75]) (by decide +kernel) (by decide) (by decide +kernel) (x_rb_of (by decide +kernel)) rfl rfl (x_wr (by decide) x_wn) (x_wi (by first | decide | omega) x_wn) (by decide) rfl ?_
              refine x_aload (np := 1) (x := 0) (by decide +kernel) rfl (x_nc_le (by decide)) ?_
              have q324 : h45 75 1 = 76 := by have z := jB (e := 1) 0 j46 rg_75_1_0_1 (by decide) (by decide); omega
              refine x_getR (np := 4) (x := 705) (f := 1) (q := 76) (by decide +kernel) (by decide) (by decide +kernel) q324 ?_
              refine x_const (np := 5) (x := 9223372039002259456) (a := 2147483648) (by decide +kernel) (by decide) (by decide) ?_
              have q325 : h45 76 0 = h1 76 0 := jK 0 f47 rg_76_0_0_1 (by first | decide | omega) (by first | decide | omega) (by decide)
              have q326 : h1 76 0 = h 76 0 := by rw [← e3]; exact x_up_k (by decide)
              have b327 := jB (e := 0) 0 hJ rg_76_0_0_1 (by first | decide | omega) (by first | decide | omega)
              refine x_aldC (np := 6) (x := 0) (n := 1952) (i := 0) (q := (h 76 0)) (by decide +kernel) (by decide +kernel) (by first | decide | omega) (by first | decide | omega) (by decide) (q325.trans q326) (fun l328 => ?_)
              refine x_retI (np := 7) (x := 0) (by decide +kernel) l328 (Or.inl (by decide +kernel)) ⟨_, rfl, l328, ?_⟩
              refine x_icmp (k := 3) (tg := 110) (np := 63) (by decide +kernel) (by decide) (by first | decide | omega) l328 (fun q329 => ?_) (fun q330 => ?_)
              · have q329 : (h 76 0) ≤ v319 := q329
                refine x_const (np := 111) (x := 9223372034707292159) (a := 2147483647) (by decide +kernel) (by decide) (by decide) ?_
                refine x_retI (np := 112) (x := 0) (by decide +kernel) (by decide) (Or.inl (by decide +kernel)) ⟨_, rfl, (by decide), ?_⟩
                exact ⟨j46, f50, (by first | decide | omega)⟩
              have q330 : ¬ ((h 76 0) ≤ v319) := q330
              refine x_aload (np := 64) (x := 0) (by decide +kernel) rfl (x_nc_le (by decide)) ?_
              refine x_iload (np := 65) (x := 3) (by decide +kernel) rfl (by first | decide | omega) ?_
              refine x_iload (np := 66) (x := 2) (by decide +kernel) rfl l72 ?_
              refine x_cP (t := 6) (mj := 200) (n := 3) (rc := 12) (ml := 3) (nr := 0) (np := 69) (as := [x_r 75, iv_c v319, iv_c ((h 76 (203 + 5 * u59)))]) (rest := []) (lo1 := [x_r 75, iv_c v319, iv_c ((h 76 (203 + 5 * u59)))]) (by decide +kernel) (by decide) (by decide +kernel) (x_rb_of (by decide +kernel)) rfl rfl (x_wr (by decide) (x_wi (by first | decide | omega) (x_wi l72 x_wn))) x_wn (by decide) rfl (c200_75 j46  (by first | decide | omega) (by first | decide | omega)) (fun v331 l332 q333 => ?_)
              refine x_ifz (k := 0) (tg := 104) (np := 72) (by decide +kernel) (by decide) l332 (fun q334 => ?_) (fun q335 => ?_)
              · have q334 : v331 = 2147483648 := q334
                refine x_iinc (np := 107) (i := 3) (j := 2147483649) (v := (1 + v319)) (lo' := [x_r 75, iv_c a1, iv_c ((h 76 (203 + 5 * u59))), iv_c (1 + v319)]) (by decide +kernel) (by decide) (by decide) rfl (by first | decide | omega) (by first | decide | omega) (by first | decide | omega) rfl ?_
                refine x_goto (np := 110) (x := 55) (by decide +kernel) ?_
                exact i323 (1 + v319) (by first | decide | omega) (by first | decide | omega)
              have q335 : ¬ (v331 = 2147483648) := q335
              refine x_aload (np := 73) (x := 0) (by decide +kernel) rfl (x_nc_le (by decide)) ?_
              refine x_aload (np := 74) (x := 0) (by decide +kernel) rfl (x_nc_le (by decide)) ?_
              refine x_iload (np := 75) (x := 1) (by decide +kernel) rfl la1 ?_
              refine x_const (np := 76) (x := 9223372043297226753) (a := 2147483649) (by decide +kernel) (by decide) (by decide) ?_
              refine x_nI (t := 6) (mj := 163) (n := 3) (rc := 12) (ml := 3) (nr := 1) (np := 79) (as := [x_r 75, iv_c a1, iv_c 2147483649]) (rest := [x_r 75]) (lo1 := [x_r 75, iv_c a1, iv_c 2147483649]) (by decide +kernel) (by decide) (by decide +kernel) (x_rb_of (by decide +kernel)) rfl rfl (x_wr (by decide) (x_wi la1 (x_wi (by decide) x_wn))) (x_wr (by decide) x_wn) (by decide) rfl ?_
              refine x_aload (np := 1) (x := 0) (by decide +kernel) rfl (x_nc_le (by decide)) ?_
              have q336 : h45 75 1 = 76 := by have z := jB (e := 1) 0 j46 rg_75_1_0_1 (by decide) (by decide); omega
              refine x_getR (np := 4) (x := 705) (f := 1) (q := 76) (by decide +kernel) (by decide) (by decide +kernel) q336 ?_
              refine x_const (np := 7) (x := 9223372897995718856) (a := 2147483848) (by decide +kernel) (by decide) (by decide) ?_
              refine x_const (np := 8) (x := 9223372060477095941) (a := 2147483653) (by decide +kernel) (by decide) (by decide) ?_
              refine x_iload (np := 9) (x := 1) (by decide +kernel) rfl la1 ?_
              refine x_imul (np := 10) (x := 0) (i := 5) (j := u59) (v := (2147483648 + 5 * u59)) (by decide +kernel) (by first | decide | omega) (by first | decide | omega) (by first | decide | omega) (by first | decide | omega) (by decide) la1 ?_
              refine x_iadd (np := 11) (x := 0) (v := (2147483848 + 5 * u59)) (by decide +kernel) (by decide) (by first | decide | omega) (by first | decide | omega) (by first | decide | omega) ?_
              refine x_iload (np := 12) (x := 2) (by decide +kernel) rfl (by decide) ?_
              refine x_iadd (np := 13) (x := 0) (v := (2147483849 + 5 * u59)) (by decide +kernel) (by first | decide | omega) (by decide) (by first | decide | omega) (by first | decide | omega) ?_
              have q338 : h45 76 (201 + 5 * u59) = h1 76 (201 + 5 * u59) := jK u59 f47 rg_76_201_5_10 (by first | decide | omega) (by first | decide | omega) (by decide)
              have q339 : h1 76 (201 + 5 * u59) = h 76 (201 + 5 * u59) := by rw [← e3]; exact x_up_k (by decide)
              have b340 := jB (e := (201 + 5 * u59)) u59 hJ rg_76_201_5_10 (by first | decide | omega) (by first | decide | omega)
              refine x_aldC (np := 14) (x := 0) (n := 1952) (i := (201 + 5 * u59)) (q := ((h 76 (201 + 5 * u59)))) (by decide +kernel) (by decide +kernel) (by first | decide | omega) (by first | decide | omega) (by decide) (q338.trans q339) (fun l341 => ?_)
              refine x_retI (np := 15) (x := 0) (by decide +kernel) l341 (Or.inl (by decide +kernel)) ⟨_, rfl, l341, ?_⟩
              refine x_iload (np := 80) (x := 2) (by decide +kernel) rfl l72 ?_
              refine x_nI (t := 6) (mj := 211) (n := 3) (rc := 12) (ml := 3) (nr := 0) (np := 83) (as := [x_r 75, iv_c ((h 76 (201 + 5 * u59))), iv_c ((h 76 (203 + 5 * u59)))]) (rest := []) (lo1 := [x_r 75, iv_c ((h 76 (201 + 5 * u59))), iv_c ((h 76 (203 + 5 * u59)))]) (by decide +kernel) (by decide) (by decide +kernel) (x_rb_of (by decide +kernel)) rfl rfl (x_wr (by decide) (x_wi l341 (x_wi l72 x_wn))) x_wn (by decide) rfl ?_
              refine x_aload (np := 1) (x := 0) (by decide +kernel) rfl (x_nc_le (by decide)) ?_
              have q342 : h45 75 20 = 87 := by have z := jB (e := 20) 0 j46 rg_75_20_0_1 (by decide) (by decide); omega
              refine x_getR (np := 4) (x := 724) (f := 20) (q := 87) (by decide +kernel) (by decide) (by decide +kernel) q342 ?_
              refine x_const (np := 6) (x := 9223372090541867020) (a := 2147483660) (by decide +kernel) (by decide) (by decide) ?_
              refine x_iload (np := 7) (x := 1) (by decide +kernel) rfl l341 ?_
              obtain ⟨u343, q344⟩ : ∃ z, ((h 76 (201 + 5 * u59))) = 2147483648 + z := ⟨((h 76 (201 + 5 * u59))) - 2147483648, by first | decide | omega⟩
              refine x_imul (np := 8) (x := 0) (i := 12) (j := u343) (v := (2147483648 + 12 * u343)) (by decide +kernel) (by first | decide | omega) (by first | decide | omega) (by first | decide | omega) (by first | decide | omega) (by decide) l341 ?_
              refine x_iload (np := 9) (x := 2) (by decide +kernel) rfl l72 ?_
              refine x_iadd (np := 10) (x := 0) (v := (12 * u343 + (h 76 (203 + 5 * u59)))) (by decide +kernel) (by first | decide | omega) l72 (by first | decide | omega) (by first | decide | omega) ?_
              obtain ⟨u346, q347⟩ : ∃ z, ((h 76 (203 + 5 * u59))) = 2147483648 + z := ⟨((h 76 (203 + 5 * u59))) - 2147483648, by first | decide | omega⟩
              have b348 := jB (e := (12 * u343 + u346)) (12 * u343 + u346) j46 rg_87_0_1_72 (by first | decide | omega) (by first | decide | omega)
              refine x_aldC (np := 11) (x := 0) (n := 72) (i := (12 * u343 + u346)) (q := ((h45 87 (12 * u343 + u346)))) (by decide +kernel) (by decide +kernel) (by first | decide | omega) (by first | decide | omega) (by decide) rfl (fun l349 => ?_)
              refine x_retI (np := 12) (x := 0) (by decide +kernel) l349 (Or.inl (by decide +kernel)) ⟨_, rfl, l349, ?_⟩
              refine x_iload (np := 84) (x := 3) (by decide +kernel) rfl (by first | decide | omega) ?_
              refine x_icmp (k := 0) (tg := 104) (np := 87) (by decide +kernel) (by decide) l349 (by first | decide | omega) (fun q350 => ?_) (fun q351 => ?_)
              · have q350 : ((h45 87 (12 * u343 + u346))) = v319 := q350
                refine x_iinc (np := 107) (i := 3) (j := 2147483649) (v := (1 + v319)) (lo' := [x_r 75, iv_c a1, iv_c ((h 76 (203 + 5 * u59))), iv_c (1 + v319)]) (by decide +kernel) (by decide) (by decide) rfl (by first | decide | omega) (by first | decide | omega) (by first | decide | omega) rfl ?_
                refine x_goto (np := 110) (x := 55) (by decide +kernel) ?_
                exact i323 (1 + v319) (by first | decide | omega) (by first | decide | omega)
              have q351 : ¬ (((h45 87 (12 * u343 + u346))) = v319) := q351
              refine x_aload (np := 88) (x := 0) (by decide +kernel) rfl (x_nc_le (by decide)) ?_
              have q352 : h45 75 25 = 92 := by have z := jB (e := 25) 0 j46 rg_75_25_0_1 (by decide) (by decide); omega
              refine x_getR (np := 91) (x := 729) (f := 25) (q := 92) (by decide +kernel) (by decide) (by decide +kernel) q352 ?_
              refine x_iload (np := 92) (x := 3) (by decide +kernel) rfl (by first | decide | omega) ?_
              obtain ⟨u353, q354⟩ : ∃ z, v319 = 2147483648 + z := ⟨v319 - 2147483648, by first | decide | omega⟩
              refine x_aldC (np := 93) (x := 0) (n := 6) (i := u353) (q := (h45 92 u353)) (by decide +kernel) (by decide +kernel) (by first | decide | omega) (by first | decide | omega) (by decide) rfl (fun l355 => ?_)
              refine x_aload (np := 94) (x := 0) (by decide +kernel) rfl (x_nc_le (by decide)) ?_
              refine x_iload (np := 95) (x := 1) (by decide +kernel) rfl la1 ?_
              refine x_const (np := 96) (x := 9223372056182128644) (a := 2147483652) (by decide +kernel) (by decide) (by decide) ?_
              refine x_nI (t := 6) (mj := 163) (n := 3) (rc := 12) (ml := 3) (nr := 1) (np := 99) (as := [x_r 75, iv_c a1, iv_c 2147483652]) (rest := [iv_c (h45 92 u353)]) (lo1 := [x_r 75, iv_c a1, iv_c 2147483652]) (by decide +kernel) (by decide) (by decide +kernel) (x_rb_of (by decide +kernel)) rfl rfl (x_wr (by decide) (x_wi la1 (x_wi (by decide) x_wn))) (x_wi l355 x_wn) (by decide) rfl ?_
              refine x_aload (np := 1) (x := 0) (by decide +kernel) rfl (x_nc_le (by decide)) ?_
              have q356 : h45 75 1 = 76 := by have z := jB (e := 1) 0 j46 rg_75_1_0_1 (by decide) (by decide); omega
              refine x_getR (np := 4) (x := 705) (f := 1) (q := 76) (by decide +kernel) (by decide) (by decide +kernel) q356 ?_
              refine x_const (np := 7) (x := 9223372897995718856) (a := 2147483848) (by decide +kernel) (by decide) (by decide) ?_
              refine x_const (np := 8) (x := 9223372060477095941) (a := 2147483653) (by decide +kernel) (by decide) (by decide) ?_
              refine x_iload (np := 9) (x := 1) (by decide +kernel) rfl la1 ?_
              refine x_imul (np := 10) (x := 0) (i := 5) (j := u59) (v := (2147483648 + 5 * u59)) (by decide +kernel) (by first | decide | omega) (by first | decide | omega) (by first | decide | omega) (by first | decide | omega) (by decide) la1 ?_
              refine x_iadd (np := 11) (x := 0) (v := (2147483848 + 5 * u59)) (by decide +kernel) (by decide) (by first | decide | omega) (by first | decide | omega) (by first | decide | omega) ?_
              refine x_iload (np := 12) (x := 2) (by decide +kernel) rfl (by decide) ?_
              refine x_iadd (np := 13) (x := 0) (v := (2147483852 + 5 * u59)) (by decide +kernel) (by first | decide | omega) (by decide) (by first | decide | omega) (by first | decide | omega) ?_
              have q358 : h45 76 (204 + 5 * u59) = h1 76 (204 + 5 * u59) := jK u59 f47 rg_76_204_5_10 (by first | decide | omega) (by first | decide | omega) (by decide)
              have q359 : h1 76 (204 + 5 * u59) = h 76 (204 + 5 * u59) := by rw [← e3]; exact x_up_k (by decide)
              refine x_aldC (np := 14) (x := 0) (n := 1952) (i := (204 + 5 * u59)) (q := ((h 76 (204 + 5 * u59)))) (by decide +kernel) (by decide +kernel) (by first | decide | omega) (by first | decide | omega) (by decide) (q358.trans q359) (fun l360 => ?_)
              refine x_retI (np := 15) (x := 0) (by decide +kernel) l360 (Or.inl (by decide +kernel)) ⟨_, rfl, l360, ?_⟩
              refine x_icmp (k := 2) (tg := 104) (np := 102) (by decide +kernel) (by decide) l355 l360 (fun q361 => ?_) (fun q362 => ?_)
              · have q361 : (h45 92 u353) < ((h 76 (204 + 5 * u59))) := q361
                refine x_iinc (np := 107) (i := 3) (j := 2147483649) (v := (1 + v319)) (lo' := [x_r 75, iv_c a1, iv_c ((h 76 (203 + 5 * u59))), iv_c (1 + v319)]) (by decide +kernel) (by decide) (by decide) rfl (by first | decide | omega) (by first | decide | omega) (by first | decide | omega) rfl ?_
                refine x_goto (np := 110) (x := 55) (by decide +kernel) ?_
                exact i323 (1 + v319) (by first | decide | omega) (by first | decide | omega)
              have q362 : ¬ ((h45 92 u353) < ((h 76 (204 + 5 * u59)))) := q362
              refine x_iload (np := 103) (x := 3) (by decide +kernel) rfl (by first | decide | omega) ?_
              refine x_retI (np := 104) (x := 0) (by decide +kernel) (by first | decide | omega) (Or.inl (by decide +kernel)) ⟨_, rfl, (by first | decide | omega), ?_⟩
              exact ⟨j46, f50, (by first | decide | omega)⟩
          exact p321 _ 2147483648 (Nat.lt_succ_self _) (by first | decide | omega)
        have q66 : ¬ (((h 76 (200 + 5 * u59))) ≠ 2147483648) := q66
        refine x_const (np := 45) (x := 9223372034707292159) (a := 2147483647) (by decide +kernel) (by decide) (by decide) ?_
        refine x_retI (np := 46) (x := 0) (by decide +kernel) (by decide) (Or.inl (by decide +kernel)) ⟨_, rfl, (by decide), ?_⟩
        exact ⟨j46, f50, (by first | decide | omega)⟩
      have q40 : ¬ (2147483648 = 2147483648) := q40
      exfalso; omega
    have q38 : ¬ (2147483648 = 2147483648) := q38
    exfalso; omega
  have q36 : ¬ (2147483649 ≠ 2147483648) := q36
  exfalso; omega
set_option maxHeartbeats 0 in
/-- LentNamesModel.handsOf(I)I -/
theorem c236_75 {sc : Nat × Nat} {d a1 : Nat} {h : xh} (hJ : J h) (ba1 : 2147483648 ≤ a1 ∧ a1 ≤ 2147483653) : X sc 236 (d + 1) (xI fun r h' => h' = h ∧ (0 ≤ r ∧ r ≤ 4294967295)) 0 0 0 [x_r 75, iv_c a1, 147573952589676412928, 147573952589676412928] [] h := by
  have la1 : a1 < 4294967296 := by first | decide | omega
  refine x_const (np := 1) (x := 9223372039002259456) (a := 2147483648) (by decide +kernel) (by decide) (by decide) ?_
  refine x_istore (np := 2) (x := 2) (lo' := [x_r 75, iv_c a1, iv_c 2147483648, 147573952589676412928]) (by decide +kernel) (by decide) (Nat.le_of_ble_eq_true rfl) rfl ?_
  refine x_const (np := 3) (x := 9223372043297226753) (a := 2147483649) (by decide +kernel) (by decide) (by decide) ?_
  refine x_istore (np := 4) (x := 3) (lo' := [x_r 75, iv_c a1, iv_c 2147483648, iv_c 2147483649]) (by decide +kernel) (by decide) (Nat.le_of_ble_eq_true rfl) rfl ?_
  have p753 : ∀ (n : Nat) (v749 : Nat) (v751 : Nat), 4294967296 - v751 < n → (0 ≤ v749 ∧ v749 ≤ 4294967295) → (2147483649 ≤ v751 ∧ v751 ≤ 2147483660) → X sc 236 (d + 1) (xI fun r h' => h' = h ∧ (0 ≤ r ∧ r ≤ 4294967295)) 0 0 4 [x_r 75, iv_c a1, iv_c v749, iv_c v751] [] h := by
    intro n
    induction n with
    | zero => intro v749 v751 q754; exact absurd q754 (Nat.not_lt_zero _)
    | succ n i755 =>
      intro v749 v751 q754 b750 b752
      refine x_iload (np := 5) (x := 3) (by decide +kernel) rfl (by first | decide | omega) ?_
      refine x_const (np := 7) (x := 9223372090541867020) (a := 2147483660) (by decide +kernel) (by decide) (by decide) ?_
      refine x_icmp (k := 3) (tg := 41) (np := 10) (by decide +kernel) (by decide) (by first | decide | omega) (by decide) (fun q756 => ?_) (fun q757 => ?_)
      · have q756 : 2147483660 ≤ v751 := q756
        refine x_iload (np := 42) (x := 2) (by decide +kernel) rfl (by first | decide | omega) ?_
        refine x_retI (np := 43) (x := 0) (by decide +kernel) (by first | decide | omega) (Or.inl (by decide +kernel)) ⟨_, rfl, (by first | decide | omega), ?_⟩
        exact ⟨rfl, (by first | decide | omega)⟩
      have q757 : ¬ (2147483660 ≤ v751) := q757
      refine x_iload (np := 11) (x := 2) (by decide +kernel) rfl (by first | decide | omega) ?_
      refine x_aload (np := 12) (x := 0) (by decide +kernel) rfl (x_nc_le (by decide)) ?_
      refine x_iload (np := 13) (x := 1) (by decide +kernel) rfl la1 ?_
      refine x_iload (np := 14) (x := 3) (by decide +kernel) rfl (by first | decide | omega) ?_
      refine x_nI (t := 6) (mj := 211) (n := 3) (rc := 12) (ml := 3) (nr := 1) (np := 17) (as := [x_r 75, iv_c a1, iv_c v751]) (rest := [iv_c v749]) (lo1 := [x_r 75, iv_c a1, iv_c v751]) (by decide +kernel) (by decide) (by decide +kernel) (x_rb_of (by decide +kernel)) rfl rfl (x_wr (by decide) (x_wi la1 (x_wi (by first | decide | omega) x_wn))) (x_wi (by first | decide | omega) x_wn) (by decide) rfl ?_
      refine x_aload (np := 1) (x := 0) (by decide +kernel) rfl (x_nc_le (by decide)) ?_
      have q758 : h 75 20 = 87 := by have z := jB (e := 20) 0 hJ rg_75_20_0_1 (by decide) (by decide); omega
      refine x_getR (np := 4) (x := 724) (f := 20) (q := 87) (by decide +kernel) (by decide) (by decide +kernel) q758 ?_
      refine x_const (np := 6) (x := 9223372090541867020) (a := 2147483660) (by decide +kernel) (by decide) (by decide) ?_
      refine x_iload (np := 7) (x := 1) (by decide +kernel) rfl la1 ?_
      obtain ⟨u759, q760⟩ : ∃ z, a1 = 2147483648 + z := ⟨a1 - 2147483648, by first | decide | omega⟩
      refine x_imul (np := 8) (x := 0) (i := 12) (j := u759) (v := (2147483648 + 12 * u759)) (by decide +kernel) (by first | decide | omega) (by first | decide | omega) (by first | decide | omega) (by first | decide | omega) (by decide) la1 ?_
      refine x_iload (np := 9) (x := 2) (by decide +kernel) rfl (by first | decide | omega) ?_
      refine x_iadd (np := 10) (x := 0) (v := (12 * u759 + v751)) (by decide +kernel) (by first | decide | omega) (by first | decide | omega) (by first | decide | omega) (by first | decide | omega) ?_
      obtain ⟨u762, q763⟩ : ∃ z, v751 = 2147483648 + z := ⟨v751 - 2147483648, by first | decide | omega⟩
      have b764 := jB (e := (12 * u759 + u762)) (12 * u759 + u762) hJ rg_87_0_1_72 (by first | decide | omega) (by first | decide | omega)
      refine x_aldC (np := 11) (x := 0) (n := 72) (i := (12 * u759 + u762)) (q := ((h 87 (12 * u759 + u762)))) (by decide +kernel) (by decide +kernel) (by first | decide | omega) (by first | decide | omega) (by decide) rfl (fun l765 => ?_)
      refine x_retI (np := 12) (x := 0) (by decide +kernel) l765 (Or.inl (by decide +kernel)) ⟨_, rfl, l765, ?_⟩
      refine x_aload (np := 18) (x := 0) (by decide +kernel) rfl (x_nc_le (by decide)) ?_
      refine x_iload (np := 19) (x := 1) (by decide +kernel) rfl la1 ?_
      refine x_iload (np := 20) (x := 3) (by decide +kernel) rfl (by first | decide | omega) ?_
      refine x_const (np := 21) (x := 9223372043297226753) (a := 2147483649) (by decide +kernel) (by decide) (by decide) ?_
      obtain ⟨v766, q767⟩ : ∃ z, z + 2147483649 = v751 + 2147483648 := ⟨v751 + 2147483648 - 2147483649, by first | decide | omega⟩
      refine x_isub (np := 22) (x := 0) (v := v766) (by decide +kernel) (by first | decide | omega) (by decide) (by first | decide | omega) (by first | decide | omega) ?_
      refine x_nI (t := 6) (mj := 211) (n := 3) (rc := 12) (ml := 3) (nr := 2) (np := 25) (as := [x_r 75, iv_c a1, iv_c v766]) (rest := [iv_c ((h 87 (12 * u759 + u762))), iv_c v749]) (lo1 := [x_r 75, iv_c a1, iv_c v766]) (by decide +kernel) (by decide) (by decide +kernel) (x_rb_of (by decide +kernel)) rfl rfl (x_wr (by decide) (x_wi la1 (x_wi (by first | decide | omega) x_wn))) (x_wi l765 (x_wi (by first | decide | omega) x_wn)) (by decide) rfl ?_
      refine x_aload (np := 1) (x := 0) (by decide +kernel) rfl (x_nc_le (by decide)) ?_
      have q768 : h 75 20 = 87 := by have z := jB (e := 20) 0 hJ rg_75_20_0_1 (by decide) (by decide); omega
      refine x_getR (np := 4) (x := 724) (f := 20) (q := 87) (by decide +kernel) (by decide) (by decide +kernel) q768 ?_
      refine x_const (np := 6) (x := 9223372090541867020) (a := 2147483660) (by decide +kernel) (by decide) (by decide) ?_
      refine x_iload (np := 7) (x := 1) (by decide +kernel) rfl la1 ?_
      refine x_imul (np := 8) (x := 0) (i := 12) (j := u759) (v := (2147483648 + 12 * u759)) (by decide +kernel) (by first | decide | omega) (by first | decide | omega) (by first | decide | omega) (by first | decide | omega) (by decide) la1 ?_
      refine x_iload (np := 9) (x := 2) (by decide +kernel) rfl (by first | decide | omega) ?_
      refine x_iadd (np := 10) (x := 0) (v := (12 * u759 + v766)) (by decide +kernel) (by first | decide | omega) (by first | decide | omega) (by first | decide | omega) (by first | decide | omega) ?_
      obtain ⟨u770, q771⟩ : ∃ z, v766 = 2147483648 + z := ⟨v766 - 2147483648, by first | decide | omega⟩
      have b772 := jB (e := (12 * u759 + u770)) (12 * u759 + u770) hJ rg_87_0_1_72 (by first | decide | omega) (by first | decide | omega)
      refine x_aldC (np := 11) (x := 0) (n := 72) (i := (12 * u759 + u770)) (q := ((h 87 (12 * u759 + u770)))) (by decide +kernel) (by decide +kernel) (by first | decide | omega) (by first | decide | omega) (by decide) rfl (fun l773 => ?_)
      refine x_retI (np := 12) (x := 0) (by decide +kernel) l773 (Or.inl (by decide +kernel)) ⟨_, rfl, l773, ?_⟩
      refine x_icmp (k := 0) (tg := 32) (np := 28) (by decide +kernel) (by decide) l765 l773 (fun q774 => ?_) (fun q775 => ?_)
      · have q774 : ((h 87 (12 * u759 + u762))) = ((h 87 (12 * u759 + u770))) := q774
        refine x_const (np := 33) (x := 9223372039002259456) (a := 2147483648) (by decide +kernel) (by decide) (by decide) ?_
        refine x_iadd (np := 34) (x := 0) (v := v749) (by decide +kernel) (by first | decide | omega) (by decide) (by first | decide | omega) (by first | decide | omega) ?_
        refine x_istore (np := 35) (x := 2) (lo' := [x_r 75, iv_c a1, iv_c v749, iv_c v751]) (by decide +kernel) (by first | decide | omega) (Nat.le_of_ble_eq_true rfl) rfl ?_
        refine x_iinc (np := 38) (i := 3) (j := 2147483649) (v := (1 + v751)) (lo' := [x_r 75, iv_c a1, iv_c v749, iv_c (1 + v751)]) (by decide +kernel) (by decide) (by decide) rfl (by first | decide | omega) (by first | decide | omega) (by first | decide | omega) rfl ?_
        refine x_goto (np := 41) (x := 4) (by decide +kernel) ?_
        exact i755 v749 (1 + v751) (by first | decide | omega) (by first | decide | omega) (by first | decide | omega)
      have q775 : ¬ (((h 87 (12 * u759 + u762))) = ((h 87 (12 * u759 + u770)))) := q775
      refine x_const (np := 29) (x := 9223372043297226753) (a := 2147483649) (by decide +kernel) (by decide) (by decide) ?_
      refine x_goto (np := 32) (x := 33) (by decide +kernel) ?_
      refine x_addA (by rw [tb_b236]; decide +kernel) (by first | decide | omega) (by decide) (fun v776 l777 => ?_)
      refine x_istore (np := 35) (x := 2) (lo' := [x_r 75, iv_c a1, iv_c v776, iv_c v751]) (by decide +kernel) l777 (Nat.le_of_ble_eq_true rfl) rfl ?_
      refine x_iinc (np := 38) (i := 3) (j := 2147483649) (v := (1 + v751)) (lo' := [x_r 75, iv_c a1, iv_c v776, iv_c (1 + v751)]) (by decide +kernel) (by decide) (by decide) rfl (by first | decide | omega) (by first | decide | omega) (by first | decide | omega) rfl ?_
      refine x_goto (np := 41) (x := 4) (by decide +kernel) ?_
      exact i755 v776 (1 + v751) (by first | decide | omega) (by first | decide | omega) (by first | decide | omega)
  exact p753 _ 2147483648 2147483649 (Nat.lt_succ_self _) (by first | decide | omega) (by first | decide | omega)
set_option maxHeartbeats 0 in
/-- LentNamesModel.way(IZ)I -/
theorem c237_75 {sc : Nat × Nat} {d a1 a2 : Nat} {h : xh} (hJ : J h) (ba1 : 0 ≤ a1 ∧ a1 ≤ 4294967295) (ba2 : 2147483648 ≤ a2 ∧ a2 ≤ 2147483649) (hW : WT 76 h) : X sc 237 (d + 5) (xI fun r h' => J h' ∧ Fr 135291600897 h h' ∧ (0 ≤ r ∧ r ≤ 4294967295)) 0 0 0 [x_r 75, iv_c a1, iv_c a2, 147573952589676412928, 147573952589676412928] [] h := by
  have la1 : a1 < 4294967296 := by first | decide | omega
  have la2 : a2 < 4294967296 := by first | decide | omega
  have hF := Fr.refl 135291600897 h
  refine x_aload (np := 1) (x := 0) (by decide +kernel) rfl (x_nc_le (by decide)) ?_
  refine x_const (np := 2) (x := 9223372039002259456) (a := 2147483648) (by decide +kernel) (by decide) (by decide) ?_
  refine x_putI (np := 5) (x := 704) (f := 0) (by decide +kernel) (by decide +kernel) (by decide) (Or.inl (by decide)) ?_
  have j2 := jU (e := 0) (v := 2147483648) 0 hJ rg_75_0_0_1 (by first | decide | omega) (by first | decide | omega) (by first | decide | omega)
  have f4 := jF (e := 0) (v := 2147483648) 0 hF rg_75_0_0_1 (by first | decide | omega) (by first | decide | omega) (by decide)
  generalize e3 : x_up h 75 0 2147483648 = h1 at j2 f4 ⊢
  refine x_aload (np := 6) (x := 0) (by decide +kernel) rfl (x_nc_le (by decide)) ?_
  refine x_aload (np := 7) (x := 0) (by decide +kernel) rfl (x_nc_le (by decide)) ?_
  refine x_iload (np := 8) (x := 1) (by decide +kernel) rfl la1 ?_
  refine x_nI (t := 6) (mj := 159) (n := 2) (rc := 12) (ml := 2) (nr := 1) (np := 11) (as := [x_r 75, iv_c a1]) (rest := [x_r 75]) (lo1 := [x_r 75, iv_c a1]) (by decide +kernel) (by decide) (by decide +kernel) (x_rb_of (by decide +kernel)) rfl rfl (x_wr (by decide) (x_wi la1 x_wn)) (x_wr (by decide) x_wn) (by decide) rfl ?_
  refine x_aload (np := 1) (x := 0) (by decide +kernel) rfl (x_nc_le (by decide)) ?_
  refine x_iload (np := 2) (x := 1) (by decide +kernel) rfl la1 ?_
  refine x_const (np := 3) (x := 9223372039002259456) (a := 2147483648) (by decide +kernel) (by decide) (by decide) ?_
  refine x_nI (t := 6) (mj := 158) (n := 3) (rc := 12) (ml := 3) (nr := 0) (np := 6) (as := [x_r 75, iv_c a1, iv_c 2147483648]) (rest := []) (lo1 := [x_r 75, iv_c a1, iv_c 2147483648]) (by decide +kernel) (by decide) (by decide +kernel) (x_rb_of (by decide +kernel)) rfl rfl (x_wr (by decide) (x_wi la1 (x_wi (by decide) x_wn))) x_wn (by decide) rfl ?_
  refine x_iload (np := 1) (x := 1) (by decide +kernel) rfl la1 ?_
  refine x_const (np := 2) (x := 9223372039002259456) (a := 2147483648) (by decide +kernel) (by decide) (by decide) ?_
  refine x_aload (np := 3) (x := 0) (by decide +kernel) rfl (x_nc_le (by decide)) ?_
  have q5 : h1 75 1 = 76 := by have z := jB (e := 1) 0 j2 rg_75_1_0_1 (by decide) (by decide); omega
  refine x_getR (np := 6) (x := 705) (f := 1) (q := 76) (by decide +kernel) (by decide) (by decide +kernel) q5 ?_
  refine x_iload (np := 7) (x := 2) (by decide +kernel) rfl (by decide) ?_
  have q6 : h1 76 0 = h 76 0 := by rw [← e3]; exact x_up_k (by decide)
  have b7 := jB (e := 0) 0 hJ rg_76_0_0_1 (by first | decide | omega) (by first | decide | omega)
  refine x_aldC (np := 8) (x := 0) (n := 1952) (i := 0) (q := (h 76 0)) (by decide +kernel) (by decide +kernel) (by first | decide | omega) (by first | decide | omega) (by decide) q6 (fun l8 => ?_)
  refine x_const (np := 9) (x := 9223372043297226753) (a := 2147483649) (by decide +kernel) (by decide) (by decide) ?_
  obtain ⟨v9, q10⟩ : ∃ z, z + 2147483649 = (h 76 0) + 2147483648 := ⟨(h 76 0) + 2147483648 - 2147483649, by first | decide | omega⟩
  refine x_isub (np := 10) (x := 0) (v := v9) (by decide +kernel) l8 (by decide) (by first | decide | omega) (by first | decide | omega) ?_
  refine x_nI (t := 0) (mj := 153) (n := 3) (rc := 0) (ml := 3) (nr := 0) (np := 13) (as := [iv_c a1, iv_c 2147483648, iv_c v9]) (rest := []) (lo1 := [iv_c a1, iv_c 2147483648, iv_c v9]) (by decide +kernel) (by decide) (by decide +kernel) (Or.inl rfl) rfl rfl (x_wi la1 (x_wi (by decide) (x_wi (by first | decide | omega) x_wn))) x_wn (by decide) rfl ?_
  refine x_iload (np := 1) (x := 0) (by decide +kernel) rfl la1 ?_
  refine x_iload (np := 2) (x := 1) (by decide +kernel) rfl (by decide) ?_
  refine x_icmp (k := 2) (tg := 14) (np := 5) (by decide +kernel) (by decide) la1 (by decide) (fun q11 => ?_) (fun q12 => ?_)
  · have q11 : a1 < 2147483648 := q11
    refine x_const (np := 15) (x := 9223372039002259456) (a := 2147483648) (by decide +kernel) (by decide) (by decide) ?_
    refine x_retI (np := 16) (x := 0) (by decide +kernel) (by decide) (Or.inr ⟨by decide +kernel, by first | decide | omega, by first | decide | omega⟩) ⟨_, rfl, (by decide), ?_⟩
    refine x_ifz (k := 1) (tg := 20) (np := 16) (by decide +kernel) (by decide) (by decide) (fun q13 => ?_) (fun q14 => ?_)
    · have q13 : 2147483648 ≠ 2147483648 := q13
      exfalso; omega
    have q14 : ¬ (2147483648 ≠ 2147483648) := q14
    refine x_const (np := 17) (x := 9223372043297226753) (a := 2147483649) (by decide +kernel) (by decide) (by decide) ?_
    refine x_goto (np := 20) (x := 21) (by decide +kernel) ?_
    refine x_retI (np := 22) (x := 0) (by decide +kernel) (by decide) (Or.inr ⟨by decide +kernel, by first | decide | omega, by first | decide | omega⟩) ⟨_, rfl, (by decide), ?_⟩
    refine x_retI (np := 7) (x := 0) (by decide +kernel) (by decide) (Or.inr ⟨by decide +kernel, by first | decide | omega, by first | decide | omega⟩) ⟨_, rfl, (by decide), ?_⟩
    refine x_const (np := 12) (x := 9223372043297226753) (a := 2147483649) (by decide +kernel) (by decide) (by decide) ?_
    refine x_nI (t := 6) (mj := 152) (n := 3) (rc := 12) (ml := 3) (nr := 0) (np := 15) (as := [x_r 75, iv_c 2147483649, iv_c 2147483649]) (rest := []) (lo1 := [x_r 75, iv_c 2147483649, iv_c 2147483649]) (by decide +kernel) (by decide) (by decide +kernel) (x_rb_of (by decide +kernel)) rfl rfl (x_wr (by decide) (x_wi (by decide) (x_wi (by decide) x_wn))) x_wn (by decide) rfl ?_
    refine x_iload (np := 1) (x := 1) (by decide +kernel) rfl (by decide) ?_
    refine x_ifz (k := 0) (tg := 9) (np := 4) (by decide +kernel) (by decide) (by decide) (fun q15 => ?_) (fun q16 => ?_)
    · have q15 : 2147483649 = 2147483648 := q15
      exfalso; omega
    have q16 : ¬ (2147483649 = 2147483648) := q16
    refine x_aload (np := 5) (x := 0) (by decide +kernel) rfl (x_nc_le (by decide)) ?_
    refine x_iload (np := 6) (x := 2) (by decide +kernel) rfl (by decide) ?_
    refine x_putI (np := 9) (x := 704) (f := 0) (by decide +kernel) (by decide +kernel) (by decide) (Or.inl (by decide)) ?_
    have j18 := jU (e := 0) (v := 2147483649) 0 j2 rg_75_0_0_1 (by first | decide | omega) (by first | decide | omega) (by first | decide | omega)
    have f20 := jF (e := 0) (v := 2147483649) 0 f4 rg_75_0_0_1 (by first | decide | omega) (by first | decide | omega) (by decide)
    generalize e19 : x_up h1 75 0 2147483649 = h17 at j18 f20 ⊢
    refine x_iload (np := 10) (x := 1) (by decide +kernel) rfl (by decide) ?_
    refine x_retI (np := 11) (x := 0) (by decide +kernel) (by decide) (Or.inr ⟨by decide +kernel, by first | decide | omega, by first | decide | omega⟩) ⟨_, rfl, (by decide), ?_⟩
    refine x_ifz (k := 0) (tg := 20) (np := 18) (by decide +kernel) (by decide) (by decide) (fun q21 => ?_) (fun q22 => ?_)
    · have q21 : 2147483649 = 2147483648 := q21
      exfalso; omega
    have q22 : ¬ (2147483649 = 2147483648) := q22
    refine x_const (np := 19) (x := 9223372039002259456) (a := 2147483648) (by decide +kernel) (by decide) (by decide) ?_
    refine x_retI (np := 20) (x := 0) (by decide +kernel) (by decide) (Or.inl (by decide +kernel)) ⟨_, rfl, (by decide), ?_⟩
    exact ⟨j18, f20, (by first | decide | omega)⟩
  have q12 : ¬ (a1 < 2147483648) := q12
  refine x_iload (np := 6) (x := 0) (by decide +kernel) rfl la1 ?_
  refine x_iload (np := 7) (x := 2) (by decide +kernel) rfl (by first | decide | omega) ?_
  refine x_icmp (k := 4) (tg := 14) (np := 10) (by decide +kernel) (by decide) la1 (by first | decide | omega) (fun q23 => ?_) (fun q24 => ?_)
  · have q23 : v9 < a1 := q23
    refine x_const (np := 15) (x := 9223372039002259456) (a := 2147483648) (by decide +kernel) (by decide) (by decide) ?_
    refine x_retI (np := 16) (x := 0) (by decide +kernel) (by decide) (Or.inr ⟨by decide +kernel, by first | decide | omega, by first | decide | omega⟩) ⟨_, rfl, (by decide), ?_⟩
    refine x_ifz (k := 1) (tg := 20) (np := 16) (by decide +kernel) (by decide) (by decide) (fun q25 => ?_) (fun q26 => ?_)
    · have q25 : 2147483648 ≠ 2147483648 := q25
      exfalso; omega
    have q26 : ¬ (2147483648 ≠ 2147483648) := q26
    refine x_const (np := 17) (x := 9223372043297226753) (a := 2147483649) (by decide +kernel) (by decide) (by decide) ?_
    refine x_goto (np := 20) (x := 21) (by decide +kernel) ?_
    refine x_retI (np := 22) (x := 0) (by decide +kernel) (by decide) (Or.inr ⟨by decide +kernel, by first | decide | omega, by first | decide | omega⟩) ⟨_, rfl, (by decide), ?_⟩
    refine x_retI (np := 7) (x := 0) (by decide +kernel) (by decide) (Or.inr ⟨by decide +kernel, by first | decide | omega, by first | decide | omega⟩) ⟨_, rfl, (by decide), ?_⟩
    refine x_const (np := 12) (x := 9223372043297226753) (a := 2147483649) (by decide +kernel) (by decide) (by decide) ?_
    refine x_nI (t := 6) (mj := 152) (n := 3) (rc := 12) (ml := 3) (nr := 0) (np := 15) (as := [x_r 75, iv_c 2147483649, iv_c 2147483649]) (rest := []) (lo1 := [x_r 75, iv_c 2147483649, iv_c 2147483649]) (by decide +kernel) (by decide) (by decide +kernel) (x_rb_of (by decide +kernel)) rfl rfl (x_wr (by decide) (x_wi (by decide) (x_wi (by decide) x_wn))) x_wn (by decide) rfl ?_
    refine x_iload (np := 1) (x := 1) (by decide +kernel) rfl (by decide) ?_
    refine x_ifz (k := 0) (tg := 9) (np := 4) (by decide +kernel) (by decide) (by decide) (fun q27 => ?_) (fun q28 => ?_)
    · have q27 : 2147483649 = 2147483648 := q27
      exfalso; omega
    have q28 : ¬ (2147483649 = 2147483648) := q28
    refine x_aload (np := 5) (x := 0) (by decide +kernel) rfl (x_nc_le (by decide)) ?_
    refine x_iload (np := 6) (x := 2) (by decide +kernel) rfl (by decide) ?_
    refine x_putI (np := 9) (x := 704) (f := 0) (by decide +kernel) (by decide +kernel) (by decide) (Or.inl (by decide)) ?_
    have j30 := jU (e := 0) (v := 2147483649) 0 j2 rg_75_0_0_1 (by first | decide | omega) (by first | decide | omega) (by first | decide | omega)
    have f32 := jF (e := 0) (v := 2147483649) 0 f4 rg_75_0_0_1 (by first | decide | omega) (by first | decide | omega) (by decide)
    generalize e31 : x_up h1 75 0 2147483649 = h29 at j30 f32 ⊢
    refine x_iload (np := 10) (x := 1) (by decide +kernel) rfl (by decide) ?_
    refine x_retI (np := 11) (x := 0) (by decide +kernel) (by decide) (Or.inr ⟨by decide +kernel, by first | decide | omega, by first | decide | omega⟩) ⟨_, rfl, (by decide), ?_⟩
    refine x_ifz (k := 0) (tg := 20) (np := 18) (by decide +kernel) (by decide) (by decide) (fun q33 => ?_) (fun q34 => ?_)
    · have q33 : 2147483649 = 2147483648 := q33
      exfalso; omega
    have q34 : ¬ (2147483649 = 2147483648) := q34
    refine x_const (np := 19) (x := 9223372039002259456) (a := 2147483648) (by decide +kernel) (by decide) (by decide) ?_
    refine x_retI (np := 20) (x := 0) (by decide +kernel) (by decide) (Or.inl (by decide +kernel)) ⟨_, rfl, (by decide), ?_⟩
    exact ⟨j30, f32, (by first | decide | omega)⟩
  have q24 : ¬ (v9 < a1) := q24
  refine x_const (np := 11) (x := 9223372043297226753) (a := 2147483649) (by decide +kernel) (by decide) (by decide) ?_
  refine x_goto (np := 14) (x := 15) (by decide +kernel) ?_
  refine x_retI (np := 16) (x := 0) (by decide +kernel) (by decide) (Or.inr ⟨by decide +kernel, by first | decide | omega, by first | decide | omega⟩) ⟨_, rfl, (by decide), ?_⟩
  refine x_ifz (k := 1) (tg := 20) (np := 16) (by decide +kernel) (by decide) (by decide) (fun q35 => ?_) (fun q36 => ?_)
  · have q35 : 2147483649 ≠ 2147483648 := q35
    refine x_const (np := 21) (x := 9223372039002259456) (a := 2147483648) (by decide +kernel) (by decide) (by decide) ?_
    refine x_retI (np := 22) (x := 0) (by decide +kernel) (by decide) (Or.inr ⟨by decide +kernel, by first | decide | omega, by first | decide | omega⟩) ⟨_, rfl, (by decide), ?_⟩
    refine x_retI (np := 7) (x := 0) (by decide +kernel) (by decide) (Or.inr ⟨by decide +kernel, by first | decide | omega, by first | decide | omega⟩) ⟨_, rfl, (by decide), ?_⟩
    refine x_const (np := 12) (x := 9223372043297226753) (a := 2147483649) (by decide +kernel) (by decide) (by decide) ?_
    refine x_nI (t := 6) (mj := 152) (n := 3) (rc := 12) (ml := 3) (nr := 0) (np := 15) (as := [x_r 75, iv_c 2147483648, iv_c 2147483649]) (rest := []) (lo1 := [x_r 75, iv_c 2147483648, iv_c 2147483649]) (by decide +kernel) (by decide) (by decide +kernel) (x_rb_of (by decide +kernel)) rfl rfl (x_wr (by decide) (x_wi (by decide) (x_wi (by decide) x_wn))) x_wn (by decide) rfl ?_
    refine x_iload (np := 1) (x := 1) (by decide +kernel) rfl (by decide) ?_
    refine x_ifz (k := 0) (tg := 9) (np := 4) (by decide +kernel) (by decide) (by decide) (fun q37 => ?_) (fun q38 => ?_)
    · have q37 : 2147483648 = 2147483648 := q37
      refine x_iload (np := 10) (x := 1) (by decide +kernel) rfl (by decide) ?_
      refine x_retI (np := 11) (x := 0) (by decide +kernel) (by decide) (Or.inr ⟨by decide +kernel, by first | decide | omega, by first | decide | omega⟩) ⟨_, rfl, (by decide), ?_⟩
      refine x_ifz (k := 0) (tg := 20) (np := 18) (by decide +kernel) (by decide) (by decide) (fun q39 => ?_) (fun q40 => ?_)
      · have q39 : 2147483648 = 2147483648 := q39
        refine x_aload (np := 21) (x := 0) (by decide +kernel) rfl (x_nc_le (by decide)) ?_
        have m44 : WT 76 h1 := by rw [← e3]; exact WT.oth hW hJ (by decide)
        refine x_cV (t := 6) (mj := 210) (n := 1) (rc := 12) (ml := 5) (nr := 0) (np := 24) (as := [x_r 75]) (rest := []) (lo1 := [x_r 75, 147573952589676412928, 147573952589676412928, 147573952589676412928, 147573952589676412928]) (by decide +kernel) (by decide) (by decide +kernel) (x_rb_of (by decide +kernel)) rfl rfl (x_wr (by decide) x_wn) x_wn (by decide) rfl (c210_75 j2  m44) (fun h45 q43 => ?_)
        obtain ⟨j46, f47⟩ := q43
        have f50 := Fr.trans f4 f47 (by decide)
        refine x_iload (np := 25) (x := 2) (by decide +kernel) rfl la2 ?_
        refine x_ifz (k := 0) (tg := 34) (np := 28) (by decide +kernel) (by decide) la2 (fun q51 => ?_) (fun q52 => ?_)
        · have q51 : a2 = 2147483648 := q51
          refine x_const (np := 35) (x := 9223372039002259456) (a := 2147483648) (by decide +kernel) (by decide) (by decide) ?_
          refine x_istore (np := 36) (x := 3) (lo' := [x_r 75, iv_c a1, iv_c a2, iv_c 2147483648, 147573952589676412928]) (by decide +kernel) (by decide) (Nat.le_of_ble_eq_true rfl) rfl ?_
          refine x_const (np := 37) (x := 9223372039002259456) (a := 2147483648) (by decide +kernel) (by decide) (by decide) ?_
          refine x_istore (np := 39) (x := 4) (lo' := [x_r 75, iv_c a1, iv_c a2, iv_c 2147483648, iv_c 2147483648]) (by decide +kernel) (by decide) (Nat.le_of_ble_eq_true rfl) rfl ?_
          have p332 : ∀ (n : Nat) (v328 : Nat) (v330 : Nat), 4294967296 - v330 < n → (0 ≤ v328 ∧ v328 ≤ 4294967295) → (2147483648 ≤ v330 ∧ v330 ≤ 2147483660) → X sc 237 (d + 5) (xI fun r h' => J h' ∧ Fr 135291600897 h h' ∧ (0 ≤ r ∧ r ≤ 4294967295)) 0 0 39 [x_r 75, iv_c a1, iv_c a2, iv_c v328, iv_c v330] [] h45 := by
            intro n
            induction n with
            | zero => intro v328 v330 q333; exact absurd q333 (Nat.not_lt_zero _)
            | succ n i334 =>
              intro v328 v330 q333 b329 b331
              refine x_iload (np := 41) (x := 4) (by decide +kernel) rfl (by first | decide | omega) ?_
              refine x_const (np := 43) (x := 9223372090541867020) (a := 2147483660) (by decide +kernel) (by decide) (by decide) ?_
              refine x_icmp (k := 3) (tg := 78) (np := 46) (by decide +kernel) (by decide) (by first | decide | omega) (by decide) (fun q335 => ?_) (fun q336 => ?_)
              · have q335 : 2147483660 ≤ v330 := q335
                refine x_iload (np := 79) (x := 3) (by decide +kernel) rfl (by first | decide | omega) ?_
                refine x_retI (np := 80) (x := 0) (by decide +kernel) (by first | decide | omega) (Or.inl (by decide +kernel)) ⟨_, rfl, (by first | decide | omega), ?_⟩
                exact ⟨j46, f50, (by first | decide | omega)⟩
              have q336 : ¬ (2147483660 ≤ v330) := q336
              refine x_iload (np := 47) (x := 3) (by decide +kernel) rfl (by first | decide | omega) ?_
              refine x_aload (np := 48) (x := 0) (by decide +kernel) rfl (x_nc_le (by decide)) ?_
              refine x_iload (np := 49) (x := 1) (by decide +kernel) rfl la1 ?_
              refine x_iload (np := 51) (x := 4) (by decide +kernel) rfl (by first | decide | omega) ?_
              refine x_nI (t := 6) (mj := 211) (n := 3) (rc := 12) (ml := 3) (nr := 1) (np := 54) (as := [x_r 75, iv_c a1, iv_c v330]) (rest := [iv_c v328]) (lo1 := [x_r 75, iv_c a1, iv_c v330]) (by decide +kernel) (by decide) (by decide +kernel) (x_rb_of (by decide +kernel)) rfl rfl (x_wr (by decide) (x_wi la1 (x_wi (by first | decide | omega) x_wn))) (x_wi (by first | decide | omega) x_wn) (by decide) rfl ?_
              refine x_aload (np := 1) (x := 0) (by decide +kernel) rfl (x_nc_le (by decide)) ?_
              have q337 : h45 75 20 = 87 := by have z := jB (e := 20) 0 j46 rg_75_20_0_1 (by decide) (by decide); omega
              refine x_getR (np := 4) (x := 724) (f := 20) (q := 87) (by decide +kernel) (by decide) (by decide +kernel) q337 ?_
              refine x_const (np := 6) (x := 9223372090541867020) (a := 2147483660) (by decide +kernel) (by decide) (by decide) ?_
              refine x_iload (np := 7) (x := 1) (by decide +kernel) rfl la1 ?_
              obtain ⟨u338, q339⟩ : ∃ z, a1 = 2147483648 + z := ⟨a1 - 2147483648, by first | decide | omega⟩
              refine x_imul (np := 8) (x := 0) (i := 12) (j := u338) (v := (2147483648 + 12 * u338)) (by decide +kernel) (by first | decide | omega) (by first | decide | omega) (by first | decide | omega) (by first | decide | omega) (by decide) la1 ?_
              refine x_iload (np := 9) (x := 2) (by decide +kernel) rfl (by first | decide | omega) ?_
              refine x_iadd (np := 10) (x := 0) (v := (12 * u338 + v330)) (by decide +kernel) (by first | decide | omega) (by first | decide | omega) (by first | decide | omega) (by first | decide | omega) ?_
              obtain ⟨u341, q342⟩ : ∃ z, v330 = 2147483648 + z := ⟨v330 - 2147483648, by first | decide | omega⟩
              have b343 := jB (e := (12 * u338 + u341)) (12 * u338 + u341) j46 rg_87_0_1_72 (by first | decide | omega) (by first | decide | omega)
              refine x_aldC (np := 11) (x := 0) (n := 72) (i := (12 * u338 + u341)) (q := ((h45 87 (12 * u338 + u341)))) (by decide +kernel) (by decide +kernel) (by first | decide | omega) (by first | decide | omega) (by decide) rfl (fun l344 => ?_)
              refine x_retI (np := 12) (x := 0) (by decide +kernel) l344 (Or.inl (by decide +kernel)) ⟨_, rfl, l344, ?_⟩
              refine x_ifz (k := 2) (tg := 69) (np := 57) (by decide +kernel) (by decide) l344 (fun q345 => ?_) (fun q346 => ?_)
              · have q345 : ((h45 87 (12 * u338 + u341))) < 2147483648 := q345
                refine x_const (np := 70) (x := 9223372039002259456) (a := 2147483648) (by decide +kernel) (by decide) (by decide) ?_
                refine x_any (np := 71) (k9 := 1) (by decide +kernel) (by decide) (by first | decide | omega) (by decide) (fun v347 l348 => ?_)
                refine x_istore (np := 72) (x := 3) (lo' := [x_r 75, iv_c a1, iv_c a2, iv_c v347, iv_c v330]) (by decide +kernel) l348 (Nat.le_of_ble_eq_true rfl) rfl ?_
                refine x_iinc (np := 75) (i := 4) (j := 2147483649) (v := (1 + v330)) (lo' := [x_r 75, iv_c a1, iv_c a2, iv_c v347, iv_c (1 + v330)]) (by decide +kernel) (by decide) (by decide) rfl (by first | decide | omega) (by first | decide | omega) (by first | decide | omega) rfl ?_
                refine x_goto (np := 78) (x := 39) (by decide +kernel) ?_
                exact i334 v347 (1 + v330) (by first | decide | omega) (by first | decide | omega) (by first | decide | omega)
              have q346 : ¬ (((h45 87 (12 * u338 + u341))) < 2147483648) := q346
              refine x_const (np := 58) (x := 9223372043297226753) (a := 2147483649) (by decide +kernel) (by decide) (by decide) ?_
              refine x_aload (np := 59) (x := 0) (by decide +kernel) rfl (x_nc_le (by decide)) ?_
              refine x_iload (np := 60) (x := 1) (by decide +kernel) rfl la1 ?_
              refine x_iload (np := 62) (x := 4) (by decide +kernel) rfl (by first | decide | omega) ?_
              refine x_nI (t := 6) (mj := 211) (n := 3) (rc := 12) (ml := 3) (nr := 2) (np := 65) (as := [x_r 75, iv_c a1, iv_c v330]) (rest := [iv_c 2147483649, iv_c v328]) (lo1 := [x_r 75, iv_c a1, iv_c v330]) (by decide +kernel) (by decide) (by decide +kernel) (x_rb_of (by decide +kernel)) rfl rfl (x_wr (by decide) (x_wi la1 (x_wi (by first | decide | omega) x_wn))) (x_wi (by decide) (x_wi (by first | decide | omega) x_wn)) (by decide) rfl ?_
              refine x_aload (np := 1) (x := 0) (by decide +kernel) rfl (x_nc_le (by decide)) ?_
              have q349 : h45 75 20 = 87 := by have z := jB (e := 20) 0 j46 rg_75_20_0_1 (by decide) (by decide); omega
              refine x_getR (np := 4) (x := 724) (f := 20) (q := 87) (by decide +kernel) (by decide) (by decide +kernel) q349 ?_
              refine x_const (np := 6) (x := 9223372090541867020) (a := 2147483660) (by decide +kernel) (by decide) (by decide) ?_
              refine x_iload (np := 7) (x := 1) (by decide +kernel) rfl la1 ?_
              refine x_imul (np := 8) (x := 0) (i := 12) (j := u338) (v := (2147483648 + 12 * u338)) (by decide +kernel) (by first | decide | omega) (by first | decide | omega) (by first | decide | omega) (by first | decide | omega) (by decide) la1 ?_
              refine x_iload (np := 9) (x := 2) (by decide +kernel) rfl (by first | decide | omega) ?_
              refine x_iadd (np := 10) (x := 0) (v := (12 * u338 + v330)) (by decide +kernel) (by first | decide | omega) (by first | decide | omega) (by first | decide | omega) (by first | decide | omega) ?_
              refine x_aldC (np := 11) (x := 0) (n := 72) (i := (12 * u338 + u341)) (q := ((h45 87 (12 * u338 + u341)))) (by decide +kernel) (by decide +kernel) (by first | decide | omega) (by first | decide | omega) (by decide) rfl (fun l351 => ?_)
              refine x_retI (np := 12) (x := 0) (by decide +kernel) l344 (Or.inl (by decide +kernel)) ⟨_, rfl, l344, ?_⟩
              refine x_any (np := 66) (k9 := 3) (by decide +kernel) (by decide) (by decide) l344 (fun v352 l353 => ?_)
              refine x_goto (np := 69) (x := 70) (by decide +kernel) ?_
              refine x_any (np := 71) (k9 := 1) (by decide +kernel) (by decide) (by first | decide | omega) l353 (fun v354 l355 => ?_)
              refine x_istore (np := 72) (x := 3) (lo' := [x_r 75, iv_c a1, iv_c a2, iv_c v354, iv_c v330]) (by decide +kernel) l355 (Nat.le_of_ble_eq_true rfl) rfl ?_
              refine x_iinc (np := 75) (i := 4) (j := 2147483649) (v := (1 + v330)) (lo' := [x_r 75, iv_c a1, iv_c a2, iv_c v354, iv_c (1 + v330)]) (by decide +kernel) (by decide) (by decide) rfl (by first | decide | omega) (by first | decide | omega) (by first | decide | omega) rfl ?_
              refine x_goto (np := 78) (x := 39) (by decide +kernel) ?_
              exact i334 v354 (1 + v330) (by first | decide | omega) (by first | decide | omega) (by first | decide | omega)
          exact p332 _ 2147483648 2147483648 (Nat.lt_succ_self _) (by first | decide | omega) (by first | decide | omega)
        have q52 : ¬ (a2 = 2147483648) := q52
        refine x_aload (np := 29) (x := 0) (by decide +kernel) rfl (x_nc_le (by decide)) ?_
        refine x_iload (np := 30) (x := 1) (by decide +kernel) rfl la1 ?_
        refine x_cP (t := 6) (mj := 236) (n := 2) (rc := 12) (ml := 4) (nr := 0) (np := 33) (as := [x_r 75, iv_c a1]) (rest := []) (lo1 := [x_r 75, iv_c a1, 147573952589676412928, 147573952589676412928]) (by decide +kernel) (by decide) (by decide +kernel) (x_rb_of (by decide +kernel)) rfl rfl (x_wr (by decide) (x_wi la1 x_wn)) x_wn (by decide) rfl (c236_75 j46  (by first | decide | omega)) (fun v356 l357 q358 => ?_)
        refine x_retI (np := 34) (x := 0) (by decide +kernel) l357 (Or.inl (by decide +kernel)) ⟨_, rfl, l357, ?_⟩
        exact ⟨j46, f50, (by first | decide | omega)⟩
      have q40 : ¬ (2147483648 = 2147483648) := q40
      exfalso; omega
    have q38 : ¬ (2147483648 = 2147483648) := q38
    exfalso; omega
  have q36 : ¬ (2147483649 ≠ 2147483648) := q36
  exfalso; omega
set_option maxHeartbeats 0 in
/-- LentNamesModel.busiest()I -/
theorem c238_75 {sc : Nat × Nat} {d  : Nat} {h : xh} (hJ : J h) (hW : WT 76 h) : X sc 238 (d + 5) (xI fun r h' => J h' ∧ Fr 135291600897 h h' ∧ (2147483648 ≤ r ∧ r ≤ 2147483653)) 0 0 0 [x_r 75, 147573952589676412928, 147573952589676412928] [] h := by
  have hF := Fr.refl 135291600897 h
  refine x_aload (np := 1) (x := 0) (by decide +kernel) rfl (x_nc_le (by decide)) ?_
  refine x_const (np := 2) (x := 9223372039002259456) (a := 2147483648) (by decide +kernel) (by decide) (by decide) ?_
  refine x_putI (np := 5) (x := 704) (f := 0) (by decide +kernel) (by decide +kernel) (by decide) (Or.inl (by decide)) ?_
  have j2 := jU (e := 0) (v := 2147483648) 0 hJ rg_75_0_0_1 (by first | decide | omega) (by first | decide | omega) (by first | decide | omega)
  have f4 := jF (e := 0) (v := 2147483648) 0 hF rg_75_0_0_1 (by first | decide | omega) (by first | decide | omega) (by decide)
  generalize e3 : x_up h 75 0 2147483648 = h1 at j2 f4 ⊢
  refine x_aload (np := 6) (x := 0) (by decide +kernel) rfl (x_nc_le (by decide)) ?_
  have m8 : WT 76 h1 := by rw [← e3]; exact WT.oth hW hJ (by decide)
  refine x_cV (t := 6) (mj := 210) (n := 1) (rc := 12) (ml := 5) (nr := 0) (np := 9) (as := [x_r 75]) (rest := []) (lo1 := [x_r 75, 147573952589676412928, 147573952589676412928, 147573952589676412928, 147573952589676412928]) (by decide +kernel) (by decide) (by decide +kernel) (x_rb_of (by decide +kernel)) rfl rfl (x_wr (by decide) x_wn) x_wn (by decide) rfl (c210_75 j2  m8) (fun h9 q7 => ?_)
  obtain ⟨j10, f11⟩ := q7
  have f14 := Fr.trans f4 f11 (by decide)
  refine x_const (np := 10) (x := 9223372039002259456) (a := 2147483648) (by decide +kernel) (by decide) (by decide) ?_
  refine x_istore (np := 11) (x := 1) (lo' := [x_r 75, iv_c 2147483648, 147573952589676412928]) (by decide +kernel) (by decide) (Nat.le_of_ble_eq_true rfl) rfl ?_
  refine x_const (np := 12) (x := 9223372043297226753) (a := 2147483649) (by decide +kernel) (by decide) (by decide) ?_
  refine x_istore (np := 13) (x := 2) (lo' := [x_r 75, iv_c 2147483648, iv_c 2147483649]) (by decide +kernel) (by decide) (Nat.le_of_ble_eq_true rfl) rfl ?_
  have p114 : ∀ (n : Nat) (v110 : Nat) (v112 : Nat), 4294967296 - v112 < n → (2147483648 ≤ v110 ∧ v110 ≤ 2147483653) → (2147483649 ≤ v112 ∧ v112 ≤ 2147483654) → X sc 238 (d + 5) (xI fun r h' => J h' ∧ Fr 135291600897 h h' ∧ (2147483648 ≤ r ∧ r ≤ 2147483653)) 0 0 13 [x_r 75, iv_c v110, iv_c v112] [] h9 := by
    intro n
    induction n with
    | zero => intro v110 v112 q115; exact absurd q115 (Nat.not_lt_zero _)
    | succ n i116 =>
      intro v110 v112 q115 b111 b113
      refine x_iload (np := 14) (x := 2) (by decide +kernel) rfl (by first | decide | omega) ?_
      refine x_aload (np := 15) (x := 0) (by decide +kernel) rfl (x_nc_le (by decide)) ?_
      refine x_nI (t := 6) (mj := 157) (n := 1) (rc := 12) (ml := 1) (nr := 1) (np := 18) (as := [x_r 75]) (rest := [iv_c v112]) (lo1 := [x_r 75]) (by decide +kernel) (by decide) (by decide +kernel) (x_rb_of (by decide +kernel)) rfl rfl (x_wr (by decide) x_wn) (x_wi (by first | decide | omega) x_wn) (by decide) rfl ?_
      refine x_aload (np := 1) (x := 0) (by decide +kernel) rfl (x_nc_le (by decide)) ?_
      have q117 : h9 75 1 = 76 := by have z := jB (e := 1) 0 j10 rg_75_1_0_1 (by decide) (by decide); omega
      refine x_getR (np := 4) (x := 705) (f := 1) (q := 76) (by decide +kernel) (by decide) (by decide +kernel) q117 ?_
      refine x_const (np := 5) (x := 9223372039002259456) (a := 2147483648) (by decide +kernel) (by decide) (by decide) ?_
      have q118 : h9 76 0 = h1 76 0 := jK 0 f11 rg_76_0_0_1 (by first | decide | omega) (by first | decide | omega) (by decide)
      have q119 : h1 76 0 = h 76 0 := by rw [← e3]; exact x_up_k (by decide)
      have b120 := jB (e := 0) 0 hJ rg_76_0_0_1 (by first | decide | omega) (by first | decide | omega)
      refine x_aldC (np := 6) (x := 0) (n := 1952) (i := 0) (q := (h 76 0)) (by decide +kernel) (by decide +kernel) (by first | decide | omega) (by first | decide | omega) (by decide) (q118.trans q119) (fun l121 => ?_)
      refine x_retI (np := 7) (x := 0) (by decide +kernel) l121 (Or.inl (by decide +kernel)) ⟨_, rfl, l121, ?_⟩
      refine x_icmp (k := 3) (tg := 46) (np := 21) (by decide +kernel) (by decide) (by first | decide | omega) l121 (fun q122 => ?_) (fun q123 => ?_)
      · have q122 : (h 76 0) ≤ v112 := q122
        refine x_iload (np := 47) (x := 1) (by decide +kernel) rfl (by first | decide | omega) ?_
        refine x_retI (np := 48) (x := 0) (by decide +kernel) (by first | decide | omega) (Or.inl (by decide +kernel)) ⟨_, rfl, (by first | decide | omega), ?_⟩
        exact ⟨j10, f14, (by first | decide | omega)⟩
      have q123 : ¬ ((h 76 0) ≤ v112) := q123
      refine x_aload (np := 22) (x := 0) (by decide +kernel) rfl (x_nc_le (by decide)) ?_
      refine x_iload (np := 23) (x := 2) (by decide +kernel) rfl (by first | decide | omega) ?_
      refine x_cP (t := 6) (mj := 236) (n := 2) (rc := 12) (ml := 4) (nr := 0) (np := 26) (as := [x_r 75, iv_c v112]) (rest := []) (lo1 := [x_r 75, iv_c v112, 147573952589676412928, 147573952589676412928]) (by decide +kernel) (by decide) (by decide +kernel) (x_rb_of (by decide +kernel)) rfl rfl (x_wr (by decide) (x_wi (by first | decide | omega) x_wn)) x_wn (by decide) rfl (c236_75 j10  (by first | decide | omega)) (fun v124 l125 q126 => ?_)
      refine x_aload (np := 27) (x := 0) (by decide +kernel) rfl (x_nc_le (by decide)) ?_
      refine x_iload (np := 28) (x := 1) (by decide +kernel) rfl (by first | decide | omega) ?_
      refine x_cP (t := 6) (mj := 236) (n := 2) (rc := 12) (ml := 4) (nr := 1) (np := 31) (as := [x_r 75, iv_c v110]) (rest := [iv_c v124]) (lo1 := [x_r 75, iv_c v110, 147573952589676412928, 147573952589676412928]) (by decide +kernel) (by decide) (by decide +kernel) (x_rb_of (by decide +kernel)) rfl rfl (x_wr (by decide) (x_wi (by first | decide | omega) x_wn)) (x_wi l125 x_wn) (by decide) rfl (c236_75 j10  (by first | decide | omega)) (fun v127 l128 q129 => ?_)
      refine x_icmp (k := 5) (tg := 38) (np := 34) (by decide +kernel) (by decide) l125 l128 (fun q130 => ?_) (fun q131 => ?_)
      · have q130 : v124 ≤ v127 := q130
        refine x_iload (np := 39) (x := 1) (by decide +kernel) rfl (by first | decide | omega) ?_
        refine x_istore (np := 40) (x := 1) (lo' := [x_r 75, iv_c v110, iv_c v112]) (by decide +kernel) (by first | decide | omega) (Nat.le_of_ble_eq_true rfl) rfl ?_
        refine x_iinc (np := 43) (i := 2) (j := 2147483649) (v := (1 + v112)) (lo' := [x_r 75, iv_c v110, iv_c (1 + v112)]) (by decide +kernel) (by decide) (by decide) rfl (by first | decide | omega) (by first | decide | omega) (by first | decide | omega) rfl ?_
        refine x_goto (np := 46) (x := 13) (by decide +kernel) ?_
        exact i116 v110 (1 + v112) (by first | decide | omega) (by first | decide | omega) (by first | decide | omega)
      have q131 : ¬ (v124 ≤ v127) := q131
      refine x_iload (np := 35) (x := 2) (by decide +kernel) rfl (by first | decide | omega) ?_
      refine x_goto (np := 38) (x := 39) (by decide +kernel) ?_
      refine x_istore (np := 40) (x := 1) (lo' := [x_r 75, iv_c v112, iv_c v112]) (by decide +kernel) (by first | decide | omega) (Nat.le_of_ble_eq_true rfl) rfl ?_
      refine x_iinc (np := 43) (i := 2) (j := 2147483649) (v := (1 + v112)) (lo' := [x_r 75, iv_c v112, iv_c (1 + v112)]) (by decide +kernel) (by decide) (by decide) rfl (by first | decide | omega) (by first | decide | omega) (by first | decide | omega) rfl ?_
      refine x_goto (np := 46) (x := 13) (by decide +kernel) ?_
      exact i116 v112 (1 + v112) (by first | decide | omega) (by first | decide | omega) (by first | decide | omega)
  exact p114 _ 2147483648 2147483649 (Nat.lt_succ_self _) (by first | decide | omega) (by first | decide | omega)
set_option maxHeartbeats 0 in
/-- LentNamesModel.rich(I)I -/
theorem c239_75 {sc : Nat × Nat} {d a1 : Nat} {h : xh} (hJ : J h) (ba1 : 0 ≤ a1 ∧ a1 ≤ 4294967295) (hW : WT 76 h) : X sc 239 (d + 5) (xI fun r h' => J h' ∧ Fr 135291600897 h h' ∧ (0 ≤ r ∧ r ≤ 4294967295)) 0 0 0 [x_r 75, iv_c a1, 147573952589676412928, 147573952589676412928] [] h := by
  have la1 : a1 < 4294967296 := by first | decide | omega
  have hF := Fr.refl 135291600897 h
  refine x_aload (np := 1) (x := 0) (by decide +kernel) rfl (x_nc_le (by decide)) ?_
  refine x_const (np := 2) (x := 9223372039002259456) (a := 2147483648) (by decide +kernel) (by decide) (by decide) ?_
  refine x_putI (np := 5) (x := 704) (f := 0) (by decide +kernel) (by decide +kernel) (by decide) (Or.inl (by decide)) ?_
  have j2 := jU (e := 0) (v := 2147483648) 0 hJ rg_75_0_0_1 (by first | decide | omega) (by first | decide | omega) (by first | decide | omega)
  have f4 := jF (e := 0) (v := 2147483648) 0 hF rg_75_0_0_1 (by first | decide | omega) (by first | decide | omega) (by decide)
  generalize e3 : x_up h 75 0 2147483648 = h1 at j2 f4 ⊢
  refine x_aload (np := 6) (x := 0) (by decide +kernel) rfl (x_nc_le (by decide)) ?_
  refine x_iload (np := 7) (x := 1) (by decide +kernel) rfl la1 ?_
  refine x_nI (t := 0) (mj := 160) (n := 1) (rc := 0) (ml := 1) (nr := 1) (np := 10) (as := [iv_c a1]) (rest := [x_r 75]) (lo1 := [iv_c a1]) (by decide +kernel) (by decide) (by decide +kernel) (Or.inl rfl) rfl rfl (x_wi la1 x_wn) (x_wr (by decide) x_wn) (by decide) rfl ?_
  refine x_iload (np := 1) (x := 0) (by decide +kernel) rfl la1 ?_
  refine x_const (np := 2) (x := 9223372039002259456) (a := 2147483648) (by decide +kernel) (by decide) (by decide) ?_
  refine x_const (np := 4) (x := 9223372086246899723) (a := 2147483659) (by decide +kernel) (by decide) (by decide) ?_
  refine x_nI (t := 0) (mj := 153) (n := 3) (rc := 0) (ml := 3) (nr := 0) (np := 7) (as := [iv_c a1, iv_c 2147483648, iv_c 2147483659]) (rest := []) (lo1 := [iv_c a1, iv_c 2147483648, iv_c 2147483659]) (by decide +kernel) (by decide) (by decide +kernel) (Or.inl rfl) rfl rfl (x_wi la1 (x_wi (by decide) (x_wi (by decide) x_wn))) x_wn (by decide) rfl ?_
  refine x_iload (np := 1) (x := 0) (by decide +kernel) rfl la1 ?_
  refine x_iload (np := 2) (x := 1) (by decide +kernel) rfl (by decide) ?_
  refine x_icmp (k := 2) (tg := 14) (np := 5) (by decide +kernel) (by decide) la1 (by decide) (fun q5 => ?_) (fun q6 => ?_)
  · have q5 : a1 < 2147483648 := q5
    refine x_const (np := 15) (x := 9223372039002259456) (a := 2147483648) (by decide +kernel) (by decide) (by decide) ?_
    refine x_retI (np := 16) (x := 0) (by decide +kernel) (by decide) (Or.inr ⟨by decide +kernel, by first | decide | omega, by first | decide | omega⟩) ⟨_, rfl, (by decide), ?_⟩
    refine x_ifz (k := 1) (tg := 14) (np := 10) (by decide +kernel) (by decide) (by decide) (fun q7 => ?_) (fun q8 => ?_)
    · have q7 : 2147483648 ≠ 2147483648 := q7
      exfalso; omega
    have q8 : ¬ (2147483648 ≠ 2147483648) := q8
    refine x_const (np := 11) (x := 9223372043297226753) (a := 2147483649) (by decide +kernel) (by decide) (by decide) ?_
    refine x_goto (np := 14) (x := 15) (by decide +kernel) ?_
    refine x_retI (np := 16) (x := 0) (by decide +kernel) (by decide) (Or.inr ⟨by decide +kernel, by first | decide | omega, by first | decide | omega⟩) ⟨_, rfl, (by decide), ?_⟩
    refine x_const (np := 11) (x := 9223372043297226753) (a := 2147483649) (by decide +kernel) (by decide) (by decide) ?_
    refine x_nI (t := 6) (mj := 152) (n := 3) (rc := 12) (ml := 3) (nr := 0) (np := 14) (as := [x_r 75, iv_c 2147483649, iv_c 2147483649]) (rest := []) (lo1 := [x_r 75, iv_c 2147483649, iv_c 2147483649]) (by decide +kernel) (by decide) (by decide +kernel) (x_rb_of (by decide +kernel)) rfl rfl (x_wr (by decide) (x_wi (by decide) (x_wi (by decide) x_wn))) x_wn (by decide) rfl ?_
    refine x_iload (np := 1) (x := 1) (by decide +kernel) rfl (by decide) ?_
    refine x_ifz (k := 0) (tg := 9) (np := 4) (by decide +kernel) (by decide) (by decide) (fun q9 => ?_) (fun q10 => ?_)
    · have q9 : 2147483649 = 2147483648 := q9
      exfalso; omega
    have q10 : ¬ (2147483649 = 2147483648) := q10
    refine x_aload (np := 5) (x := 0) (by decide +kernel) rfl (x_nc_le (by decide)) ?_
    refine x_iload (np := 6) (x := 2) (by decide +kernel) rfl (by decide) ?_
    refine x_putI (np := 9) (x := 704) (f := 0) (by decide +kernel) (by decide +kernel) (by decide) (Or.inl (by decide)) ?_
    have j12 := jU (e := 0) (v := 2147483649) 0 j2 rg_75_0_0_1 (by first | decide | omega) (by first | decide | omega) (by first | decide | omega)
    have f14 := jF (e := 0) (v := 2147483649) 0 f4 rg_75_0_0_1 (by first | decide | omega) (by first | decide | omega) (by decide)
    generalize e13 : x_up h1 75 0 2147483649 = h11 at j12 f14 ⊢
    refine x_iload (np := 10) (x := 1) (by decide +kernel) rfl (by decide) ?_
    refine x_retI (np := 11) (x := 0) (by decide +kernel) (by decide) (Or.inr ⟨by decide +kernel, by first | decide | omega, by first | decide | omega⟩) ⟨_, rfl, (by decide), ?_⟩
    refine x_ifz (k := 0) (tg := 19) (np := 17) (by decide +kernel) (by decide) (by decide) (fun q15 => ?_) (fun q16 => ?_)
    · have q15 : 2147483649 = 2147483648 := q15
      exfalso; omega
    have q16 : ¬ (2147483649 = 2147483648) := q16
    refine x_const (np := 18) (x := 9223372039002259456) (a := 2147483648) (by decide +kernel) (by decide) (by decide) ?_
    refine x_retI (np := 19) (x := 0) (by decide +kernel) (by decide) (Or.inl (by decide +kernel)) ⟨_, rfl, (by decide), ?_⟩
    exact ⟨j12, f14, (by first | decide | omega)⟩
  have q6 : ¬ (a1 < 2147483648) := q6
  refine x_iload (np := 6) (x := 0) (by decide +kernel) rfl la1 ?_
  refine x_iload (np := 7) (x := 2) (by decide +kernel) rfl (by decide) ?_
  refine x_icmp (k := 4) (tg := 14) (np := 10) (by decide +kernel) (by decide) la1 (by decide) (fun q17 => ?_) (fun q18 => ?_)
  · have q17 : 2147483659 < a1 := q17
    refine x_const (np := 15) (x := 9223372039002259456) (a := 2147483648) (by decide +kernel) (by decide) (by decide) ?_
    refine x_retI (np := 16) (x := 0) (by decide +kernel) (by decide) (Or.inr ⟨by decide +kernel, by first | decide | omega, by first | decide | omega⟩) ⟨_, rfl, (by decide), ?_⟩
    refine x_ifz (k := 1) (tg := 14) (np := 10) (by decide +kernel) (by decide) (by decide) (fun q19 => ?_) (fun q20 => ?_)
    · have q19 : 2147483648 ≠ 2147483648 := q19
      exfalso; omega
    have q20 : ¬ (2147483648 ≠ 2147483648) := q20
    refine x_const (np := 11) (x := 9223372043297226753) (a := 2147483649) (by decide +kernel) (by decide) (by decide) ?_
    refine x_goto (np := 14) (x := 15) (by decide +kernel) ?_
    refine x_retI (np := 16) (x := 0) (by decide +kernel) (by decide) (Or.inr ⟨by decide +kernel, by first | decide | omega, by first | decide | omega⟩) ⟨_, rfl, (by decide), ?_⟩
    refine x_const (np := 11) (x := 9223372043297226753) (a := 2147483649) (by decide +kernel) (by decide) (by decide) ?_
    refine x_nI (t := 6) (mj := 152) (n := 3) (rc := 12) (ml := 3) (nr := 0) (np := 14) (as := [x_r 75, iv_c 2147483649, iv_c 2147483649]) (rest := []) (lo1 := [x_r 75, iv_c 2147483649, iv_c 2147483649]) (by decide +kernel) (by decide) (by decide +kernel) (x_rb_of (by decide +kernel)) rfl rfl (x_wr (by decide) (x_wi (by decide) (x_wi (by decide) x_wn))) x_wn (by decide) rfl ?_
    refine x_iload (np := 1) (x := 1) (by decide +kernel) rfl (by decide) ?_
    refine x_ifz (k := 0) (tg := 9) (np := 4) (by decide +kernel) (by decide) (by decide) (fun q21 => ?_) (fun q22 => ?_)
    · have q21 : 2147483649 = 2147483648 := q21
      exfalso; omega
    have q22 : ¬ (2147483649 = 2147483648) := q22
    refine x_aload (np := 5) (x := 0) (by decide +kernel) rfl (x_nc_le (by decide)) ?_
    refine x_iload (np := 6) (x := 2) (by decide +kernel) rfl (by decide) ?_
    refine x_putI (np := 9) (x := 704) (f := 0) (by decide +kernel) (by decide +kernel) (by decide) (Or.inl (by decide)) ?_
    have j24 := jU (e := 0) (v := 2147483649) 0 j2 rg_75_0_0_1 (by first | decide | omega) (by first | decide | omega) (by first | decide | omega)
    have f26 := jF (e := 0) (v := 2147483649) 0 f4 rg_75_0_0_1 (by first | decide | omega) (by first | decide | omega) (by decide)
    generalize e25 : x_up h1 75 0 2147483649 = h23 at j24 f26 ⊢
    refine x_iload (np := 10) (x := 1) (by decide +kernel) rfl (by decide) ?_
    refine x_retI (np := 11) (x := 0) (by decide +kernel) (by decide) (Or.inr ⟨by decide +kernel, by first | decide | omega, by first | decide | omega⟩) ⟨_, rfl, (by decide), ?_⟩
    refine x_ifz (k := 0) (tg := 19) (np := 17) (by decide +kernel) (by decide) (by decide) (fun q27 => ?_) (fun q28 => ?_)
    · have q27 : 2147483649 = 2147483648 := q27
      exfalso; omega
    have q28 : ¬ (2147483649 = 2147483648) := q28
    refine x_const (np := 18) (x := 9223372039002259456) (a := 2147483648) (by decide +kernel) (by decide) (by decide) ?_
    refine x_retI (np := 19) (x := 0) (by decide +kernel) (by decide) (Or.inl (by decide +kernel)) ⟨_, rfl, (by decide), ?_⟩
    exact ⟨j24, f26, (by first | decide | omega)⟩
  have q18 : ¬ (2147483659 < a1) := q18
  refine x_const (np := 11) (x := 9223372043297226753) (a := 2147483649) (by decide +kernel) (by decide) (by decide) ?_
  refine x_goto (np := 14) (x := 15) (by decide +kernel) ?_
  refine x_retI (np := 16) (x := 0) (by decide +kernel) (by decide) (Or.inr ⟨by decide +kernel, by first | decide | omega, by first | decide | omega⟩) ⟨_, rfl, (by decide), ?_⟩
  refine x_ifz (k := 1) (tg := 14) (np := 10) (by decide +kernel) (by decide) (by decide) (fun q29 => ?_) (fun q30 => ?_)
  · have q29 : 2147483649 ≠ 2147483648 := q29
    refine x_const (np := 15) (x := 9223372039002259456) (a := 2147483648) (by decide +kernel) (by decide) (by decide) ?_
    refine x_retI (np := 16) (x := 0) (by decide +kernel) (by decide) (Or.inr ⟨by decide +kernel, by first | decide | omega, by first | decide | omega⟩) ⟨_, rfl, (by decide), ?_⟩
    refine x_const (np := 11) (x := 9223372043297226753) (a := 2147483649) (by decide +kernel) (by decide) (by decide) ?_
    refine x_nI (t := 6) (mj := 152) (n := 3) (rc := 12) (ml := 3) (nr := 0) (np := 14) (as := [x_r 75, iv_c 2147483648, iv_c 2147483649]) (rest := []) (lo1 := [x_r 75, iv_c 2147483648, iv_c 2147483649]) (by decide +kernel) (by decide) (by decide +kernel) (x_rb_of (by decide +kernel)) rfl rfl (x_wr (by decide) (x_wi (by decide) (x_wi (by decide) x_wn))) x_wn (by decide) rfl ?_
    refine x_iload (np := 1) (x := 1) (by decide +kernel) rfl (by decide) ?_
    refine x_ifz (k := 0) (tg := 9) (np := 4) (by decide +kernel) (by decide) (by decide) (fun q31 => ?_) (fun q32 => ?_)
    · have q31 : 2147483648 = 2147483648 := q31
      refine x_iload (np := 10) (x := 1) (by decide +kernel) rfl (by decide) ?_
      refine x_retI (np := 11) (x := 0) (by decide +kernel) (by decide) (Or.inr ⟨by decide +kernel, by first | decide | omega, by first | decide | omega⟩) ⟨_, rfl, (by decide), ?_⟩
      refine x_ifz (k := 0) (tg := 19) (np := 17) (by decide +kernel) (by decide) (by decide) (fun q33 => ?_) (fun q34 => ?_)
      · have q33 : 2147483648 = 2147483648 := q33
        refine x_aload (np := 20) (x := 0) (by decide +kernel) rfl (x_nc_le (by decide)) ?_
        have m38 : WT 76 h1 := by rw [← e3]; exact WT.oth hW hJ (by decide)
        refine x_cV (t := 6) (mj := 210) (n := 1) (rc := 12) (ml := 5) (nr := 0) (np := 23) (as := [x_r 75]) (rest := []) (lo1 := [x_r 75, 147573952589676412928, 147573952589676412928, 147573952589676412928, 147573952589676412928]) (by decide +kernel) (by decide) (by decide +kernel) (x_rb_of (by decide +kernel)) rfl rfl (x_wr (by decide) x_wn) x_wn (by decide) rfl (c210_75 j2  m38) (fun h39 q37 => ?_)
        obtain ⟨j40, f41⟩ := q37
        have f44 := Fr.trans f4 f41 (by decide)
        refine x_const (np := 24) (x := 9223372039002259456) (a := 2147483648) (by decide +kernel) (by decide) (by decide) ?_
        refine x_istore (np := 25) (x := 2) (lo' := [x_r 75, iv_c a1, iv_c 2147483648, 147573952589676412928]) (by decide +kernel) (by decide) (Nat.le_of_ble_eq_true rfl) rfl ?_
        refine x_const (np := 26) (x := 9223372039002259456) (a := 2147483648) (by decide +kernel) (by decide) (by decide) ?_
        refine x_istore (np := 27) (x := 3) (lo' := [x_r 75, iv_c a1, iv_c 2147483648, iv_c 2147483648]) (by decide +kernel) (by decide) (Nat.le_of_ble_eq_true rfl) rfl ?_
        have p361 : ∀ (n : Nat) (v357 : Nat) (v359 : Nat), 4294967296 - v359 < n → (0 ≤ v357 ∧ v357 ≤ 4294967295) → (2147483648 ≤ v359 ∧ v359 ≤ 2147483654) → X sc 239 (d + 5) (xI fun r h' => J h' ∧ Fr 135291600897 h h' ∧ (0 ≤ r ∧ r ≤ 4294967295)) 0 0 27 [x_r 75, iv_c a1, iv_c v357, iv_c v359] [] h39 := by
          intro n
          induction n with
          | zero => intro v357 v359 q362; exact absurd q362 (Nat.not_lt_zero _)
          | succ n i363 =>
            intro v357 v359 q362 b358 b360
            refine x_iload (np := 28) (x := 3) (by decide +kernel) rfl (by first | decide | omega) ?_
            refine x_aload (np := 29) (x := 0) (by decide +kernel) rfl (x_nc_le (by decide)) ?_
            refine x_nI (t := 6) (mj := 157) (n := 1) (rc := 12) (ml := 1) (nr := 1) (np := 32) (as := [x_r 75]) (rest := [iv_c v359]) (lo1 := [x_r 75]) (by decide +kernel) (by decide) (by decide +kernel) (x_rb_of (by decide +kernel)) rfl rfl (x_wr (by decide) x_wn) (x_wi (by first | decide | omega) x_wn) (by decide) rfl ?_
            refine x_aload (np := 1) (x := 0) (by decide +kernel) rfl (x_nc_le (by decide)) ?_
            have q364 : h39 75 1 = 76 := by have z := jB (e := 1) 0 j40 rg_75_1_0_1 (by decide) (by decide); omega
            refine x_getR (np := 4) (x := 705) (f := 1) (q := 76) (by decide +kernel) (by decide) (by decide +kernel) q364 ?_
            refine x_const (np := 5) (x := 9223372039002259456) (a := 2147483648) (by decide +kernel) (by decide) (by decide) ?_
            have q365 : h39 76 0 = h1 76 0 := jK 0 f41 rg_76_0_0_1 (by first | decide | omega) (by first | decide | omega) (by decide)
            have q366 : h1 76 0 = h 76 0 := by rw [← e3]; exact x_up_k (by decide)
            have b367 := jB (e := 0) 0 hJ rg_76_0_0_1 (by first | decide | omega) (by first | decide | omega)
            refine x_aldC (np := 6) (x := 0) (n := 1952) (i := 0) (q := (h 76 0)) (by decide +kernel) (by decide +kernel) (by first | decide | omega) (by first | decide | omega) (by decide) (q365.trans q366) (fun l368 => ?_)
            refine x_retI (np := 7) (x := 0) (by decide +kernel) l368 (Or.inl (by decide +kernel)) ⟨_, rfl, l368, ?_⟩
            refine x_icmp (k := 3) (tg := 64) (np := 35) (by decide +kernel) (by decide) (by first | decide | omega) l368 (fun q369 => ?_) (fun q370 => ?_)
            · have q369 : (h 76 0) ≤ v359 := q369
              refine x_iload (np := 65) (x := 2) (by decide +kernel) rfl (by first | decide | omega) ?_
              refine x_retI (np := 66) (x := 0) (by decide +kernel) (by first | decide | omega) (Or.inl (by decide +kernel)) ⟨_, rfl, (by first | decide | omega), ?_⟩
              exact ⟨j40, f44, (by first | decide | omega)⟩
            have q370 : ¬ ((h 76 0) ≤ v359) := q370
            refine x_iload (np := 36) (x := 2) (by decide +kernel) rfl (by first | decide | omega) ?_
            refine x_aload (np := 37) (x := 0) (by decide +kernel) rfl (x_nc_le (by decide)) ?_
            refine x_iload (np := 38) (x := 3) (by decide +kernel) rfl (by first | decide | omega) ?_
            refine x_iload (np := 39) (x := 1) (by decide +kernel) rfl la1 ?_
            refine x_cP (t := 6) (mj := 213) (n := 3) (rc := 12) (ml := 5) (nr := 1) (np := 42) (as := [x_r 75, iv_c v359, iv_c a1]) (rest := [iv_c v357]) (lo1 := [x_r 75, iv_c v359, iv_c a1, 147573952589676412928, 147573952589676412928]) (by decide +kernel) (by decide) (by decide +kernel) (x_rb_of (by decide +kernel)) rfl rfl (x_wr (by decide) (x_wi (by first | decide | omega) (x_wi la1 x_wn))) (x_wi (by first | decide | omega) x_wn) (by decide) rfl (c213_75 j40  (by first | decide | omega) (by first | decide | omega)) (fun v371 l372 q373 => ?_)
            refine x_nI (t := 7) (mj := 310) (n := 1) (rc := 0) (ml := 1) (nr := 1) (np := 45) (as := [iv_c v371]) (rest := [iv_c v357]) (lo1 := [iv_c v371]) (by decide +kernel) (by decide) (by decide +kernel) (Or.inl rfl) rfl rfl (x_wi l372 x_wn) (x_wi (by first | decide | omega) x_wn) (by decide) rfl ?_
            refine x_iload (np := 1) (x := 0) (by decide +kernel) rfl l372 ?_
            refine x_iload (np := 2) (x := 0) (by decide +kernel) rfl l372 ?_
            refine x_const (np := 3) (x := 9223372043297226753) (a := 2147483649) (by decide +kernel) (by decide) (by decide) ?_
            refine x_any (np := 4) (k9 := 5) (by decide +kernel) (by decide) l372 (by decide) (fun v374 l375 => ?_)
            refine x_const (np := 7) (x := 15372286730238776661) (a := 3579139413) (by decide +kernel) (by decide) (by decide) ?_
            refine x_any (np := 8) (k9 := 0) (by decide +kernel) (by decide) l375 (by decide) (fun v376 l377 => ?_)
            refine x_subA (by rw [tb_b310]; decide +kernel) l372 l377 (fun v378 l379 => ?_)
            refine x_istore (np := 10) (x := 0) (lo' := [iv_c v378]) (by decide +kernel) l379 (Nat.le_of_ble_eq_true rfl) rfl ?_
            refine x_iload (np := 11) (x := 0) (by decide +kernel) rfl l379 ?_
            refine x_const (np := 14) (x := 12912720853744169779) (a := 3006477107) (by decide +kernel) (by decide) (by decide) ?_
            refine x_any (np := 15) (k9 := 0) (by decide +kernel) (by decide) l379 (by decide) (fun v380 l381 => ?_)
            refine x_iload (np := 16) (x := 0) (by decide +kernel) rfl l379 ?_
            refine x_const (np := 17) (x := 9223372047592194050) (a := 2147483650) (by decide +kernel) (by decide) (by decide) ?_
            refine x_any (np := 18) (k9 := 5) (by decide +kernel) (by decide) l379 (by decide) (fun v382 l383 => ?_)
            refine x_const (np := 21) (x := 12912720853744169779) (a := 3006477107) (by decide +kernel) (by decide) (by decide) ?_
            refine x_any (np := 22) (k9 := 0) (by decide +kernel) (by decide) l383 (by decide) (fun v384 l385 => ?_)
            refine x_addA (by rw [tb_b310]; decide +kernel) l381 l385 (fun v386 l387 => ?_)
            refine x_istore (np := 24) (x := 0) (lo' := [iv_c v386]) (by decide +kernel) l387 (Nat.le_of_ble_eq_true rfl) rfl ?_
            refine x_iload (np := 25) (x := 0) (by decide +kernel) rfl l387 ?_
            refine x_iload (np := 26) (x := 0) (by decide +kernel) rfl l387 ?_
            refine x_const (np := 27) (x := 9223372056182128644) (a := 2147483652) (by decide +kernel) (by decide) (by decide) ?_
            refine x_any (np := 28) (k9 := 5) (by decide +kernel) (by decide) l387 (by decide) (fun v388 l389 => ?_)
            refine x_addA (by rw [tb_b310]; decide +kernel) l387 l389 (fun v390 l391 => ?_)
            refine x_const (np := 32) (x := 10308474631573409551) (a := 2400128783) (by decide +kernel) (by decide) (by decide) ?_
            refine x_any (np := 33) (k9 := 0) (by decide +kernel) (by decide) l391 (by decide) (fun v392 l393 => ?_)
            refine x_istore (np := 34) (x := 0) (lo' := [iv_c v392]) (by decide +kernel) l393 (Nat.le_of_ble_eq_true rfl) rfl ?_
            refine x_iload (np := 35) (x := 0) (by decide +kernel) rfl l393 ?_
            refine x_iload (np := 36) (x := 0) (by decide +kernel) rfl l393 ?_
            refine x_const (np := 38) (x := 9223372073361997832) (a := 2147483656) (by decide +kernel) (by decide) (by decide) ?_
            refine x_any (np := 39) (k9 := 5) (by decide +kernel) (by decide) l393 (by decide) (fun v394 l395 => ?_)
            refine x_addA (by rw [tb_b310]; decide +kernel) l393 l395 (fun v396 l397 => ?_)
            refine x_istore (np := 41) (x := 0) (lo' := [iv_c v396]) (by decide +kernel) l397 (Nat.le_of_ble_eq_true rfl) rfl ?_
            refine x_iload (np := 42) (x := 0) (by decide +kernel) rfl l397 ?_
            refine x_iload (np := 43) (x := 0) (by decide +kernel) rfl l397 ?_
            refine x_const (np := 45) (x := 9223372107721736208) (a := 2147483664) (by decide +kernel) (by decide) (by decide) ?_
            refine x_any (np := 46) (k9 := 5) (by decide +kernel) (by decide) l397 (by decide) (fun v398 l399 => ?_)
            refine x_addA (by rw [tb_b310]; decide +kernel) l397 l399 (fun v400 l401 => ?_)
            refine x_istore (np := 48) (x := 0) (lo' := [iv_c v400]) (by decide +kernel) l401 (Nat.le_of_ble_eq_true rfl) rfl ?_
            refine x_iload (np := 49) (x := 0) (by decide +kernel) rfl l401 ?_
            refine x_const (np := 51) (x := 9223372309585199167) (a := 2147483711) (by decide +kernel) (by decide) (by decide) ?_
            refine x_mask (np := 52) (m := 6) (k9 := 64) (by decide +kernel) l401 (by decide +kernel) (by decide) (by decide) (by decide) (fun u402 l403 => ?_)
            refine x_retI (np := 53) (x := 0) (by decide +kernel) (by first | decide | omega) (Or.inl (by decide +kernel)) ⟨_, rfl, (by first | decide | omega), ?_⟩
            refine x_const (np := 46) (x := 9223372043297226753) (a := 2147483649) (by decide +kernel) (by decide) (by decide) ?_
            refine x_icmp (k := 5) (tg := 55) (np := 49) (by decide +kernel) (by decide) (by first | decide | omega) (by decide) (fun q404 => ?_) (fun q405 => ?_)
            · have q404 : (2147483648 + u402) ≤ 2147483649 := q404
              refine x_const (np := 56) (x := 9223372039002259456) (a := 2147483648) (by decide +kernel) (by decide) (by decide) ?_
              refine x_any (np := 57) (k9 := 1) (by decide +kernel) (by decide) (by first | decide | omega) (by decide) (fun v406 l407 => ?_)
              refine x_istore (np := 58) (x := 2) (lo' := [x_r 75, iv_c a1, iv_c v406, iv_c v359]) (by decide +kernel) l407 (Nat.le_of_ble_eq_true rfl) rfl ?_
              refine x_iinc (np := 61) (i := 3) (j := 2147483649) (v := (1 + v359)) (lo' := [x_r 75, iv_c a1, iv_c v406, iv_c (1 + v359)]) (by decide +kernel) (by decide) (by decide) rfl (by first | decide | omega) (by first | decide | omega) (by first | decide | omega) rfl ?_
              refine x_goto (np := 64) (x := 27) (by decide +kernel) ?_
              exact i363 v406 (1 + v359) (by first | decide | omega) (by first | decide | omega) (by first | decide | omega)
            have q405 : ¬ ((2147483648 + u402) ≤ 2147483649) := q405
            refine x_const (np := 50) (x := 9223372043297226753) (a := 2147483649) (by decide +kernel) (by decide) (by decide) ?_
            refine x_iload (np := 51) (x := 3) (by decide +kernel) rfl (by first | decide | omega) ?_
            refine x_any (np := 52) (k9 := 3) (by decide +kernel) (by decide) (by decide) (by first | decide | omega) (fun v408 l409 => ?_)
            refine x_goto (np := 55) (x := 56) (by decide +kernel) ?_
            refine x_any (np := 57) (k9 := 1) (by decide +kernel) (by decide) (by first | decide | omega) l409 (fun v410 l411 => ?_)
            refine x_istore (np := 58) (x := 2) (lo' := [x_r 75, iv_c a1, iv_c v410, iv_c v359]) (by decide +kernel) l411 (Nat.le_of_ble_eq_true rfl) rfl ?_
            refine x_iinc (np := 61) (i := 3) (j := 2147483649) (v := (1 + v359)) (lo' := [x_r 75, iv_c a1, iv_c v410, iv_c (1 + v359)]) (by decide +kernel) (by decide) (by decide) rfl (by first | decide | omega) (by first | decide | omega) (by first | decide | omega) rfl ?_
            refine x_goto (np := 64) (x := 27) (by decide +kernel) ?_
            exact i363 v410 (1 + v359) (by first | decide | omega) (by first | decide | omega) (by first | decide | omega)
        exact p361 _ 2147483648 2147483648 (Nat.lt_succ_self _) (by first | decide | omega) (by first | decide | omega)
      have q34 : ¬ (2147483648 = 2147483648) := q34
      exfalso; omega
    have q32 : ¬ (2147483648 = 2147483648) := q32
    exfalso; omega
  have q30 : ¬ (2147483649 ≠ 2147483648) := q30
  exfalso; omega
set_option maxHeartbeats 0 in
/-- LentNamesModel.borne(II)I -/
theorem c240_75 {sc : Nat × Nat} {d a1 a2 : Nat} {h : xh} (hJ : J h) (ba1 : 0 ≤ a1 ∧ a1 ≤ 4294967295) (ba2 : 0 ≤ a2 ∧ a2 ≤ 4294967295) (hW : WT 76 h) : X sc 240 (d + 5) (xI fun r h' => J h' ∧ Fr 135291600897 h h' ∧ (0 ≤ r ∧ r ≤ 4294967295)) 0 0 0 [x_r 75, iv_c a1, iv_c a2, 147573952589676412928, 147573952589676412928] [] h := by
  have la1 : a1 < 4294967296 := by first | decide | omega
  have la2 : a2 < 4294967296 := by first | decide | omega
  have hF := Fr.refl 135291600897 h
  refine x_aload (np := 1) (x := 0) (by decide +kernel) rfl (x_nc_le (by decide)) ?_
  refine x_const (np := 2) (x := 9223372039002259456) (a := 2147483648) (by decide +kernel) (by decide) (by decide) ?_
  refine x_putI (np := 5) (x := 704) (f := 0) (by decide +kernel) (by decide +kernel) (by decide) (Or.inl (by decide)) ?_
  have j2 := jU (e := 0) (v := 2147483648) 0 hJ rg_75_0_0_1 (by first | decide | omega) (by first | decide | omega) (by first | decide | omega)
  have f4 := jF (e := 0) (v := 2147483648) 0 hF rg_75_0_0_1 (by first | decide | omega) (by first | decide | omega) (by decide)
  generalize e3 : x_up h 75 0 2147483648 = h1 at j2 f4 ⊢
  refine x_aload (np := 6) (x := 0) (by decide +kernel) rfl (x_nc_le (by decide)) ?_
  refine x_aload (np := 7) (x := 0) (by decide +kernel) rfl (x_nc_le (by decide)) ?_
  refine x_iload (np := 8) (x := 1) (by decide +kernel) rfl la1 ?_
  refine x_nI (t := 6) (mj := 159) (n := 2) (rc := 12) (ml := 2) (nr := 1) (np := 11) (as := [x_r 75, iv_c a1]) (rest := [x_r 75]) (lo1 := [x_r 75, iv_c a1]) (by decide +kernel) (by decide) (by decide +kernel) (x_rb_of (by decide +kernel)) rfl rfl (x_wr (by decide) (x_wi la1 x_wn)) (x_wr (by decide) x_wn) (by decide) rfl ?_
  refine x_aload (np := 1) (x := 0) (by decide +kernel) rfl (x_nc_le (by decide)) ?_
  refine x_iload (np := 2) (x := 1) (by decide +kernel) rfl la1 ?_
  refine x_const (np := 3) (x := 9223372039002259456) (a := 2147483648) (by decide +kernel) (by decide) (by decide) ?_
  refine x_nI (t := 6) (mj := 158) (n := 3) (rc := 12) (ml := 3) (nr := 0) (np := 6) (as := [x_r 75, iv_c a1, iv_c 2147483648]) (rest := []) (lo1 := [x_r 75, iv_c a1, iv_c 2147483648]) (by decide +kernel) (by decide) (by decide +kernel) (x_rb_of (by decide +kernel)) rfl rfl (x_wr (by decide) (x_wi la1 (x_wi (by decide) x_wn))) x_wn (by decide) rfl ?_
  refine x_iload (np := 1) (x := 1) (by decide +kernel) rfl la1 ?_
  refine x_const (np := 2) (x := 9223372039002259456) (a := 2147483648) (by decide +kernel) (by decide) (by decide) ?_
  refine x_aload (np := 3) (x := 0) (by decide +kernel) rfl (x_nc_le (by decide)) ?_
  have q5 : h1 75 1 = 76 := by have z := jB (e := 1) 0 j2 rg_75_1_0_1 (by decide) (by decide); omega
  refine x_getR (np := 6) (x := 705) (f := 1) (q := 76) (by decide +kernel) (by decide) (by decide +kernel) q5 ?_
  refine x_iload (np := 7) (x := 2) (by decide +kernel) rfl (by decide) ?_
  have q6 : h1 76 0 = h 76 0 := by rw [← e3]; exact x_up_k (by decide)
  have b7 := jB (e := 0) 0 hJ rg_76_0_0_1 (by first | decide | omega) (by first | decide | omega)
  refine x_aldC (np := 8) (x := 0) (n := 1952) (i := 0) (q := (h 76 0)) (by decide +kernel) (by decide +kernel) (by first | decide | omega) (by first | decide | omega) (by decide) q6 (fun l8 => ?_)
  refine x_const (np := 9) (x := 9223372043297226753) (a := 2147483649) (by decide +kernel) (by decide) (by decide) ?_
  obtain ⟨v9, q10⟩ : ∃ z, z + 2147483649 = (h 76 0) + 2147483648 := ⟨(h 76 0) + 2147483648 - 2147483649, by first | decide | omega⟩
  refine x_isub (np := 10) (x := 0) (v := v9) (by decide +kernel) l8 (by decide) (by first | decide | omega) (by first | decide | omega) ?_
  refine x_nI (t := 0) (mj := 153) (n := 3) (rc := 0) (ml := 3) (nr := 0) (np := 13) (as := [iv_c a1, iv_c 2147483648, iv_c v9]) (rest := []) (lo1 := [iv_c a1, iv_c 2147483648, iv_c v9]) (by decide +kernel) (by decide) (by decide +kernel) (Or.inl rfl) rfl rfl (x_wi la1 (x_wi (by decide) (x_wi (by first | decide | omega) x_wn))) x_wn (by decide) rfl ?_
  refine x_iload (np := 1) (x := 0) (by decide +kernel) rfl la1 ?_
  refine x_iload (np := 2) (x := 1) (by decide +kernel) rfl (by decide) ?_
  refine x_icmp (k := 2) (tg := 14) (np := 5) (by decide +kernel) (by decide) la1 (by decide) (fun q11 => ?_) (fun q12 => ?_)
  · have q11 : a1 < 2147483648 := q11
    refine x_const (np := 15) (x := 9223372039002259456) (a := 2147483648) (by decide +kernel) (by decide) (by decide) ?_
    refine x_retI (np := 16) (x := 0) (by decide +kernel) (by decide) (Or.inr ⟨by decide +kernel, by first | decide | omega, by first | decide | omega⟩) ⟨_, rfl, (by decide), ?_⟩
    refine x_ifz (k := 1) (tg := 20) (np := 16) (by decide +kernel) (by decide) (by decide) (fun q13 => ?_) (fun q14 => ?_)
    · have q13 : 2147483648 ≠ 2147483648 := q13
      exfalso; omega
    have q14 : ¬ (2147483648 ≠ 2147483648) := q14
    refine x_const (np := 17) (x := 9223372043297226753) (a := 2147483649) (by decide +kernel) (by decide) (by decide) ?_
    refine x_goto (np := 20) (x := 21) (by decide +kernel) ?_
    refine x_retI (np := 22) (x := 0) (by decide +kernel) (by decide) (Or.inr ⟨by decide +kernel, by first | decide | omega, by first | decide | omega⟩) ⟨_, rfl, (by decide), ?_⟩
    refine x_retI (np := 7) (x := 0) (by decide +kernel) (by decide) (Or.inr ⟨by decide +kernel, by first | decide | omega, by first | decide | omega⟩) ⟨_, rfl, (by decide), ?_⟩
    refine x_ifz (k := 1) (tg := 22) (np := 14) (by decide +kernel) (by decide) (by decide) (fun q15 => ?_) (fun q16 => ?_)
    · have q15 : 2147483649 ≠ 2147483648 := q15
      refine x_const (np := 23) (x := 9223372043297226753) (a := 2147483649) (by decide +kernel) (by decide) (by decide) ?_
      refine x_goto (np := 26) (x := 27) (by decide +kernel) ?_
      refine x_const (np := 28) (x := 9223372043297226753) (a := 2147483649) (by decide +kernel) (by decide) (by decide) ?_
      refine x_nI (t := 6) (mj := 152) (n := 3) (rc := 12) (ml := 3) (nr := 0) (np := 31) (as := [x_r 75, iv_c 2147483649, iv_c 2147483649]) (rest := []) (lo1 := [x_r 75, iv_c 2147483649, iv_c 2147483649]) (by decide +kernel) (by decide) (by decide +kernel) (x_rb_of (by decide +kernel)) rfl rfl (x_wr (by decide) (x_wi (by decide) (x_wi (by decide) x_wn))) x_wn (by decide) rfl ?_
      refine x_iload (np := 1) (x := 1) (by decide +kernel) rfl (by decide) ?_
      refine x_ifz (k := 0) (tg := 9) (np := 4) (by decide +kernel) (by decide) (by decide) (fun q17 => ?_) (fun q18 => ?_)
      · have q17 : 2147483649 = 2147483648 := q17
        exfalso; omega
      have q18 : ¬ (2147483649 = 2147483648) := q18
      refine x_aload (np := 5) (x := 0) (by decide +kernel) rfl (x_nc_le (by decide)) ?_
      refine x_iload (np := 6) (x := 2) (by decide +kernel) rfl (by decide) ?_
      refine x_putI (np := 9) (x := 704) (f := 0) (by decide +kernel) (by decide +kernel) (by decide) (Or.inl (by decide)) ?_
      have j20 := jU (e := 0) (v := 2147483649) 0 j2 rg_75_0_0_1 (by first | decide | omega) (by first | decide | omega) (by first | decide | omega)
      have f22 := jF (e := 0) (v := 2147483649) 0 f4 rg_75_0_0_1 (by first | decide | omega) (by first | decide | omega) (by decide)
      generalize e21 : x_up h1 75 0 2147483649 = h19 at j20 f22 ⊢
      refine x_iload (np := 10) (x := 1) (by decide +kernel) rfl (by decide) ?_
      refine x_retI (np := 11) (x := 0) (by decide +kernel) (by decide) (Or.inr ⟨by decide +kernel, by first | decide | omega, by first | decide | omega⟩) ⟨_, rfl, (by decide), ?_⟩
      refine x_ifz (k := 0) (tg := 36) (np := 34) (by decide +kernel) (by decide) (by decide) (fun q23 => ?_) (fun q24 => ?_)
      · have q23 : 2147483649 = 2147483648 := q23
        exfalso; omega
      have q24 : ¬ (2147483649 = 2147483648) := q24
      refine x_const (np := 35) (x := 9223372039002259456) (a := 2147483648) (by decide +kernel) (by decide) (by decide) ?_
      refine x_retI (np := 36) (x := 0) (by decide +kernel) (by decide) (Or.inl (by decide +kernel)) ⟨_, rfl, (by decide), ?_⟩
      exact ⟨j20, f22, (by first | decide | omega)⟩
    have q16 : ¬ (2147483649 ≠ 2147483648) := q16
    exfalso; omega
  have q12 : ¬ (a1 < 2147483648) := q12
  refine x_iload (np := 6) (x := 0) (by decide +kernel) rfl la1 ?_
  refine x_iload (np := 7) (x := 2) (by decide +kernel) rfl (by first | decide | omega) ?_
  refine x_icmp (k := 4) (tg := 14) (np := 10) (by decide +kernel) (by decide) la1 (by first | decide | omega) (fun q25 => ?_) (fun q26 => ?_)
  · have q25 : v9 < a1 := q25
    refine x_const (np := 15) (x := 9223372039002259456) (a := 2147483648) (by decide +kernel) (by decide) (by decide) ?_
    refine x_retI (np := 16) (x := 0) (by decide +kernel) (by decide) (Or.inr ⟨by decide +kernel, by first | decide | omega, by first | decide | omega⟩) ⟨_, rfl, (by decide), ?_⟩
    refine x_ifz (k := 1) (tg := 20) (np := 16) (by decide +kernel) (by decide) (by decide) (fun q27 => ?_) (fun q28 => ?_)
    · have q27 : 2147483648 ≠ 2147483648 := q27
      exfalso; omega
    have q28 : ¬ (2147483648 ≠ 2147483648) := q28
    refine x_const (np := 17) (x := 9223372043297226753) (a := 2147483649) (by decide +kernel) (by decide) (by decide) ?_
    refine x_goto (np := 20) (x := 21) (by decide +kernel) ?_
    refine x_retI (np := 22) (x := 0) (by decide +kernel) (by decide) (Or.inr ⟨by decide +kernel, by first | decide | omega, by first | decide | omega⟩) ⟨_, rfl, (by decide), ?_⟩
    refine x_retI (np := 7) (x := 0) (by decide +kernel) (by decide) (Or.inr ⟨by decide +kernel, by first | decide | omega, by first | decide | omega⟩) ⟨_, rfl, (by decide), ?_⟩
    refine x_ifz (k := 1) (tg := 22) (np := 14) (by decide +kernel) (by decide) (by decide) (fun q29 => ?_) (fun q30 => ?_)
    · have q29 : 2147483649 ≠ 2147483648 := q29
      refine x_const (np := 23) (x := 9223372043297226753) (a := 2147483649) (by decide +kernel) (by decide) (by decide) ?_
      refine x_goto (np := 26) (x := 27) (by decide +kernel) ?_
      refine x_const (np := 28) (x := 9223372043297226753) (a := 2147483649) (by decide +kernel) (by decide) (by decide) ?_
      refine x_nI (t := 6) (mj := 152) (n := 3) (rc := 12) (ml := 3) (nr := 0) (np := 31) (as := [x_r 75, iv_c 2147483649, iv_c 2147483649]) (rest := []) (lo1 := [x_r 75, iv_c 2147483649, iv_c 2147483649]) (by decide +kernel) (by decide) (by decide +kernel) (x_rb_of (by decide +kernel)) rfl rfl (x_wr (by decide) (x_wi (by decide) (x_wi (by decide) x_wn))) x_wn (by decide) rfl ?_
      refine x_iload (np := 1) (x := 1) (by decide +kernel) rfl (by decide) ?_
      refine x_ifz (k := 0) (tg := 9) (np := 4) (by decide +kernel) (by decide) (by decide) (fun q31 => ?_) (fun q32 => ?_)
      · have q31 : 2147483649 = 2147483648 := q31
        exfalso; omega
      have q32 : ¬ (2147483649 = 2147483648) := q32
      refine x_aload (np := 5) (x := 0) (by decide +kernel) rfl (x_nc_le (by decide)) ?_
      refine x_iload (np := 6) (x := 2) (by decide +kernel) rfl (by decide) ?_
      refine x_putI (np := 9) (x := 704) (f := 0) (by decide +kernel) (by decide +kernel) (by decide) (Or.inl (by decide)) ?_
      have j34 := jU (e := 0) (v := 2147483649) 0 j2 rg_75_0_0_1 (by first | decide | omega) (by first | decide | omega) (by first | decide | omega)
      have f36 := jF (e := 0) (v := 2147483649) 0 f4 rg_75_0_0_1 (by first | decide | omega) (by first | decide | omega) (by decide)
      generalize e35 : x_up h1 75 0 2147483649 = h33 at j34 f36 ⊢
      refine x_iload (np := 10) (x := 1) (by decide +kernel) rfl (by decide) ?_
      refine x_retI (np := 11) (x := 0) (by decide +kernel) (by decide) (Or.inr ⟨by decide +kernel, by first | decide | omega, by first | decide | omega⟩) ⟨_, rfl, (by decide), ?_⟩
      refine x_ifz (k := 0) (tg := 36) (np := 34) (by decide +kernel) (by decide) (by decide) (fun q37 => ?_) (fun q38 => ?_)
      · have q37 : 2147483649 = 2147483648 := q37
        exfalso; omega
      have q38 : ¬ (2147483649 = 2147483648) := q38
      refine x_const (np := 35) (x := 9223372039002259456) (a := 2147483648) (by decide +kernel) (by decide) (by decide) ?_
      refine x_retI (np := 36) (x := 0) (by decide +kernel) (by decide) (Or.inl (by decide +kernel)) ⟨_, rfl, (by decide), ?_⟩
      exact ⟨j34, f36, (by first | decide | omega)⟩
    have q30 : ¬ (2147483649 ≠ 2147483648) := q30
    exfalso; omega
  have q26 : ¬ (v9 < a1) := q26
  refine x_const (np := 11) (x := 9223372043297226753) (a := 2147483649) (by decide +kernel) (by decide) (by decide) ?_
  refine x_goto (np := 14) (x := 15) (by decide +kernel) ?_
  refine x_retI (np := 16) (x := 0) (by decide +kernel) (by decide) (Or.inr ⟨by decide +kernel, by first | decide | omega, by first | decide | omega⟩) ⟨_, rfl, (by decide), ?_⟩
  refine x_ifz (k := 1) (tg := 20) (np := 16) (by decide +kernel) (by decide) (by decide) (fun q39 => ?_) (fun q40 => ?_)
  · have q39 : 2147483649 ≠ 2147483648 := q39
    refine x_const (np := 21) (x := 9223372039002259456) (a := 2147483648) (by decide +kernel) (by decide) (by decide) ?_
    refine x_retI (np := 22) (x := 0) (by decide +kernel) (by decide) (Or.inr ⟨by decide +kernel, by first | decide | omega, by first | decide | omega⟩) ⟨_, rfl, (by decide), ?_⟩
    refine x_retI (np := 7) (x := 0) (by decide +kernel) (by decide) (Or.inr ⟨by decide +kernel, by first | decide | omega, by first | decide | omega⟩) ⟨_, rfl, (by decide), ?_⟩
    refine x_ifz (k := 1) (tg := 22) (np := 14) (by decide +kernel) (by decide) (by decide) (fun q41 => ?_) (fun q42 => ?_)
    · have q41 : 2147483648 ≠ 2147483648 := q41
      exfalso; omega
    have q42 : ¬ (2147483648 ≠ 2147483648) := q42
    refine x_aload (np := 15) (x := 0) (by decide +kernel) rfl (x_nc_le (by decide)) ?_
    refine x_iload (np := 16) (x := 2) (by decide +kernel) rfl la2 ?_
    refine x_nI (t := 6) (mj := 159) (n := 2) (rc := 12) (ml := 2) (nr := 1) (np := 19) (as := [x_r 75, iv_c a2]) (rest := [x_r 75]) (lo1 := [x_r 75, iv_c a2]) (by decide +kernel) (by decide) (by decide +kernel) (x_rb_of (by decide +kernel)) rfl rfl (x_wr (by decide) (x_wi la2 x_wn)) (x_wr (by decide) x_wn) (by decide) rfl ?_
    refine x_aload (np := 1) (x := 0) (by decide +kernel) rfl (x_nc_le (by decide)) ?_
    refine x_iload (np := 2) (x := 1) (by decide +kernel) rfl la2 ?_
    refine x_const (np := 3) (x := 9223372039002259456) (a := 2147483648) (by decide +kernel) (by decide) (by decide) ?_
    refine x_nI (t := 6) (mj := 158) (n := 3) (rc := 12) (ml := 3) (nr := 0) (np := 6) (as := [x_r 75, iv_c a2, iv_c 2147483648]) (rest := []) (lo1 := [x_r 75, iv_c a2, iv_c 2147483648]) (by decide +kernel) (by decide) (by decide +kernel) (x_rb_of (by decide +kernel)) rfl rfl (x_wr (by decide) (x_wi la2 (x_wi (by decide) x_wn))) x_wn (by decide) rfl ?_
    refine x_iload (np := 1) (x := 1) (by decide +kernel) rfl la2 ?_
    refine x_const (np := 2) (x := 9223372039002259456) (a := 2147483648) (by decide +kernel) (by decide) (by decide) ?_
    refine x_aload (np := 3) (x := 0) (by decide +kernel) rfl (x_nc_le (by decide)) ?_
    have q43 : h1 75 1 = 76 := by have z := jB (e := 1) 0 j2 rg_75_1_0_1 (by decide) (by decide); omega
    refine x_getR (np := 6) (x := 705) (f := 1) (q := 76) (by decide +kernel) (by decide) (by decide +kernel) q43 ?_
    refine x_iload (np := 7) (x := 2) (by decide +kernel) rfl (by decide) ?_
    have q44 : h1 76 0 = h 76 0 := by rw [← e3]; exact x_up_k (by decide)
    refine x_aldC (np := 8) (x := 0) (n := 1952) (i := 0) (q := (h 76 0)) (by decide +kernel) (by decide +kernel) (by first | decide | omega) (by first | decide | omega) (by decide) q44 (fun l45 => ?_)
    refine x_const (np := 9) (x := 9223372043297226753) (a := 2147483649) (by decide +kernel) (by decide) (by decide) ?_
    obtain ⟨v46, q47⟩ : ∃ z, z + 2147483649 = (h 76 0) + 2147483648 := ⟨(h 76 0) + 2147483648 - 2147483649, by first | decide | omega⟩
    refine x_isub (np := 10) (x := 0) (v := v46) (by decide +kernel) l8 (by decide) (by first | decide | omega) (by first | decide | omega) ?_
    refine x_nI (t := 0) (mj := 153) (n := 3) (rc := 0) (ml := 3) (nr := 0) (np := 13) (as := [iv_c a2, iv_c 2147483648, iv_c v46]) (rest := []) (lo1 := [iv_c a2, iv_c 2147483648, iv_c v46]) (by decide +kernel) (by decide) (by decide +kernel) (Or.inl rfl) rfl rfl (x_wi la2 (x_wi (by decide) (x_wi (by first | decide | omega) x_wn))) x_wn (by decide) rfl ?_
    refine x_iload (np := 1) (x := 0) (by decide +kernel) rfl la2 ?_
    refine x_iload (np := 2) (x := 1) (by decide +kernel) rfl (by decide) ?_
    refine x_icmp (k := 2) (tg := 14) (np := 5) (by decide +kernel) (by decide) la2 (by decide) (fun q48 => ?_) (fun q49 => ?_)
    · have q48 : a2 < 2147483648 := q48
      refine x_const (np := 15) (x := 9223372039002259456) (a := 2147483648) (by decide +kernel) (by decide) (by decide) ?_
      refine x_retI (np := 16) (x := 0) (by decide +kernel) (by decide) (Or.inr ⟨by decide +kernel, by first | decide | omega, by first | decide | omega⟩) ⟨_, rfl, (by decide), ?_⟩
      refine x_ifz (k := 1) (tg := 20) (np := 16) (by decide +kernel) (by decide) (by decide) (fun q50 => ?_) (fun q51 => ?_)
      · have q50 : 2147483648 ≠ 2147483648 := q50
        exfalso; omega
      have q51 : ¬ (2147483648 ≠ 2147483648) := q51
      refine x_const (np := 17) (x := 9223372043297226753) (a := 2147483649) (by decide +kernel) (by decide) (by decide) ?_
      refine x_goto (np := 20) (x := 21) (by decide +kernel) ?_
      refine x_retI (np := 22) (x := 0) (by decide +kernel) (by decide) (Or.inr ⟨by decide +kernel, by first | decide | omega, by first | decide | omega⟩) ⟨_, rfl, (by decide), ?_⟩
      refine x_retI (np := 7) (x := 0) (by decide +kernel) (by decide) (Or.inr ⟨by decide +kernel, by first | decide | omega, by first | decide | omega⟩) ⟨_, rfl, (by decide), ?_⟩
      refine x_ifz (k := 0) (tg := 26) (np := 22) (by decide +kernel) (by decide) (by decide) (fun q52 => ?_) (fun q53 => ?_)
      · have q52 : 2147483649 = 2147483648 := q52
        exfalso; omega
      have q53 : ¬ (2147483649 = 2147483648) := q53
      refine x_const (np := 23) (x := 9223372043297226753) (a := 2147483649) (by decide +kernel) (by decide) (by decide) ?_
      refine x_goto (np := 26) (x := 27) (by decide +kernel) ?_
      refine x_const (np := 28) (x := 9223372043297226753) (a := 2147483649) (by decide +kernel) (by decide) (by decide) ?_
      refine x_nI (t := 6) (mj := 152) (n := 3) (rc := 12) (ml := 3) (nr := 0) (np := 31) (as := [x_r 75, iv_c 2147483649, iv_c 2147483649]) (rest := []) (lo1 := [x_r 75, iv_c 2147483649, iv_c 2147483649]) (by decide +kernel) (by decide) (by decide +kernel) (x_rb_of (by decide +kernel)) rfl rfl (x_wr (by decide) (x_wi (by decide) (x_wi (by decide) x_wn))) x_wn (by decide) rfl ?_
      refine x_iload (np := 1) (x := 1) (by decide +kernel) rfl (by decide) ?_
      refine x_ifz (k := 0) (tg := 9) (np := 4) (by decide +kernel) (by decide) (by decide) (fun q54 => ?_) (fun q55 => ?_)
      · have q54 : 2147483649 = 2147483648 := q54
        exfalso; omega
      have q55 : ¬ (2147483649 = 2147483648) := q55
      refine x_aload (np := 5) (x := 0) (by decide +kernel) rfl (x_nc_le (by decide)) ?_
      refine x_iload (np := 6) (x := 2) (by decide +kernel) rfl (by decide) ?_
      refine x_putI (np := 9) (x := 704) (f := 0) (by decide +kernel) (by decide +kernel) (by decide) (Or.inl (by decide)) ?_
      have j57 := jU (e := 0) (v := 2147483649) 0 j2 rg_75_0_0_1 (by first | decide | omega) (by first | decide | omega) (by first | decide | omega)
      have f59 := jF (e := 0) (v := 2147483649) 0 f4 rg_75_0_0_1 (by first | decide | omega) (by first | decide | omega) (by decide)
      generalize e58 : x_up h1 75 0 2147483649 = h56 at j57 f59 ⊢
      refine x_iload (np := 10) (x := 1) (by decide +kernel) rfl (by decide) ?_
      refine x_retI (np := 11) (x := 0) (by decide +kernel) (by decide) (Or.inr ⟨by decide +kernel, by first | decide | omega, by first | decide | omega⟩) ⟨_, rfl, (by decide), ?_⟩
      refine x_ifz (k := 0) (tg := 36) (np := 34) (by decide +kernel) (by decide) (by decide) (fun q60 => ?_) (fun q61 => ?_)
      · have q60 : 2147483649 = 2147483648 := q60
        exfalso; omega
      have q61 : ¬ (2147483649 = 2147483648) := q61
      refine x_const (np := 35) (x := 9223372039002259456) (a := 2147483648) (by decide +kernel) (by decide) (by decide) ?_
      refine x_retI (np := 36) (x := 0) (by decide +kernel) (by decide) (Or.inl (by decide +kernel)) ⟨_, rfl, (by decide), ?_⟩
      exact ⟨j57, f59, (by first | decide | omega)⟩
    have q49 : ¬ (a2 < 2147483648) := q49
    refine x_iload (np := 6) (x := 0) (by decide +kernel) rfl la2 ?_
    refine x_iload (np := 7) (x := 2) (by decide +kernel) rfl (by first | decide | omega) ?_
    refine x_icmp (k := 4) (tg := 14) (np := 10) (by decide +kernel) (by decide) la2 (by first | decide | omega) (fun q62 => ?_) (fun q63 => ?_)
    · have q62 : v46 < a2 := q62
      refine x_const (np := 15) (x := 9223372039002259456) (a := 2147483648) (by decide +kernel) (by decide) (by decide) ?_
      refine x_retI (np := 16) (x := 0) (by decide +kernel) (by decide) (Or.inr ⟨by decide +kernel, by first | decide | omega, by first | decide | omega⟩) ⟨_, rfl, (by decide), ?_⟩
      refine x_ifz (k := 1) (tg := 20) (np := 16) (by decide +kernel) (by decide) (by decide) (fun q64 => ?_) (fun q65 => ?_)
      · have q64 : 2147483648 ≠ 2147483648 := q64
        exfalso; omega
      have q65 : ¬ (2147483648 ≠ 2147483648) := q65
      refine x_const (np := 17) (x := 9223372043297226753) (a := 2147483649) (by decide +kernel) (by decide) (by decide) ?_
      refine x_goto (np := 20) (x := 21) (by decide +kernel) ?_
      refine x_retI (np := 22) (x := 0) (by decide +kernel) (by decide) (Or.inr ⟨by decide +kernel, by first | decide | omega, by first | decide | omega⟩) ⟨_, rfl, (by decide), ?_⟩
      refine x_retI (np := 7) (x := 0) (by decide +kernel) (by decide) (Or.inr ⟨by decide +kernel, by first | decide | omega, by first | decide | omega⟩) ⟨_, rfl, (by decide), ?_⟩
      refine x_ifz (k := 0) (tg := 26) (np := 22) (by decide +kernel) (by decide) (by decide) (fun q66 => ?_) (fun q67 => ?_)
      · have q66 : 2147483649 = 2147483648 := q66
        exfalso; omega
      have q67 : ¬ (2147483649 = 2147483648) := q67
      refine x_const (np := 23) (x := 9223372043297226753) (a := 2147483649) (by decide +kernel) (by decide) (by decide) ?_
      refine x_goto (np := 26) (x := 27) (by decide +kernel) ?_
      refine x_const (np := 28) (x := 9223372043297226753) (a := 2147483649) (by decide +kernel) (by decide) (by decide) ?_
      refine x_nI (t := 6) (mj := 152) (n := 3) (rc := 12) (ml := 3) (nr := 0) (np := 31) (as := [x_r 75, iv_c 2147483649, iv_c 2147483649]) (rest := []) (lo1 := [x_r 75, iv_c 2147483649, iv_c 2147483649]) (by decide +kernel) (by decide) (by decide +kernel) (x_rb_of (by decide +kernel)) rfl rfl (x_wr (by decide) (x_wi (by decide) (x_wi (by decide) x_wn))) x_wn (by decide) rfl ?_
      refine x_iload (np := 1) (x := 1) (by decide +kernel) rfl (by decide) ?_
      refine x_ifz (k := 0) (tg := 9) (np := 4) (by decide +kernel) (by decide) (by decide) (fun q68 => ?_) (fun q69 => ?_)
      · have q68 : 2147483649 = 2147483648 := q68
        exfalso; omega
      have q69 : ¬ (2147483649 = 2147483648) := q69
      refine x_aload (np := 5) (x := 0) (by decide +kernel) rfl (x_nc_le (by decide)) ?_
      refine x_iload (np := 6) (x := 2) (by decide +kernel) rfl (by decide) ?_
      refine x_putI (np := 9) (x := 704) (f := 0) (by decide +kernel) (by decide +kernel) (by decide) (Or.inl (by decide)) ?_
      have j71 := jU (e := 0) (v := 2147483649) 0 j2 rg_75_0_0_1 (by first | decide | omega) (by first | decide | omega) (by first | decide | omega)
      have f73 := jF (e := 0) (v := 2147483649) 0 f4 rg_75_0_0_1 (by first | decide | omega) (by first | decide | omega) (by decide)
      generalize e72 : x_up h1 75 0 2147483649 = h70 at j71 f73 ⊢
      refine x_iload (np := 10) (x := 1) (by decide +kernel) rfl (by decide) ?_
      refine x_retI (np := 11) (x := 0) (by decide +kernel) (by decide) (Or.inr ⟨by decide +kernel, by first | decide | omega, by first | decide | omega⟩) ⟨_, rfl, (by decide), ?_⟩
      refine x_ifz (k := 0) (tg := 36) (np := 34) (by decide +kernel) (by decide) (by decide) (fun q74 => ?_) (fun q75 => ?_)
      · have q74 : 2147483649 = 2147483648 := q74
        exfalso; omega
      have q75 : ¬ (2147483649 = 2147483648) := q75
      refine x_const (np := 35) (x := 9223372039002259456) (a := 2147483648) (by decide +kernel) (by decide) (by decide) ?_
      refine x_retI (np := 36) (x := 0) (by decide +kernel) (by decide) (Or.inl (by decide +kernel)) ⟨_, rfl, (by decide), ?_⟩
      exact ⟨j71, f73, (by first | decide | omega)⟩
    have q63 : ¬ (v46 < a2) := q63
    refine x_const (np := 11) (x := 9223372043297226753) (a := 2147483649) (by decide +kernel) (by decide) (by decide) ?_
    refine x_goto (np := 14) (x := 15) (by decide +kernel) ?_
    refine x_retI (np := 16) (x := 0) (by decide +kernel) (by decide) (Or.inr ⟨by decide +kernel, by first | decide | omega, by first | decide | omega⟩) ⟨_, rfl, (by decide), ?_⟩
    refine x_ifz (k := 1) (tg := 20) (np := 16) (by decide +kernel) (by decide) (by decide) (fun q76 => ?_) (fun q77 => ?_)
    · have q76 : 2147483649 ≠ 2147483648 := q76
      refine x_const (np := 21) (x := 9223372039002259456) (a := 2147483648) (by decide +kernel) (by decide) (by decide) ?_
      refine x_retI (np := 22) (x := 0) (by decide +kernel) (by decide) (Or.inr ⟨by decide +kernel, by first | decide | omega, by first | decide | omega⟩) ⟨_, rfl, (by decide), ?_⟩
      refine x_retI (np := 7) (x := 0) (by decide +kernel) (by decide) (Or.inr ⟨by decide +kernel, by first | decide | omega, by first | decide | omega⟩) ⟨_, rfl, (by decide), ?_⟩
      refine x_ifz (k := 0) (tg := 26) (np := 22) (by decide +kernel) (by decide) (by decide) (fun q78 => ?_) (fun q79 => ?_)
      · have q78 : 2147483648 = 2147483648 := q78
        refine x_const (np := 27) (x := 9223372039002259456) (a := 2147483648) (by decide +kernel) (by decide) (by decide) ?_
        refine x_const (np := 28) (x := 9223372043297226753) (a := 2147483649) (by decide +kernel) (by decide) (by decide) ?_
        refine x_nI (t := 6) (mj := 152) (n := 3) (rc := 12) (ml := 3) (nr := 0) (np := 31) (as := [x_r 75, iv_c 2147483648, iv_c 2147483649]) (rest := []) (lo1 := [x_r 75, iv_c 2147483648, iv_c 2147483649]) (by decide +kernel) (by decide) (by decide +kernel) (x_rb_of (by decide +kernel)) rfl rfl (x_wr (by decide) (x_wi (by decide) (x_wi (by decide) x_wn))) x_wn (by decide) rfl ?_
        refine x_iload (np := 1) (x := 1) (by decide +kernel) rfl (by decide) ?_
        refine x_ifz (k := 0) (tg := 9) (np := 4) (by decide +kernel) (by decide) (by decide) (fun q80 => ?_) (fun q81 => ?_)
        · have q80 : 2147483648 = 2147483648 := q80
          refine x_iload (np := 10) (x := 1) (by decide +kernel) rfl (by decide) ?_
          refine x_retI (np := 11) (x := 0) (by decide +kernel) (by decide) (Or.inr ⟨by decide +kernel, by first | decide | omega, by first | decide | omega⟩) ⟨_, rfl, (by decide), ?_⟩
          refine x_ifz (k := 0) (tg := 36) (np := 34) (by decide +kernel) (by decide) (by decide) (fun q82 => ?_) (fun q83 => ?_)
          · have q82 : 2147483648 = 2147483648 := q82
            refine x_aload (np := 37) (x := 0) (by decide +kernel) rfl (x_nc_le (by decide)) ?_
            have m87 : WT 76 h1 := by rw [← e3]; exact WT.oth hW hJ (by decide)
            refine x_cV (t := 6) (mj := 210) (n := 1) (rc := 12) (ml := 5) (nr := 0) (np := 40) (as := [x_r 75]) (rest := []) (lo1 := [x_r 75, 147573952589676412928, 147573952589676412928, 147573952589676412928, 147573952589676412928]) (by decide +kernel) (by decide) (by decide +kernel) (x_rb_of (by decide +kernel)) rfl rfl (x_wr (by decide) x_wn) x_wn (by decide) rfl (c210_75 j2  m87) (fun h88 q86 => ?_)
            obtain ⟨j89, f90⟩ := q86
            have f93 := Fr.trans f4 f90 (by decide)
            refine x_const (np := 41) (x := 9223372039002259456) (a := 2147483648) (by decide +kernel) (by decide) (by decide) ?_
            refine x_istore (np := 42) (x := 3) (lo' := [x_r 75, iv_c a1, iv_c a2, iv_c 2147483648, 147573952589676412928]) (by decide +kernel) (by decide) (Nat.le_of_ble_eq_true rfl) rfl ?_
            refine x_const (np := 43) (x := 9223372039002259456) (a := 2147483648) (by decide +kernel) (by decide) (by decide) ?_
            refine x_istore (np := 45) (x := 4) (lo' := [x_r 75, iv_c a1, iv_c a2, iv_c 2147483648, iv_c 2147483648]) (by decide +kernel) (by decide) (Nat.le_of_ble_eq_true rfl) rfl ?_
            have p598 : ∀ (n : Nat) (v594 : Nat) (v596 : Nat), 4294967296 - v596 < n → (0 ≤ v594 ∧ v594 ≤ 4294967295) → (2147483648 ≤ v596 ∧ v596 ≤ 2147483660) → X sc 240 (d + 5) (xI fun r h' => J h' ∧ Fr 135291600897 h h' ∧ (0 ≤ r ∧ r ≤ 4294967295)) 0 0 45 [x_r 75, iv_c a1, iv_c a2, iv_c v594, iv_c v596] [] h88 := by
              intro n
              induction n with
              | zero => intro v594 v596 q599; exact absurd q599 (Nat.not_lt_zero _)
              | succ n i600 =>
                intro v594 v596 q599 b595 b597
                refine x_iload (np := 47) (x := 4) (by decide +kernel) rfl (by first | decide | omega) ?_
                refine x_const (np := 49) (x := 9223372090541867020) (a := 2147483660) (by decide +kernel) (by decide) (by decide) ?_
                refine x_icmp (k := 3) (tg := 77) (np := 52) (by decide +kernel) (by decide) (by first | decide | omega) (by decide) (fun q601 => ?_) (fun q602 => ?_)
                · have q601 : 2147483660 ≤ v596 := q601
                  refine x_iload (np := 78) (x := 3) (by decide +kernel) rfl (by first | decide | omega) ?_
                  refine x_retI (np := 79) (x := 0) (by decide +kernel) (by first | decide | omega) (Or.inl (by decide +kernel)) ⟨_, rfl, (by first | decide | omega), ?_⟩
                  exact ⟨j89, f93, (by first | decide | omega)⟩
                have q602 : ¬ (2147483660 ≤ v596) := q602
                refine x_iload (np := 53) (x := 3) (by decide +kernel) rfl (by first | decide | omega) ?_
                refine x_aload (np := 54) (x := 0) (by decide +kernel) rfl (x_nc_le (by decide)) ?_
                refine x_iload (np := 55) (x := 1) (by decide +kernel) rfl la1 ?_
                refine x_iload (np := 57) (x := 4) (by decide +kernel) rfl (by first | decide | omega) ?_
                refine x_nI (t := 6) (mj := 211) (n := 3) (rc := 12) (ml := 3) (nr := 1) (np := 60) (as := [x_r 75, iv_c a1, iv_c v596]) (rest := [iv_c v594]) (lo1 := [x_r 75, iv_c a1, iv_c v596]) (by decide +kernel) (by decide) (by decide +kernel) (x_rb_of (by decide +kernel)) rfl rfl (x_wr (by decide) (x_wi la1 (x_wi (by first | decide | omega) x_wn))) (x_wi (by first | decide | omega) x_wn) (by decide) rfl ?_
                refine x_aload (np := 1) (x := 0) (by decide +kernel) rfl (x_nc_le (by decide)) ?_
                have q603 : h88 75 20 = 87 := by have z := jB (e := 20) 0 j89 rg_75_20_0_1 (by decide) (by decide); omega
                refine x_getR (np := 4) (x := 724) (f := 20) (q := 87) (by decide +kernel) (by decide) (by decide +kernel) q603 ?_
                refine x_const (np := 6) (x := 9223372090541867020) (a := 2147483660) (by decide +kernel) (by decide) (by decide) ?_
                refine x_iload (np := 7) (x := 1) (by decide +kernel) rfl la1 ?_
                obtain ⟨u604, q605⟩ : ∃ z, a1 = 2147483648 + z := ⟨a1 - 2147483648, by first | decide | omega⟩
                refine x_imul (np := 8) (x := 0) (i := 12) (j := u604) (v := (2147483648 + 12 * u604)) (by decide +kernel) (by first | decide | omega) (by first | decide | omega) (by first | decide | omega) (by first | decide | omega) (by decide) la1 ?_
                refine x_iload (np := 9) (x := 2) (by decide +kernel) rfl (by first | decide | omega) ?_
                refine x_iadd (np := 10) (x := 0) (v := (12 * u604 + v596)) (by decide +kernel) (by first | decide | omega) (by first | decide | omega) (by first | decide | omega) (by first | decide | omega) ?_
                obtain ⟨u607, q608⟩ : ∃ z, v596 = 2147483648 + z := ⟨v596 - 2147483648, by first | decide | omega⟩
                have b609 := jB (e := (12 * u604 + u607)) (12 * u604 + u607) j89 rg_87_0_1_72 (by first | decide | omega) (by first | decide | omega)
                refine x_aldC (np := 11) (x := 0) (n := 72) (i := (12 * u604 + u607)) (q := ((h88 87 (12 * u604 + u607)))) (by decide +kernel) (by decide +kernel) (by first | decide | omega) (by first | decide | omega) (by decide) rfl (fun l610 => ?_)
                refine x_retI (np := 12) (x := 0) (by decide +kernel) l610 (Or.inl (by decide +kernel)) ⟨_, rfl, l610, ?_⟩
                refine x_iload (np := 61) (x := 2) (by decide +kernel) rfl la2 ?_
                refine x_icmp (k := 1) (tg := 68) (np := 64) (by decide +kernel) (by decide) l610 la2 (fun q611 => ?_) (fun q612 => ?_)
                · have q611 : ((h88 87 (12 * u604 + u607))) ≠ a2 := q611
                  refine x_const (np := 69) (x := 9223372039002259456) (a := 2147483648) (by decide +kernel) (by decide) (by decide) ?_
                  refine x_iadd (np := 70) (x := 0) (v := v594) (by decide +kernel) (by first | decide | omega) (by decide) (by first | decide | omega) (by first | decide | omega) ?_
                  refine x_istore (np := 71) (x := 3) (lo' := [x_r 75, iv_c a1, iv_c a2, iv_c v594, iv_c v596]) (by decide +kernel) (by first | decide | omega) (Nat.le_of_ble_eq_true rfl) rfl ?_
                  refine x_iinc (np := 74) (i := 4) (j := 2147483649) (v := (1 + v596)) (lo' := [x_r 75, iv_c a1, iv_c a2, iv_c v594, iv_c (1 + v596)]) (by decide +kernel) (by decide) (by decide) rfl (by first | decide | omega) (by first | decide | omega) (by first | decide | omega) rfl ?_
                  refine x_goto (np := 77) (x := 45) (by decide +kernel) ?_
                  exact i600 v594 (1 + v596) (by first | decide | omega) (by first | decide | omega) (by first | decide | omega)
                have q612 : ¬ (((h88 87 (12 * u604 + u607))) ≠ a2) := q612
                refine x_const (np := 65) (x := 9223372043297226753) (a := 2147483649) (by decide +kernel) (by decide) (by decide) ?_
                refine x_goto (np := 68) (x := 69) (by decide +kernel) ?_
                refine x_addA (by rw [tb_b240]; decide +kernel) (by first | decide | omega) (by decide) (fun v613 l614 => ?_)
                refine x_istore (np := 71) (x := 3) (lo' := [x_r 75, iv_c a1, iv_c a2, iv_c v613, iv_c v596]) (by decide +kernel) l614 (Nat.le_of_ble_eq_true rfl) rfl ?_
                refine x_iinc (np := 74) (i := 4) (j := 2147483649) (v := (1 + v596)) (lo' := [x_r 75, iv_c a1, iv_c a2, iv_c v613, iv_c (1 + v596)]) (by decide +kernel) (by decide) (by decide) rfl (by first | decide | omega) (by first | decide | omega) (by first | decide | omega) rfl ?_
                refine x_goto (np := 77) (x := 45) (by decide +kernel) ?_
                exact i600 v613 (1 + v596) (by first | decide | omega) (by first | decide | omega) (by first | decide | omega)
            exact p598 _ 2147483648 2147483648 (Nat.lt_succ_self _) (by first | decide | omega) (by first | decide | omega)
          have q83 : ¬ (2147483648 = 2147483648) := q83
          exfalso; omega
        have q81 : ¬ (2147483648 = 2147483648) := q81
        exfalso; omega
      have q79 : ¬ (2147483648 = 2147483648) := q79
      exfalso; omega
    have q77 : ¬ (2147483649 ≠ 2147483648) := q77
    exfalso; omega
  have q40 : ¬ (2147483649 ≠ 2147483648) := q40
  exfalso; omega
