/-! ===== methods ===== -/
set_option maxHeartbeats 0 in
/-- LentNamesModel.isSeenDay(II)Z -/
theorem c255_75 {sc : Nat × Nat} {d a1 a2 : Nat} {h : xh} (hJ : J h) (ba1 : 2147483648 ≤ a1 ∧ a1 ≤ 2147483653) (ba2 : 2147483648 ≤ a2 ∧ a2 ≤ 2147483659) : X sc 255 (d + 2) (xI fun r h' => h' = h ∧ (2147483648 ≤ r ∧ r ≤ 2147483649)) 0 0 0 [x_r 75, iv_c a1, iv_c a2, 147573952589676412928, 147573952589676412928] [] h := by
  have la1 : a1 < 4294967296 := by first | decide | omega
  have la2 : a2 < 4294967296 := by first | decide | omega
  refine x_const (np := 1) (x := 9223372039002259456) (a := 2147483648) (by decide +kernel) (by decide) (by decide) ?_
  refine x_istore (np := 2) (x := 3) (lo' := [x_r 75, iv_c a1, iv_c a2, iv_c 2147483648, 147573952589676412928]) (by decide +kernel) (by decide) (Nat.le_of_ble_eq_true rfl) rfl ?_
  refine x_const (np := 3) (x := 9223372039002259456) (a := 2147483648) (by decide +kernel) (by decide) (by decide) ?_
  refine x_istore (np := 5) (x := 4) (lo' := [x_r 75, iv_c a1, iv_c a2, iv_c 2147483648, iv_c 2147483648]) (by decide +kernel) (by decide) (Nat.le_of_ble_eq_true rfl) rfl ?_
  have p320 : ∀ (n : Nat) (v316 : Nat) (v318 : Nat), 4294967296 - v318 < n → (2147483648 ≤ v316 ∧ v316 ≤ 2147483649) → (2147483648 ≤ v318 ∧ v318 ≤ 2147483658) → X sc 255 (d + 2) (xI fun r h' => h' = h ∧ (2147483648 ≤ r ∧ r ≤ 2147483649)) 0 0 5 [x_r 75, iv_c a1, iv_c a2, iv_c v316, iv_c v318] [] h := by
    intro n
    induction n with
    | zero => intro v316 v318 q321; exact absurd q321 (Nat.not_lt_zero _)
    | succ n i322 =>
      intro v316 v318 q321 b317 b319
      refine x_iload (np := 7) (x := 4) (by decide +kernel) rfl (by first | decide | omega) ?_
      refine x_aload (np := 8) (x := 0) (by decide +kernel) rfl (x_nc_le (by decide)) ?_
      have q323 : h 75 1 = 76 := by have z := jB (e := 1) 0 hJ rg_75_1_0_1 (by decide) (by decide); omega
      refine x_getR (np := 11) (x := 705) (f := 1) (q := 76) (by decide +kernel) (by decide) (by decide +kernel) q323 ?_
      refine x_const (np := 12) (x := 9223372060477095941) (a := 2147483653) (by decide +kernel) (by decide) (by decide) ?_
      have b324 := jB (e := 5) 0 hJ rg_76_5_0_1 (by first | decide | omega) (by first | decide | omega)
      refine x_aldC (np := 13) (x := 0) (n := 1952) (i := 5) (q := (h 76 5)) (by decide +kernel) (by decide +kernel) (by first | decide | omega) (by first | decide | omega) (by decide) rfl (fun l325 => ?_)
      refine x_icmp (k := 3) (tg := 63) (np := 16) (by decide +kernel) (by decide) (by first | decide | omega) l325 (fun q326 => ?_) (fun q327 => ?_)
      · have q326 : (h 76 5) ≤ v318 := q326
        refine x_iload (np := 64) (x := 3) (by decide +kernel) rfl (by first | decide | omega) ?_
        refine x_retI (np := 65) (x := 0) (by decide +kernel) (by first | decide | omega) (Or.inr ⟨by decide +kernel, by first | decide | omega, by first | decide | omega⟩) ⟨_, rfl, (by first | decide | omega), ?_⟩
        exact ⟨rfl, (by first | decide | omega)⟩
      have q327 : ¬ ((h 76 5) ≤ v318) := q327
      refine x_iload (np := 17) (x := 3) (by decide +kernel) rfl (by first | decide | omega) ?_
      refine x_ifz (k := 1) (tg := 51) (np := 20) (by decide +kernel) (by decide) (by first | decide | omega) (fun q328 => ?_) (fun q329 => ?_)
      · have q328 : v316 ≠ 2147483648 := q328
        refine x_const (np := 52) (x := 9223372043297226753) (a := 2147483649) (by decide +kernel) (by decide) (by decide) ?_
        refine x_goto (np := 55) (x := 56) (by decide +kernel) ?_
        refine x_istore (np := 57) (x := 3) (lo' := [x_r 75, iv_c a1, iv_c a2, iv_c 2147483649, iv_c v318]) (by decide +kernel) (by decide) (Nat.le_of_ble_eq_true rfl) rfl ?_
        refine x_iinc (np := 60) (i := 4) (j := 2147483649) (v := (1 + v318)) (lo' := [x_r 75, iv_c a1, iv_c a2, iv_c 2147483649, iv_c (1 + v318)]) (by decide +kernel) (by decide) (by decide) rfl (by first | decide | omega) (by first | decide | omega) (by first | decide | omega) rfl ?_
        refine x_goto (np := 63) (x := 5) (by decide +kernel) ?_
        exact i322 2147483649 (1 + v318) (by first | decide | omega) (by first | decide | omega) (by first | decide | omega)
      have q329 : ¬ (v316 ≠ 2147483648) := q329
      refine x_aload (np := 21) (x := 0) (by decide +kernel) rfl (x_nc_le (by decide)) ?_
      refine x_iload (np := 23) (x := 4) (by decide +kernel) rfl (by first | decide | omega) ?_
      refine x_nI (t := 6) (mj := 249) (n := 2) (rc := 12) (ml := 2) (nr := 0) (np := 26) (as := [x_r 75, iv_c v318]) (rest := []) (lo1 := [x_r 75, iv_c v318]) (by decide +kernel) (by decide) (by decide +kernel) (x_rb_of (by decide +kernel)) rfl rfl (x_wr (by decide) (x_wi (by first | decide | omega) x_wn)) x_wn (by decide) rfl ?_
      refine x_aload (np := 1) (x := 0) (by decide +kernel) rfl (x_nc_le (by decide)) ?_
      refine x_iload (np := 2) (x := 1) (by decide +kernel) rfl (by first | decide | omega) ?_
      refine x_const (np := 3) (x := 9223372051887161347) (a := 2147483651) (by decide +kernel) (by decide) (by decide) ?_
      refine x_nI (t := 6) (mj := 164) (n := 3) (rc := 12) (ml := 3) (nr := 0) (np := 6) (as := [x_r 75, iv_c v318, iv_c 2147483651]) (rest := []) (lo1 := [x_r 75, iv_c v318, iv_c 2147483651]) (by decide +kernel) (by decide) (by decide +kernel) (x_rb_of (by decide +kernel)) rfl rfl (x_wr (by decide) (x_wi (by first | decide | omega) (x_wi (by decide) x_wn))) x_wn (by decide) rfl ?_
      refine x_aload (np := 1) (x := 0) (by decide +kernel) rfl (x_nc_le (by decide)) ?_
      have q330 : h 75 1 = 76 := by have z := jB (e := 1) 0 hJ rg_75_1_0_1 (by decide) (by decide); omega
      refine x_getR (np := 4) (x := 705) (f := 1) (q := 76) (by decide +kernel) (by decide) (by decide +kernel) q330 ?_
      refine x_const (np := 7) (x := 9223373112744083706) (a := 2147483898) (by decide +kernel) (by decide) (by decide) ?_
      refine x_const (np := 8) (x := 9223372056182128644) (a := 2147483652) (by decide +kernel) (by decide) (by decide) ?_
      refine x_iload (np := 9) (x := 1) (by decide +kernel) rfl (by first | decide | omega) ?_
      obtain ⟨u331, q332⟩ : ∃ z, v318 = 2147483648 + z := ⟨v318 - 2147483648, by first | decide | omega⟩
      refine x_imul (np := 10) (x := 0) (i := 4) (j := u331) (v := (2147483648 + 4 * u331)) (by decide +kernel) (by first | decide | omega) (by first | decide | omega) (by first | decide | omega) (by first | decide | omega) (by decide) (by first | decide | omega) ?_
      refine x_iadd (np := 11) (x := 0) (v := (2147483898 + 4 * u331)) (by decide +kernel) (by decide) (by first | decide | omega) (by first | decide | omega) (by first | decide | omega) ?_
      refine x_iload (np := 12) (x := 2) (by decide +kernel) rfl (by decide) ?_
      refine x_iadd (np := 13) (x := 0) (v := (2147483901 + 4 * u331)) (by decide +kernel) (by first | decide | omega) (by decide) (by first | decide | omega) (by first | decide | omega) ?_
      refine x_aldC (np := 14) (x := 0) (n := 1952) (i := (253 + 4 * u331)) (q := ((h 76 (253 + 4 * u331)))) (by decide +kernel) (by decide +kernel) (by first | decide | omega) (by first | decide | omega) (by decide) rfl (fun l334 => ?_)
      refine x_retI (np := 15) (x := 0) (by decide +kernel) l334 (Or.inl (by decide +kernel)) ⟨_, rfl, l334, ?_⟩
      refine x_aload (np := 7) (x := 0) (by decide +kernel) rfl (x_nc_le (by decide)) ?_
      refine x_getC (np := 10) (x := 736) (f := 32) (q := (h 75 32)) (by decide +kernel) (by decide) (by decide +kernel) rfl (fun l335 => ?_)
      refine x_icmp (k := 4) (tg := 17) (np := 13) (by decide +kernel) (by decide) l334 l335 (fun q336 => ?_) (fun q337 => ?_)
      · have q336 : (h 75 32) < ((h 76 (253 + 4 * u331))) := q336
        refine x_const (np := 18) (x := 9223372039002259456) (a := 2147483648) (by decide +kernel) (by decide) (by decide) ?_
        refine x_retI (np := 19) (x := 0) (by decide +kernel) (by decide) (Or.inr ⟨by decide +kernel, by first | decide | omega, by first | decide | omega⟩) ⟨_, rfl, (by decide), ?_⟩
        refine x_ifz (k := 0) (tg := 55) (np := 29) (by decide +kernel) (by decide) (by decide) (fun q338 => ?_) (fun q339 => ?_)
        · have q338 : 2147483648 = 2147483648 := q338
          refine x_const (np := 56) (x := 9223372039002259456) (a := 2147483648) (by decide +kernel) (by decide) (by decide) ?_
          refine x_istore (np := 57) (x := 3) (lo' := [x_r 75, iv_c a1, iv_c a2, iv_c 2147483648, iv_c v318]) (by decide +kernel) (by decide) (Nat.le_of_ble_eq_true rfl) rfl ?_
          refine x_iinc (np := 60) (i := 4) (j := 2147483649) (v := (1 + v318)) (lo' := [x_r 75, iv_c a1, iv_c a2, iv_c 2147483648, iv_c (1 + v318)]) (by decide +kernel) (by decide) (by decide) rfl (by first | decide | omega) (by first | decide | omega) (by first | decide | omega) rfl ?_
          refine x_goto (np := 63) (x := 5) (by decide +kernel) ?_
          exact i322 2147483648 (1 + v318) (by first | decide | omega) (by first | decide | omega) (by first | decide | omega)
        have q339 : ¬ (2147483648 = 2147483648) := q339
        exfalso; omega
      have q337 : ¬ ((h 75 32) < ((h 76 (253 + 4 * u331)))) := q337
      refine x_const (np := 14) (x := 9223372043297226753) (a := 2147483649) (by decide +kernel) (by decide) (by decide) ?_
      refine x_goto (np := 17) (x := 18) (by decide +kernel) ?_
      refine x_retI (np := 19) (x := 0) (by decide +kernel) (by decide) (Or.inr ⟨by decide +kernel, by first | decide | omega, by first | decide | omega⟩) ⟨_, rfl, (by decide), ?_⟩
      refine x_ifz (k := 0) (tg := 55) (np := 29) (by decide +kernel) (by decide) (by decide) (fun q340 => ?_) (fun q341 => ?_)
      · have q340 : 2147483649 = 2147483648 := q340
        exfalso; omega
      have q341 : ¬ (2147483649 = 2147483648) := q341
      refine x_aload (np := 30) (x := 0) (by decide +kernel) rfl (x_nc_le (by decide)) ?_
      refine x_iload (np := 32) (x := 4) (by decide +kernel) rfl (by first | decide | omega) ?_
      refine x_const (np := 33) (x := 9223372039002259456) (a := 2147483648) (by decide +kernel) (by decide) (by decide) ?_
      refine x_nI (t := 6) (mj := 164) (n := 3) (rc := 12) (ml := 3) (nr := 0) (np := 36) (as := [x_r 75, iv_c v318, iv_c 2147483648]) (rest := []) (lo1 := [x_r 75, iv_c v318, iv_c 2147483648]) (by decide +kernel) (by decide) (by decide +kernel) (x_rb_of (by decide +kernel)) rfl rfl (x_wr (by decide) (x_wi (by first | decide | omega) (x_wi (by decide) x_wn))) x_wn (by decide) rfl ?_
      refine x_aload (np := 1) (x := 0) (by decide +kernel) rfl (x_nc_le (by decide)) ?_
      have q342 : h 75 1 = 76 := by have z := jB (e := 1) 0 hJ rg_75_1_0_1 (by decide) (by decide); omega
      refine x_getR (np := 4) (x := 705) (f := 1) (q := 76) (by decide +kernel) (by decide) (by decide +kernel) q342 ?_
      refine x_const (np := 7) (x := 9223373112744083706) (a := 2147483898) (by decide +kernel) (by decide) (by decide) ?_
      refine x_const (np := 8) (x := 9223372056182128644) (a := 2147483652) (by decide +kernel) (by decide) (by decide) ?_
      refine x_iload (np := 9) (x := 1) (by decide +kernel) rfl (by first | decide | omega) ?_
      refine x_imul (np := 10) (x := 0) (i := 4) (j := u331) (v := (2147483648 + 4 * u331)) (by decide +kernel) (by first | decide | omega) (by first | decide | omega) (by first | decide | omega) (by first | decide | omega) (by decide) (by first | decide | omega) ?_
      refine x_iadd (np := 11) (x := 0) (v := (2147483898 + 4 * u331)) (by decide +kernel) (by decide) (by first | decide | omega) (by first | decide | omega) (by first | decide | omega) ?_
      refine x_iload (np := 12) (x := 2) (by decide +kernel) rfl (by decide) ?_
      refine x_iadd (np := 13) (x := 0) (v := (2147483898 + 4 * u331)) (by decide +kernel) (by first | decide | omega) (by decide) (by first | decide | omega) (by first | decide | omega) ?_
      have b344 := jB (e := (250 + 4 * u331)) u331 hJ rg_76_250_4_10 (by first | decide | omega) (by first | decide | omega)
      refine x_aldC (np := 14) (x := 0) (n := 1952) (i := (250 + 4 * u331)) (q := ((h 76 (250 + 4 * u331)))) (by decide +kernel) (by decide +kernel) (by first | decide | omega) (by first | decide | omega) (by decide) rfl (fun l345 => ?_)
      refine x_retI (np := 15) (x := 0) (by decide +kernel) l345 (Or.inl (by decide +kernel)) ⟨_, rfl, l345, ?_⟩
      refine x_iload (np := 37) (x := 1) (by decide +kernel) rfl la1 ?_
      refine x_icmp (k := 1) (tg := 55) (np := 40) (by decide +kernel) (by decide) l345 la1 (fun q346 => ?_) (fun q347 => ?_)
      · have q346 : ((h 76 (250 + 4 * u331))) ≠ a1 := q346
        refine x_const (np := 56) (x := 9223372039002259456) (a := 2147483648) (by decide +kernel) (by decide) (by decide) ?_
        refine x_istore (np := 57) (x := 3) (lo' := [x_r 75, iv_c a1, iv_c a2, iv_c 2147483648, iv_c v318]) (by decide +kernel) (by decide) (Nat.le_of_ble_eq_true rfl) rfl ?_
        refine x_iinc (np := 60) (i := 4) (j := 2147483649) (v := (1 + v318)) (lo' := [x_r 75, iv_c a1, iv_c a2, iv_c 2147483648, iv_c (1 + v318)]) (by decide +kernel) (by decide) (by decide) rfl (by first | decide | omega) (by first | decide | omega) (by first | decide | omega) rfl ?_
        refine x_goto (np := 63) (x := 5) (by decide +kernel) ?_
        exact i322 2147483648 (1 + v318) (by first | decide | omega) (by first | decide | omega) (by first | decide | omega)
      have q347 : ¬ (((h 76 (250 + 4 * u331))) ≠ a1) := q347
      refine x_aload (np := 41) (x := 0) (by decide +kernel) rfl (x_nc_le (by decide)) ?_
      refine x_iload (np := 43) (x := 4) (by decide +kernel) rfl (by first | decide | omega) ?_
      refine x_const (np := 44) (x := 9223372043297226753) (a := 2147483649) (by decide +kernel) (by decide) (by decide) ?_
      refine x_nI (t := 6) (mj := 164) (n := 3) (rc := 12) (ml := 3) (nr := 0) (np := 47) (as := [x_r 75, iv_c v318, iv_c 2147483649]) (rest := []) (lo1 := [x_r 75, iv_c v318, iv_c 2147483649]) (by decide +kernel) (by decide) (by decide +kernel) (x_rb_of (by decide +kernel)) rfl rfl (x_wr (by decide) (x_wi (by first | decide | omega) (x_wi (by decide) x_wn))) x_wn (by decide) rfl ?_
      refine x_aload (np := 1) (x := 0) (by decide +kernel) rfl (x_nc_le (by decide)) ?_
      have q348 : h 75 1 = 76 := by have z := jB (e := 1) 0 hJ rg_75_1_0_1 (by decide) (by decide); omega
      refine x_getR (np := 4) (x := 705) (f := 1) (q := 76) (by decide +kernel) (by decide) (by decide +kernel) q348 ?_
      refine x_const (np := 7) (x := 9223373112744083706) (a := 2147483898) (by decide +kernel) (by decide) (by decide) ?_
      refine x_const (np := 8) (x := 9223372056182128644) (a := 2147483652) (by decide +kernel) (by decide) (by decide) ?_
      refine x_iload (np := 9) (x := 1) (by decide +kernel) rfl (by first | decide | omega) ?_
      refine x_imul (np := 10) (x := 0) (i := 4) (j := u331) (v := (2147483648 + 4 * u331)) (by decide +kernel) (by first | decide | omega) (by first | decide | omega) (by first | decide | omega) (by first | decide | omega) (by decide) (by first | decide | omega) ?_
      refine x_iadd (np := 11) (x := 0) (v := (2147483898 + 4 * u331)) (by decide +kernel) (by decide) (by first | decide | omega) (by first | decide | omega) (by first | decide | omega) ?_
      refine x_iload (np := 12) (x := 2) (by decide +kernel) rfl (by decide) ?_
      refine x_iadd (np := 13) (x := 0) (v := (2147483899 + 4 * u331)) (by decide +kernel) (by first | decide | omega) (by decide) (by first | decide | omega) (by first | decide | omega) ?_
      have b350 := jB (e := (251 + 4 * u331)) u331 hJ rg_76_251_4_10 (by first | decide | omega) (by first | decide | omega)
      refine x_aldC (np := 14) (x := 0) (n := 1952) (i := (251 + 4 * u331)) (q := ((h 76 (251 + 4 * u331)))) (by decide +kernel) (by decide +kernel) (by first | decide | omega) (by first | decide | omega) (by decide) rfl (fun l351 => ?_)
      refine x_retI (np := 15) (x := 0) (by decide +kernel) l351 (Or.inl (by decide +kernel)) ⟨_, rfl, l351, ?_⟩
      refine x_iload (np := 48) (x := 2) (by decide +kernel) rfl la2 ?_
      refine x_icmp (k := 1) (tg := 55) (np := 51) (by decide +kernel) (by decide) l351 la2 (fun q352 => ?_) (fun q353 => ?_)
      · have q352 : ((h 76 (251 + 4 * u331))) ≠ a2 := q352
        refine x_const (np := 56) (x := 9223372039002259456) (a := 2147483648) (by decide +kernel) (by decide) (by decide) ?_
        refine x_istore (np := 57) (x := 3) (lo' := [x_r 75, iv_c a1, iv_c a2, iv_c 2147483648, iv_c v318]) (by decide +kernel) (by decide) (Nat.le_of_ble_eq_true rfl) rfl ?_
        refine x_iinc (np := 60) (i := 4) (j := 2147483649) (v := (1 + v318)) (lo' := [x_r 75, iv_c a1, iv_c a2, iv_c 2147483648, iv_c (1 + v318)]) (by decide +kernel) (by decide) (by decide) rfl (by first | decide | omega) (by first | decide | omega) (by first | decide | omega) rfl ?_
        refine x_goto (np := 63) (x := 5) (by decide +kernel) ?_
        exact i322 2147483648 (1 + v318) (by first | decide | omega) (by first | decide | omega) (by first | decide | omega)
      have q353 : ¬ (((h 76 (251 + 4 * u331))) ≠ a2) := q353
      refine x_const (np := 52) (x := 9223372043297226753) (a := 2147483649) (by decide +kernel) (by decide) (by decide) ?_
      refine x_goto (np := 55) (x := 56) (by decide +kernel) ?_
      refine x_istore (np := 57) (x := 3) (lo' := [x_r 75, iv_c a1, iv_c a2, iv_c 2147483649, iv_c v318]) (by decide +kernel) (by decide) (Nat.le_of_ble_eq_true rfl) rfl ?_
      refine x_iinc (np := 60) (i := 4) (j := 2147483649) (v := (1 + v318)) (lo' := [x_r 75, iv_c a1, iv_c a2, iv_c 2147483649, iv_c (1 + v318)]) (by decide +kernel) (by decide) (by decide) rfl (by first | decide | omega) (by first | decide | omega) (by first | decide | omega) rfl ?_
      refine x_goto (np := 63) (x := 5) (by decide +kernel) ?_
      exact i322 2147483649 (1 + v318) (by first | decide | omega) (by first | decide | omega) (by first | decide | omega)
  exact p320 _ 2147483648 2147483648 (Nat.lt_succ_self _) (by first | decide | omega) (by first | decide | omega)
set_option maxHeartbeats 0 in
/-- LentNamesModel.isAsked(II)Z -/
theorem c256_75_c0 {sc : Nat × Nat} {d a2 : Nat} {h : xh} (hJ : J h) (ba2 : 2147483648 ≤ a2 ∧ a2 ≤ 2147488831) (hr0 : 2147483648 ≤ (h 94 0)) : X sc 256 (d + 3) (xI fun r h' => h' = h ∧ (2147483648 ≤ r ∧ r ≤ 2147483649)) 0 0 0 [x_r 75, iv_c 2147483648, iv_c a2, 147573952589676412928, 147573952589676412928, 147573952589676412928, 147573952589676412928, 147573952589676412928] [] h := by
  have la2 : a2 < 4294967296 := by first | decide | omega
  have b1 := jB (e := 0) 0 hJ rg_94_0_1_6 (by first | decide | omega) (by first | decide | omega)
  refine x_iload (np := 1) (x := 2) (by decide +kernel) rfl la2 ?_
  refine x_nI (t := 0) (mj := 242) (n := 1) (rc := 0) (ml := 1) (nr := 0) (np := 4) (as := [iv_c a2]) (rest := []) (lo1 := [iv_c a2]) (by decide +kernel) (by decide) (by decide +kernel) (Or.inl rfl) rfl rfl (x_wi la2 x_wn) x_wn (by decide) rfl ?_
  refine x_iload (np := 1) (x := 0) (by decide +kernel) rfl la2 ?_
  refine x_const (np := 4) (x := 9223375749854004064) (a := 2147484512) (by decide +kernel) (by decide) (by decide) ?_
  obtain ⟨u2, q3⟩ : ∃ z, a2 = 2147483648 + z := ⟨a2 - 2147483648, by first | decide | omega⟩
  obtain ⟨u4, q5⟩ : ∃ z, z = u2 / 864 := ⟨_, rfl⟩
  refine x_div (np := 5) (i := u2) (j := 864) (by decide +kernel) (by first | decide | omega) (by decide) (by first | decide | omega) (by decide) ?_
  rw [← q5]
  refine x_retI (np := 6) (x := 0) (by decide +kernel) (by first | decide | omega) (Or.inl (by decide +kernel)) ⟨_, rfl, (by first | decide | omega), ?_⟩
  refine x_istore (np := 5) (x := 3) (lo' := [x_r 75, iv_c 2147483648, iv_c a2, iv_c (2147483648 + u4), 147573952589676412928, 147573952589676412928, 147573952589676412928, 147573952589676412928]) (by decide +kernel) (by first | decide | omega) (Nat.le_of_ble_eq_true rfl) rfl ?_
  refine x_iload (np := 6) (x := 2) (by decide +kernel) rfl la2 ?_
  refine x_nI (t := 0) (mj := 243) (n := 1) (rc := 0) (ml := 1) (nr := 0) (np := 9) (as := [iv_c a2]) (rest := []) (lo1 := [iv_c a2]) (by decide +kernel) (by decide) (by decide +kernel) (Or.inl rfl) rfl rfl (x_wi la2 x_wn) x_wn (by decide) rfl ?_
  refine x_iload (np := 1) (x := 0) (by decide +kernel) rfl la2 ?_
  refine x_const (np := 4) (x := 9223372657477550224) (a := 2147483792) (by decide +kernel) (by decide) (by decide) ?_
  obtain ⟨u6, q7⟩ : ∃ z, z = u2 / 144 := ⟨_, rfl⟩
  refine x_div (np := 5) (i := u2) (j := 144) (by decide +kernel) (by first | decide | omega) (by decide) (by first | decide | omega) (by decide) ?_
  rw [← q7]
  refine x_const (np := 7) (x := 9223372064772063238) (a := 2147483654) (by decide +kernel) (by decide) (by decide) ?_
  obtain ⟨u8, q9⟩ : ∃ z, z = u6 % 6 := ⟨_, rfl⟩
  refine x_rem (np := 8) (i := u6) (j := 6) (by decide +kernel) (by first | decide | omega) (by decide) (by first | decide | omega) (by decide) ?_
  rw [← q9]
  refine x_retI (np := 9) (x := 0) (by decide +kernel) (by first | decide | omega) (Or.inl (by decide +kernel)) ⟨_, rfl, (by first | decide | omega), ?_⟩
  refine x_istore (np := 11) (x := 4) (lo' := [x_r 75, iv_c 2147483648, iv_c a2, iv_c (2147483648 + u4), iv_c (2147483648 + u8), 147573952589676412928, 147573952589676412928, 147573952589676412928]) (by decide +kernel) (by first | decide | omega) (Nat.le_of_ble_eq_true rfl) rfl ?_
  refine x_iload (np := 12) (x := 2) (by decide +kernel) rfl la2 ?_
  refine x_nI (t := 0) (mj := 244) (n := 1) (rc := 0) (ml := 1) (nr := 0) (np := 15) (as := [iv_c a2]) (rest := []) (lo1 := [iv_c a2]) (by decide +kernel) (by decide) (by decide +kernel) (Or.inl rfl) rfl rfl (x_wi la2 x_wn) x_wn (by decide) rfl ?_
  refine x_iload (np := 1) (x := 0) (by decide +kernel) rfl la2 ?_
  refine x_const (np := 3) (x := 9223372090541867020) (a := 2147483660) (by decide +kernel) (by decide) (by decide) ?_
  obtain ⟨u10, q11⟩ : ∃ z, z = u2 / 12 := ⟨_, rfl⟩
  refine x_div (np := 4) (i := u2) (j := 12) (by decide +kernel) (by first | decide | omega) (by decide) (by first | decide | omega) (by decide) ?_
  rw [← q11]
  refine x_const (np := 6) (x := 9223372090541867020) (a := 2147483660) (by decide +kernel) (by decide) (by decide) ?_
  obtain ⟨u12, q13⟩ : ∃ z, z = u10 % 12 := ⟨_, rfl⟩
  refine x_rem (np := 7) (i := u10) (j := 12) (by decide +kernel) (by first | decide | omega) (by decide) (by first | decide | omega) (by decide) ?_
  rw [← q13]
  refine x_retI (np := 8) (x := 0) (by decide +kernel) (by first | decide | omega) (Or.inl (by decide +kernel)) ⟨_, rfl, (by first | decide | omega), ?_⟩
  refine x_istore (np := 17) (x := 5) (lo' := [x_r 75, iv_c 2147483648, iv_c a2, iv_c (2147483648 + u4), iv_c (2147483648 + u8), iv_c (2147483648 + u12), 147573952589676412928, 147573952589676412928]) (by decide +kernel) (by first | decide | omega) (Nat.le_of_ble_eq_true rfl) rfl ?_
  refine x_iload (np := 18) (x := 2) (by decide +kernel) rfl la2 ?_
  refine x_nI (t := 0) (mj := 245) (n := 1) (rc := 0) (ml := 1) (nr := 0) (np := 21) (as := [iv_c a2]) (rest := []) (lo1 := [iv_c a2]) (by decide +kernel) (by decide) (by decide +kernel) (Or.inl rfl) rfl rfl (x_wi la2 x_wn) x_wn (by decide) rfl ?_
  refine x_iload (np := 1) (x := 0) (by decide +kernel) rfl la2 ?_
  refine x_const (np := 3) (x := 9223372090541867020) (a := 2147483660) (by decide +kernel) (by decide) (by decide) ?_
  obtain ⟨u14, q15⟩ : ∃ z, z = u2 % 12 := ⟨_, rfl⟩
  refine x_rem (np := 4) (i := u2) (j := 12) (by decide +kernel) (by first | decide | omega) (by decide) (by first | decide | omega) (by decide) ?_
  rw [← q15]
  refine x_retI (np := 5) (x := 0) (by decide +kernel) (by first | decide | omega) (Or.inl (by decide +kernel)) ⟨_, rfl, (by first | decide | omega), ?_⟩
  refine x_istore (np := 23) (x := 6) (lo' := [x_r 75, iv_c 2147483648, iv_c a2, iv_c (2147483648 + u4), iv_c (2147483648 + u8), iv_c (2147483648 + u12), iv_c (2147483648 + u14), 147573952589676412928]) (by decide +kernel) (by first | decide | omega) (Nat.le_of_ble_eq_true rfl) rfl ?_
  refine x_aload (np := 24) (x := 0) (by decide +kernel) rfl (x_nc_le (by decide)) ?_
  have q16 : h 75 28 = 94 := by have z := jB (e := 28) 0 hJ rg_75_28_0_1 (by decide) (by decide); omega
  refine x_getR (np := 27) (x := 732) (f := 28) (q := 94) (by decide +kernel) (by decide) (by decide +kernel) q16 ?_
  refine x_iload (np := 28) (x := 1) (by decide +kernel) rfl (by decide) ?_
  refine x_aldC (np := 29) (x := 0) (n := 6) (i := 0) (q := (h 94 0)) (by decide +kernel) (by decide +kernel) (by first | decide | omega) (by first | decide | omega) (by decide) rfl (fun l17 => ?_)
  refine x_istore (np := 31) (x := 7) (lo' := [x_r 75, iv_c 2147483648, iv_c a2, iv_c (2147483648 + u4), iv_c (2147483648 + u8), iv_c (2147483648 + u12), iv_c (2147483648 + u14), iv_c (h 94 0)]) (by decide +kernel) l17 (Nat.le_of_ble_eq_true rfl) rfl ?_
  refine x_aload (np := 32) (x := 0) (by decide +kernel) rfl (x_nc_le (by decide)) ?_
  have b18 := jB (e := 33) 0 hJ rg_75_33_0_1 (by first | decide | omega) (by first | decide | omega)
  refine x_getC (np := 35) (x := 737) (f := 33) (q := (h 75 33)) (by decide +kernel) (by decide) (by decide +kernel) rfl (fun l19 => ?_)
  refine x_ifz (k := 1) (tg := 108) (np := 38) (by decide +kernel) (by decide) l19 (fun q20 => ?_) (fun q21 => ?_)
  · have q20 : (h 75 33) ≠ 2147483648 := q20
    refine x_iload (np := 110) (x := 7) (by decide +kernel) rfl l17 ?_
    refine x_const (np := 112) (x := 9223372468498989156) (a := 2147483748) (by decide +kernel) (by decide) (by decide) ?_
    refine x_icmp (k := 3) (tg := 161) (np := 115) (by decide +kernel) (by decide) l17 (by decide) (fun q22 => ?_) (fun q23 => ?_)
    · have q22 : 2147483748 ≤ (h 94 0) := q22
      refine x_iload (np := 163) (x := 4) (by decide +kernel) rfl (by first | decide | omega) ?_
      refine x_iload (np := 165) (x := 7) (by decide +kernel) rfl l17 ?_
      refine x_const (np := 167) (x := 9223372468498989156) (a := 2147483748) (by decide +kernel) (by decide) (by decide) ?_
      obtain ⟨v24, q25⟩ : ∃ z, z + 2147483748 = (h 94 0) + 2147483648 := ⟨(h 94 0) + 2147483648 - 2147483748, by first | decide | omega⟩
      refine x_isub (np := 168) (x := 0) (v := v24) (by decide +kernel) l17 (by decide) (by first | decide | omega) (by first | decide | omega) ?_
      refine x_icmp (k := 1) (tg := 202) (np := 171) (by decide +kernel) (by decide) (by first | decide | omega) (by first | decide | omega) (fun q26 => ?_) (fun q27 => ?_)
      · have q26 : (2147483648 + u8) ≠ v24 := q26
        refine x_const (np := 203) (x := 9223372039002259456) (a := 2147483648) (by decide +kernel) (by decide) (by decide) ?_
        refine x_retI (np := 204) (x := 0) (by decide +kernel) (by decide) (Or.inr ⟨by decide +kernel, by first | decide | omega, by first | decide | omega⟩) ⟨_, rfl, (by decide), ?_⟩
        exact ⟨rfl, (by first | decide | omega)⟩
      have q27 : ¬ ((2147483648 + u8) ≠ v24) := q27
      refine x_iload (np := 173) (x := 6) (by decide +kernel) rfl (by first | decide | omega) ?_
      refine x_aload (np := 174) (x := 0) (by decide +kernel) rfl (x_nc_le (by decide)) ?_
      have q28 : h 75 29 = 95 := by have z := jB (e := 29) 0 hJ rg_75_29_0_1 (by decide) (by decide); omega
      refine x_getR (np := 177) (x := 733) (f := 29) (q := 95) (by decide +kernel) (by decide) (by decide +kernel) q28 ?_
      refine x_iload (np := 178) (x := 1) (by decide +kernel) rfl (by decide) ?_
      have b29 := jB (e := 0) 0 hJ rg_95_0_1_6 (by first | decide | omega) (by first | decide | omega)
      refine x_aldC (np := 179) (x := 0) (n := 6) (i := 0) (q := (h 95 0)) (by decide +kernel) (by decide +kernel) (by first | decide | omega) (by first | decide | omega) (by decide) rfl (fun l30 => ?_)
      refine x_aload (np := 180) (x := 0) (by decide +kernel) rfl (x_nc_le (by decide)) ?_
      have b31 := jB (e := 31) 0 hJ rg_75_31_0_1 (by first | decide | omega) (by first | decide | omega)
      refine x_getC (np := 183) (x := 735) (f := 31) (q := (h 75 31)) (by decide +kernel) (by decide) (by decide +kernel) rfl (fun l32 => ?_)
      obtain ⟨v33, q34⟩ : ∃ z, z + (h 75 31) = (h 95 0) + 2147483648 := ⟨(h 95 0) + 2147483648 - (h 75 31), by first | decide | omega⟩
      refine x_isub (np := 184) (x := 0) (v := v33) (by decide +kernel) l30 l32 (by first | decide | omega) (by first | decide | omega) ?_
      refine x_icmp (k := 2) (tg := 202) (np := 187) (by decide +kernel) (by decide) (by first | decide | omega) (by first | decide | omega) (fun q35 => ?_) (fun q36 => ?_)
      · have q35 : (2147483648 + u14) < v33 := q35
        refine x_const (np := 203) (x := 9223372039002259456) (a := 2147483648) (by decide +kernel) (by decide) (by decide) ?_
        refine x_retI (np := 204) (x := 0) (by decide +kernel) (by decide) (Or.inr ⟨by decide +kernel, by first | decide | omega, by first | decide | omega⟩) ⟨_, rfl, (by decide), ?_⟩
        exact ⟨rfl, (by first | decide | omega)⟩
      have q36 : ¬ ((2147483648 + u14) < v33) := q36
      refine x_iload (np := 189) (x := 5) (by decide +kernel) rfl (by first | decide | omega) ?_
      refine x_aload (np := 190) (x := 0) (by decide +kernel) rfl (x_nc_le (by decide)) ?_
      have q37 : h 75 29 = 95 := by have z := jB (e := 29) 0 hJ rg_75_29_0_1 (by decide) (by decide); omega
      refine x_getR (np := 193) (x := 733) (f := 29) (q := 95) (by decide +kernel) (by decide) (by decide +kernel) q37 ?_
      refine x_iload (np := 194) (x := 1) (by decide +kernel) rfl (by decide) ?_
      refine x_aldC (np := 195) (x := 0) (n := 6) (i := 0) (q := (h 95 0)) (by decide +kernel) (by decide +kernel) (by first | decide | omega) (by first | decide | omega) (by decide) rfl (fun l38 => ?_)
      refine x_icmp (k := 4) (tg := 202) (np := 198) (by decide +kernel) (by decide) (by first | decide | omega) l30 (fun q39 => ?_) (fun q40 => ?_)
      · have q39 : (h 95 0) < (2147483648 + u12) := q39
        refine x_const (np := 203) (x := 9223372039002259456) (a := 2147483648) (by decide +kernel) (by decide) (by decide) ?_
        refine x_retI (np := 204) (x := 0) (by decide +kernel) (by decide) (Or.inr ⟨by decide +kernel, by first | decide | omega, by first | decide | omega⟩) ⟨_, rfl, (by decide), ?_⟩
        exact ⟨rfl, (by first | decide | omega)⟩
      have q40 : ¬ ((h 95 0) < (2147483648 + u12)) := q40
      refine x_const (np := 199) (x := 9223372043297226753) (a := 2147483649) (by decide +kernel) (by decide) (by decide) ?_
      refine x_goto (np := 202) (x := 203) (by decide +kernel) ?_
      refine x_retI (np := 204) (x := 0) (by decide +kernel) (by decide) (Or.inr ⟨by decide +kernel, by first | decide | omega, by first | decide | omega⟩) ⟨_, rfl, (by decide), ?_⟩
      exact ⟨rfl, (by first | decide | omega)⟩
    have q23 : ¬ (2147483748 ≤ (h 94 0)) := q23
    refine x_iload (np := 116) (x := 3) (by decide +kernel) rfl (by first | decide | omega) ?_
    refine x_aload (np := 117) (x := 0) (by decide +kernel) rfl (x_nc_le (by decide)) ?_
    refine x_iload (np := 119) (x := 7) (by decide +kernel) rfl l17 ?_
    refine x_const (np := 120) (x := 9223372039002259456) (a := 2147483648) (by decide +kernel) (by decide) (by decide) ?_
    refine x_nI (t := 6) (mj := 162) (n := 3) (rc := 12) (ml := 3) (nr := 1) (np := 123) (as := [x_r 75, iv_c (h 94 0), iv_c 2147483648]) (rest := [iv_c (2147483648 + u4)]) (lo1 := [x_r 75, iv_c (h 94 0), iv_c 2147483648]) (by decide +kernel) (by decide) (by decide +kernel) (x_rb_of (by decide +kernel)) rfl rfl (x_wr (by decide) (x_wi l17 (x_wi (by decide) x_wn))) (x_wi (by first | decide | omega) x_wn) (by decide) rfl ?_
    refine x_aload (np := 1) (x := 0) (by decide +kernel) rfl (x_nc_le (by decide)) ?_
    have q41 : h 75 1 = 76 := by have z := jB (e := 1) 0 hJ rg_75_1_0_1 (by decide) (by decide); omega
    refine x_getR (np := 4) (x := 705) (f := 1) (q := 76) (by decide +kernel) (by decide) (by decide +kernel) q41 ?_
    refine x_const (np := 7) (x := 9223372726197026976) (a := 2147483808) (by decide +kernel) (by decide) (by decide) ?_
    refine x_const (np := 8) (x := 9223372056182128644) (a := 2147483652) (by decide +kernel) (by decide) (by decide) ?_
    refine x_iload (np := 9) (x := 1) (by decide +kernel) rfl l17 ?_
    obtain ⟨u42, q43⟩ : ∃ z, (h 94 0) = 2147483648 + z := ⟨(h 94 0) - 2147483648, by first | decide | omega⟩
    refine x_imul (np := 10) (x := 0) (i := 4) (j := u42) (v := (2147483648 + 4 * u42)) (by decide +kernel) (by first | decide | omega) (by first | decide | omega) (by first | decide | omega) (by first | decide | omega) (by decide) l17 ?_
    refine x_iadd (np := 11) (x := 0) (v := (2147483808 + 4 * u42)) (by decide +kernel) (by decide) (by first | decide | omega) (by first | decide | omega) (by first | decide | omega) ?_
    refine x_iload (np := 12) (x := 2) (by decide +kernel) rfl (by decide) ?_
    refine x_iadd (np := 13) (x := 0) (v := (2147483808 + 4 * u42)) (by decide +kernel) (by first | decide | omega) (by decide) (by first | decide | omega) (by first | decide | omega) ?_
    refine x_aldC (np := 14) (x := 0) (n := 1952) (i := (160 + 4 * u42)) (q := ((h 76 (160 + 4 * u42)))) (by decide +kernel) (by decide +kernel) (by first | decide | omega) (by first | decide | omega) (by decide) rfl (fun l45 => ?_)
    refine x_retI (np := 15) (x := 0) (by decide +kernel) l45 (Or.inl (by decide +kernel)) ⟨_, rfl, l45, ?_⟩
    refine x_icmp (k := 1) (tg := 159) (np := 126) (by decide +kernel) (by decide) (by first | decide | omega) l45 (fun q46 => ?_) (fun q47 => ?_)
    · have q46 : (2147483648 + u4) ≠ ((h 76 (160 + 4 * u42))) := q46
      refine x_const (np := 160) (x := 9223372039002259456) (a := 2147483648) (by decide +kernel) (by decide) (by decide) ?_
      refine x_retI (np := 161) (x := 0) (by decide +kernel) (by decide) (Or.inr ⟨by decide +kernel, by first | decide | omega, by first | decide | omega⟩) ⟨_, rfl, (by decide), ?_⟩
      exact ⟨rfl, (by first | decide | omega)⟩
    have q47 : ¬ ((2147483648 + u4) ≠ ((h 76 (160 + 4 * u42)))) := q47
    refine x_iload (np := 128) (x := 4) (by decide +kernel) rfl (by first | decide | omega) ?_
    refine x_aload (np := 129) (x := 0) (by decide +kernel) rfl (x_nc_le (by decide)) ?_
    refine x_iload (np := 131) (x := 7) (by decide +kernel) rfl l17 ?_
    refine x_const (np := 132) (x := 9223372051887161347) (a := 2147483651) (by decide +kernel) (by decide) (by decide) ?_
    refine x_nI (t := 6) (mj := 162) (n := 3) (rc := 12) (ml := 3) (nr := 1) (np := 135) (as := [x_r 75, iv_c (h 94 0), iv_c 2147483651]) (rest := [iv_c (2147483648 + u8)]) (lo1 := [x_r 75, iv_c (h 94 0), iv_c 2147483651]) (by decide +kernel) (by decide) (by decide +kernel) (x_rb_of (by decide +kernel)) rfl rfl (x_wr (by decide) (x_wi l17 (x_wi (by decide) x_wn))) (x_wi (by first | decide | omega) x_wn) (by decide) rfl ?_
    refine x_aload (np := 1) (x := 0) (by decide +kernel) rfl (x_nc_le (by decide)) ?_
    have q48 : h 75 1 = 76 := by have z := jB (e := 1) 0 hJ rg_75_1_0_1 (by decide) (by decide); omega
    refine x_getR (np := 4) (x := 705) (f := 1) (q := 76) (by decide +kernel) (by decide) (by decide +kernel) q48 ?_
    refine x_const (np := 7) (x := 9223372726197026976) (a := 2147483808) (by decide +kernel) (by decide) (by decide) ?_
    refine x_const (np := 8) (x := 9223372056182128644) (a := 2147483652) (by decide +kernel) (by decide) (by decide) ?_
    refine x_iload (np := 9) (x := 1) (by decide +kernel) rfl l17 ?_
    refine x_imul (np := 10) (x := 0) (i := 4) (j := u42) (v := (2147483648 + 4 * u42)) (by decide +kernel) (by first | decide | omega) (by first | decide | omega) (by first | decide | omega) (by first | decide | omega) (by decide) l17 ?_
    refine x_iadd (np := 11) (x := 0) (v := (2147483808 + 4 * u42)) (by decide +kernel) (by decide) (by first | decide | omega) (by first | decide | omega) (by first | decide | omega) ?_
    refine x_iload (np := 12) (x := 2) (by decide +kernel) rfl (by decide) ?_
    refine x_iadd (np := 13) (x := 0) (v := (2147483811 + 4 * u42)) (by decide +kernel) (by first | decide | omega) (by decide) (by first | decide | omega) (by first | decide | omega) ?_
    refine x_aldC (np := 14) (x := 0) (n := 1952) (i := (163 + 4 * u42)) (q := ((h 76 (163 + 4 * u42)))) (by decide +kernel) (by decide +kernel) (by first | decide | omega) (by first | decide | omega) (by decide) rfl (fun l50 => ?_)
    refine x_retI (np := 15) (x := 0) (by decide +kernel) l50 (Or.inl (by decide +kernel)) ⟨_, rfl, l50, ?_⟩
    refine x_icmp (k := 1) (tg := 159) (np := 138) (by decide +kernel) (by decide) (by first | decide | omega) l50 (fun q51 => ?_) (fun q52 => ?_)
    · have q51 : (2147483648 + u8) ≠ ((h 76 (163 + 4 * u42))) := q51
      refine x_const (np := 160) (x := 9223372039002259456) (a := 2147483648) (by decide +kernel) (by decide) (by decide) ?_
      refine x_retI (np := 161) (x := 0) (by decide +kernel) (by decide) (Or.inr ⟨by decide +kernel, by first | decide | omega, by first | decide | omega⟩) ⟨_, rfl, (by decide), ?_⟩
      exact ⟨rfl, (by first | decide | omega)⟩
    have q52 : ¬ ((2147483648 + u8) ≠ ((h 76 (163 + 4 * u42)))) := q52
    refine x_aload (np := 139) (x := 0) (by decide +kernel) rfl (x_nc_le (by decide)) ?_
    refine x_iload (np := 141) (x := 7) (by decide +kernel) rfl l17 ?_
    refine x_const (np := 142) (x := 9223372047592194050) (a := 2147483650) (by decide +kernel) (by decide) (by decide) ?_
    refine x_nI (t := 6) (mj := 162) (n := 3) (rc := 12) (ml := 3) (nr := 0) (np := 145) (as := [x_r 75, iv_c (h 94 0), iv_c 2147483650]) (rest := []) (lo1 := [x_r 75, iv_c (h 94 0), iv_c 2147483650]) (by decide +kernel) (by decide) (by decide +kernel) (x_rb_of (by decide +kernel)) rfl rfl (x_wr (by decide) (x_wi l17 (x_wi (by decide) x_wn))) x_wn (by decide) rfl ?_
    refine x_aload (np := 1) (x := 0) (by decide +kernel) rfl (x_nc_le (by decide)) ?_
    have q53 : h 75 1 = 76 := by have z := jB (e := 1) 0 hJ rg_75_1_0_1 (by decide) (by decide); omega
    refine x_getR (np := 4) (x := 705) (f := 1) (q := 76) (by decide +kernel) (by decide) (by decide +kernel) q53 ?_
    refine x_const (np := 7) (x := 9223372726197026976) (a := 2147483808) (by decide +kernel) (by decide) (by decide) ?_
    refine x_const (np := 8) (x := 9223372056182128644) (a := 2147483652) (by decide +kernel) (by decide) (by decide) ?_
    refine x_iload (np := 9) (x := 1) (by decide +kernel) rfl l17 ?_
    refine x_imul (np := 10) (x := 0) (i := 4) (j := u42) (v := (2147483648 + 4 * u42)) (by decide +kernel) (by first | decide | omega) (by first | decide | omega) (by first | decide | omega) (by first | decide | omega) (by decide) l17 ?_
    refine x_iadd (np := 11) (x := 0) (v := (2147483808 + 4 * u42)) (by decide +kernel) (by decide) (by first | decide | omega) (by first | decide | omega) (by first | decide | omega) ?_
    refine x_iload (np := 12) (x := 2) (by decide +kernel) rfl (by decide) ?_
    refine x_iadd (np := 13) (x := 0) (v := (2147483810 + 4 * u42)) (by decide +kernel) (by first | decide | omega) (by decide) (by first | decide | omega) (by first | decide | omega) ?_
    refine x_aldC (np := 14) (x := 0) (n := 1952) (i := (162 + 4 * u42)) (q := ((h 76 (162 + 4 * u42)))) (by decide +kernel) (by decide +kernel) (by first | decide | omega) (by first | decide | omega) (by decide) rfl (fun l55 => ?_)
    refine x_retI (np := 15) (x := 0) (by decide +kernel) l55 (Or.inl (by decide +kernel)) ⟨_, rfl, l55, ?_⟩
    refine x_iload (np := 147) (x := 5) (by decide +kernel) rfl (by first | decide | omega) ?_
    refine x_iload (np := 149) (x := 6) (by decide +kernel) rfl (by first | decide | omega) ?_
    refine x_nI (t := 0) (mj := 153) (n := 3) (rc := 0) (ml := 3) (nr := 0) (np := 152) (as := [iv_c ((h 76 (162 + 4 * u42))), iv_c (2147483648 + u12), iv_c (2147483648 + u14)]) (rest := []) (lo1 := [iv_c ((h 76 (162 + 4 * u42))), iv_c (2147483648 + u12), iv_c (2147483648 + u14)]) (by decide +kernel) (by decide) (by decide +kernel) (Or.inl rfl) rfl rfl (x_wi l55 (x_wi (by first | decide | omega) (x_wi (by first | decide | omega) x_wn))) x_wn (by decide) rfl ?_
    refine x_iload (np := 1) (x := 0) (by decide +kernel) rfl l55 ?_
    refine x_iload (np := 2) (x := 1) (by decide +kernel) rfl (by first | decide | omega) ?_
    refine x_icmp (k := 2) (tg := 14) (np := 5) (by decide +kernel) (by decide) l55 (by first | decide | omega) (fun q56 => ?_) (fun q57 => ?_)
    · have q56 : ((h 76 (162 + 4 * u42))) < (2147483648 + u12) := q56
      refine x_const (np := 15) (x := 9223372039002259456) (a := 2147483648) (by decide +kernel) (by decide) (by decide) ?_
      refine x_retI (np := 16) (x := 0) (by decide +kernel) (by decide) (Or.inr ⟨by decide +kernel, by first | decide | omega, by first | decide | omega⟩) ⟨_, rfl, (by decide), ?_⟩
      refine x_ifz (k := 0) (tg := 159) (np := 155) (by decide +kernel) (by decide) (by decide) (fun q58 => ?_) (fun q59 => ?_)
      · have q58 : 2147483648 = 2147483648 := q58
        refine x_const (np := 160) (x := 9223372039002259456) (a := 2147483648) (by decide +kernel) (by decide) (by decide) ?_
        refine x_retI (np := 161) (x := 0) (by decide +kernel) (by decide) (Or.inr ⟨by decide +kernel, by first | decide | omega, by first | decide | omega⟩) ⟨_, rfl, (by decide), ?_⟩
        exact ⟨rfl, (by first | decide | omega)⟩
      have q59 : ¬ (2147483648 = 2147483648) := q59
      exfalso; omega
    have q57 : ¬ (((h 76 (162 + 4 * u42))) < (2147483648 + u12)) := q57
    refine x_iload (np := 6) (x := 0) (by decide +kernel) rfl l55 ?_
    refine x_iload (np := 7) (x := 2) (by decide +kernel) rfl (by first | decide | omega) ?_
    refine x_icmp (k := 4) (tg := 14) (np := 10) (by decide +kernel) (by decide) l55 (by first | decide | omega) (fun q60 => ?_) (fun q61 => ?_)
    · have q60 : (2147483648 + u14) < ((h 76 (162 + 4 * u42))) := q60
      refine x_const (np := 15) (x := 9223372039002259456) (a := 2147483648) (by decide +kernel) (by decide) (by decide) ?_
      refine x_retI (np := 16) (x := 0) (by decide +kernel) (by decide) (Or.inr ⟨by decide +kernel, by first | decide | omega, by first | decide | omega⟩) ⟨_, rfl, (by decide), ?_⟩
      refine x_ifz (k := 0) (tg := 159) (np := 155) (by decide +kernel) (by decide) (by decide) (fun q62 => ?_) (fun q63 => ?_)
      · have q62 : 2147483648 = 2147483648 := q62
        refine x_const (np := 160) (x := 9223372039002259456) (a := 2147483648) (by decide +kernel) (by decide) (by decide) ?_
        refine x_retI (np := 161) (x := 0) (by decide +kernel) (by decide) (Or.inr ⟨by decide +kernel, by first | decide | omega, by first | decide | omega⟩) ⟨_, rfl, (by decide), ?_⟩
        exact ⟨rfl, (by first | decide | omega)⟩
      have q63 : ¬ (2147483648 = 2147483648) := q63
      exfalso; omega
    have q61 : ¬ ((2147483648 + u14) < ((h 76 (162 + 4 * u42)))) := q61
    refine x_const (np := 11) (x := 9223372043297226753) (a := 2147483649) (by decide +kernel) (by decide) (by decide) ?_
    refine x_goto (np := 14) (x := 15) (by decide +kernel) ?_
    refine x_retI (np := 16) (x := 0) (by decide +kernel) (by decide) (Or.inr ⟨by decide +kernel, by first | decide | omega, by first | decide | omega⟩) ⟨_, rfl, (by decide), ?_⟩
    refine x_ifz (k := 0) (tg := 159) (np := 155) (by decide +kernel) (by decide) (by decide) (fun q64 => ?_) (fun q65 => ?_)
    · have q64 : 2147483649 = 2147483648 := q64
      exfalso; omega
    have q65 : ¬ (2147483649 = 2147483648) := q65
    refine x_const (np := 156) (x := 9223372043297226753) (a := 2147483649) (by decide +kernel) (by decide) (by decide) ?_
    refine x_goto (np := 159) (x := 160) (by decide +kernel) ?_
    refine x_retI (np := 161) (x := 0) (by decide +kernel) (by decide) (Or.inr ⟨by decide +kernel, by first | decide | omega, by first | decide | omega⟩) ⟨_, rfl, (by decide), ?_⟩
    exact ⟨rfl, (by first | decide | omega)⟩
  have q21 : ¬ ((h 75 33) ≠ 2147483648) := q21
  refine x_iload (np := 39) (x := 3) (by decide +kernel) rfl (by first | decide | omega) ?_
  refine x_aload (np := 40) (x := 0) (by decide +kernel) rfl (x_nc_le (by decide)) ?_
  refine x_iload (np := 42) (x := 7) (by decide +kernel) rfl l17 ?_
  refine x_const (np := 43) (x := 9223372039002259456) (a := 2147483648) (by decide +kernel) (by decide) (by decide) ?_
  refine x_nI (t := 6) (mj := 164) (n := 3) (rc := 12) (ml := 3) (nr := 1) (np := 46) (as := [x_r 75, iv_c (h 94 0), iv_c 2147483648]) (rest := [iv_c (2147483648 + u4)]) (lo1 := [x_r 75, iv_c (h 94 0), iv_c 2147483648]) (by decide +kernel) (by decide) (by decide +kernel) (x_rb_of (by decide +kernel)) rfl rfl (x_wr (by decide) (x_wi l17 (x_wi (by decide) x_wn))) (x_wi (by first | decide | omega) x_wn) (by decide) rfl ?_
  refine x_aload (np := 1) (x := 0) (by decide +kernel) rfl (x_nc_le (by decide)) ?_
  have q66 : h 75 1 = 76 := by have z := jB (e := 1) 0 hJ rg_75_1_0_1 (by decide) (by decide); omega
  refine x_getR (np := 4) (x := 705) (f := 1) (q := 76) (by decide +kernel) (by decide) (by decide +kernel) q66 ?_
  refine x_const (np := 7) (x := 9223373112744083706) (a := 2147483898) (by decide +kernel) (by decide) (by decide) ?_
  refine x_const (np := 8) (x := 9223372056182128644) (a := 2147483652) (by decide +kernel) (by decide) (by decide) ?_
  refine x_iload (np := 9) (x := 1) (by decide +kernel) rfl l17 ?_
  obtain ⟨u67, q68⟩ : ∃ z, (h 94 0) = 2147483648 + z := ⟨(h 94 0) - 2147483648, by first | decide | omega⟩
  refine x_imul (np := 10) (x := 0) (i := 4) (j := u67) (v := (2147483648 + 4 * u67)) (by decide +kernel) (by first | decide | omega) (by first | decide | omega) (by first | decide | omega) (by first | decide | omega) (by decide) l17 ?_
  refine x_iadd (np := 11) (x := 0) (v := (2147483898 + 4 * u67)) (by decide +kernel) (by decide) (by first | decide | omega) (by first | decide | omega) (by first | decide | omega) ?_
  refine x_iload (np := 12) (x := 2) (by decide +kernel) rfl (by decide) ?_
  refine x_iadd (np := 13) (x := 0) (v := (2147483898 + 4 * u67)) (by decide +kernel) (by first | decide | omega) (by decide) (by first | decide | omega) (by first | decide | omega) ?_
  refine x_aldC (np := 14) (x := 0) (n := 1952) (i := (250 + 4 * u67)) (q := ((h 76 (250 + 4 * u67)))) (by decide +kernel) (by decide +kernel) (by first | decide | omega) (by first | decide | omega) (by decide) rfl (fun l70 => ?_)
  refine x_retI (np := 15) (x := 0) (by decide +kernel) l70 (Or.inl (by decide +kernel)) ⟨_, rfl, l70, ?_⟩
  refine x_icmp (k := 1) (tg := 106) (np := 49) (by decide +kernel) (by decide) (by first | decide | omega) l70 (fun q71 => ?_) (fun q72 => ?_)
  · have q71 : (2147483648 + u4) ≠ ((h 76 (250 + 4 * u67))) := q71
    refine x_const (np := 107) (x := 9223372039002259456) (a := 2147483648) (by decide +kernel) (by decide) (by decide) ?_
    refine x_retI (np := 108) (x := 0) (by decide +kernel) (by decide) (Or.inr ⟨by decide +kernel, by first | decide | omega, by first | decide | omega⟩) ⟨_, rfl, (by decide), ?_⟩
    exact ⟨rfl, (by first | decide | omega)⟩
  have q72 : ¬ ((2147483648 + u4) ≠ ((h 76 (250 + 4 * u67)))) := q72
  refine x_aload (np := 50) (x := 0) (by decide +kernel) rfl (x_nc_le (by decide)) ?_
  refine x_iload (np := 52) (x := 7) (by decide +kernel) rfl l17 ?_
  refine x_const (np := 53) (x := 9223372047592194050) (a := 2147483650) (by decide +kernel) (by decide) (by decide) ?_
  refine x_nI (t := 6) (mj := 164) (n := 3) (rc := 12) (ml := 3) (nr := 0) (np := 56) (as := [x_r 75, iv_c (h 94 0), iv_c 2147483650]) (rest := []) (lo1 := [x_r 75, iv_c (h 94 0), iv_c 2147483650]) (by decide +kernel) (by decide) (by decide +kernel) (x_rb_of (by decide +kernel)) rfl rfl (x_wr (by decide) (x_wi l17 (x_wi (by decide) x_wn))) x_wn (by decide) rfl ?_
  refine x_aload (np := 1) (x := 0) (by decide +kernel) rfl (x_nc_le (by decide)) ?_
  have q73 : h 75 1 = 76 := by have z := jB (e := 1) 0 hJ rg_75_1_0_1 (by decide) (by decide); omega
  refine x_getR (np := 4) (x := 705) (f := 1) (q := 76) (by decide +kernel) (by decide) (by decide +kernel) q73 ?_
  refine x_const (np := 7) (x := 9223373112744083706) (a := 2147483898) (by decide +kernel) (by decide) (by decide) ?_
  refine x_const (np := 8) (x := 9223372056182128644) (a := 2147483652) (by decide +kernel) (by decide) (by decide) ?_
  refine x_iload (np := 9) (x := 1) (by decide +kernel) rfl l17 ?_
  refine x_imul (np := 10) (x := 0) (i := 4) (j := u67) (v := (2147483648 + 4 * u67)) (by decide +kernel) (by first | decide | omega) (by first | decide | omega) (by first | decide | omega) (by first | decide | omega) (by decide) l17 ?_
  refine x_iadd (np := 11) (x := 0) (v := (2147483898 + 4 * u67)) (by decide +kernel) (by decide) (by first | decide | omega) (by first | decide | omega) (by first | decide | omega) ?_
  refine x_iload (np := 12) (x := 2) (by decide +kernel) rfl (by decide) ?_
  refine x_iadd (np := 13) (x := 0) (v := (2147483900 + 4 * u67)) (by decide +kernel) (by first | decide | omega) (by decide) (by first | decide | omega) (by first | decide | omega) ?_
  refine x_aldC (np := 14) (x := 0) (n := 1952) (i := (252 + 4 * u67)) (q := ((h 76 (252 + 4 * u67)))) (by decide +kernel) (by decide +kernel) (by first | decide | omega) (by first | decide | omega) (by decide) rfl (fun l75 => ?_)
  refine x_retI (np := 15) (x := 0) (by decide +kernel) l75 (Or.inl (by decide +kernel)) ⟨_, rfl, l75, ?_⟩
  refine x_iload (np := 58) (x := 4) (by decide +kernel) rfl (by first | decide | omega) ?_
  refine x_any (np := 59) (k9 := 4) (by decide +kernel) (by decide) l75 (by first | decide | omega) (fun v76 l77 => ?_)
  refine x_const (np := 60) (x := 9223372043297226753) (a := 2147483649) (by decide +kernel) (by decide) (by decide) ?_
  refine x_mask (np := 61) (m := 1) (k9 := 2) (by decide +kernel) l77 (by decide +kernel) (by decide) (by decide) (by decide) (fun u78 l79 => ?_)
  refine x_const (np := 62) (x := 9223372043297226753) (a := 2147483649) (by decide +kernel) (by decide) (by decide) ?_
  refine x_icmp (k := 1) (tg := 106) (np := 65) (by decide +kernel) (by decide) (by first | decide | omega) (by decide) (fun q80 => ?_) (fun q81 => ?_)
  · have q80 : (2147483648 + u78) ≠ 2147483649 := q80
    refine x_const (np := 107) (x := 9223372039002259456) (a := 2147483648) (by decide +kernel) (by decide) (by decide) ?_
    refine x_retI (np := 108) (x := 0) (by decide +kernel) (by decide) (Or.inr ⟨by decide +kernel, by first | decide | omega, by first | decide | omega⟩) ⟨_, rfl, (by decide), ?_⟩
    exact ⟨rfl, (by first | decide | omega)⟩
  have q81 : ¬ ((2147483648 + u78) ≠ 2147483649) := q81
  refine x_aload (np := 66) (x := 0) (by decide +kernel) rfl (x_nc_le (by decide)) ?_
  refine x_iload (np := 68) (x := 7) (by decide +kernel) rfl l17 ?_
  refine x_const (np := 69) (x := 9223372043297226753) (a := 2147483649) (by decide +kernel) (by decide) (by decide) ?_
  refine x_nI (t := 6) (mj := 164) (n := 3) (rc := 12) (ml := 3) (nr := 0) (np := 72) (as := [x_r 75, iv_c (h 94 0), iv_c 2147483649]) (rest := []) (lo1 := [x_r 75, iv_c (h 94 0), iv_c 2147483649]) (by decide +kernel) (by decide) (by decide +kernel) (x_rb_of (by decide +kernel)) rfl rfl (x_wr (by decide) (x_wi l17 (x_wi (by decide) x_wn))) x_wn (by decide) rfl ?_
  refine x_aload (np := 1) (x := 0) (by decide +kernel) rfl (x_nc_le (by decide)) ?_
  have q82 : h 75 1 = 76 := by have z := jB (e := 1) 0 hJ rg_75_1_0_1 (by decide) (by decide); omega
  refine x_getR (np := 4) (x := 705) (f := 1) (q := 76) (by decide +kernel) (by decide) (by decide +kernel) q82 ?_
  refine x_const (np := 7) (x := 9223373112744083706) (a := 2147483898) (by decide +kernel) (by decide) (by decide) ?_
  refine x_const (np := 8) (x := 9223372056182128644) (a := 2147483652) (by decide +kernel) (by decide) (by decide) ?_
  refine x_iload (np := 9) (x := 1) (by decide +kernel) rfl l17 ?_
  refine x_imul (np := 10) (x := 0) (i := 4) (j := u67) (v := (2147483648 + 4 * u67)) (by decide +kernel) (by first | decide | omega) (by first | decide | omega) (by first | decide | omega) (by first | decide | omega) (by decide) l17 ?_
  refine x_iadd (np := 11) (x := 0) (v := (2147483898 + 4 * u67)) (by decide +kernel) (by decide) (by first | decide | omega) (by first | decide | omega) (by first | decide | omega) ?_
  refine x_iload (np := 12) (x := 2) (by decide +kernel) rfl (by decide) ?_
  refine x_iadd (np := 13) (x := 0) (v := (2147483899 + 4 * u67)) (by decide +kernel) (by first | decide | omega) (by decide) (by first | decide | omega) (by first | decide | omega) ?_
  refine x_aldC (np := 14) (x := 0) (n := 1952) (i := (251 + 4 * u67)) (q := ((h 76 (251 + 4 * u67)))) (by decide +kernel) (by decide +kernel) (by first | decide | omega) (by first | decide | omega) (by decide) rfl (fun l84 => ?_)
  refine x_retI (np := 15) (x := 0) (by decide +kernel) l84 (Or.inl (by decide +kernel)) ⟨_, rfl, l84, ?_⟩
  refine x_iload (np := 74) (x := 5) (by decide +kernel) rfl (by first | decide | omega) ?_
  refine x_iload (np := 76) (x := 6) (by decide +kernel) rfl (by first | decide | omega) ?_
  refine x_nI (t := 0) (mj := 153) (n := 3) (rc := 0) (ml := 3) (nr := 0) (np := 79) (as := [iv_c ((h 76 (251 + 4 * u67))), iv_c (2147483648 + u12), iv_c (2147483648 + u14)]) (rest := []) (lo1 := [iv_c ((h 76 (251 + 4 * u67))), iv_c (2147483648 + u12), iv_c (2147483648 + u14)]) (by decide +kernel) (by decide) (by decide +kernel) (Or.inl rfl) rfl rfl (x_wi l84 (x_wi (by first | decide | omega) (x_wi (by first | decide | omega) x_wn))) x_wn (by decide) rfl ?_
  refine x_iload (np := 1) (x := 0) (by decide +kernel) rfl l84 ?_
  refine x_iload (np := 2) (x := 1) (by decide +kernel) rfl (by first | decide | omega) ?_
  refine x_icmp (k := 2) (tg := 14) (np := 5) (by decide +kernel) (by decide) l84 (by first | decide | omega) (fun q85 => ?_) (fun q86 => ?_)
  · have q85 : ((h 76 (251 + 4 * u67))) < (2147483648 + u12) := q85
    refine x_const (np := 15) (x := 9223372039002259456) (a := 2147483648) (by decide +kernel) (by decide) (by decide) ?_
    refine x_retI (np := 16) (x := 0) (by decide +kernel) (by decide) (Or.inr ⟨by decide +kernel, by first | decide | omega, by first | decide | omega⟩) ⟨_, rfl, (by decide), ?_⟩
    refine x_ifz (k := 0) (tg := 106) (np := 82) (by decide +kernel) (by decide) (by decide) (fun q87 => ?_) (fun q88 => ?_)
    · have q87 : 2147483648 = 2147483648 := q87
      refine x_const (np := 107) (x := 9223372039002259456) (a := 2147483648) (by decide +kernel) (by decide) (by decide) ?_
      refine x_retI (np := 108) (x := 0) (by decide +kernel) (by decide) (Or.inr ⟨by decide +kernel, by first | decide | omega, by first | decide | omega⟩) ⟨_, rfl, (by decide), ?_⟩
      exact ⟨rfl, (by first | decide | omega)⟩
    have q88 : ¬ (2147483648 = 2147483648) := q88
    exfalso; omega
  have q86 : ¬ (((h 76 (251 + 4 * u67))) < (2147483648 + u12)) := q86
  refine x_iload (np := 6) (x := 0) (by decide +kernel) rfl l84 ?_
  refine x_iload (np := 7) (x := 2) (by decide +kernel) rfl (by first | decide | omega) ?_
  refine x_icmp (k := 4) (tg := 14) (np := 10) (by decide +kernel) (by decide) l84 (by first | decide | omega) (fun q89 => ?_) (fun q90 => ?_)
  · have q89 : (2147483648 + u14) < ((h 76 (251 + 4 * u67))) := q89
    refine x_const (np := 15) (x := 9223372039002259456) (a := 2147483648) (by decide +kernel) (by decide) (by decide) ?_
    refine x_retI (np := 16) (x := 0) (by decide +kernel) (by decide) (Or.inr ⟨by decide +kernel, by first | decide | omega, by first | decide | omega⟩) ⟨_, rfl, (by decide), ?_⟩
    refine x_ifz (k := 0) (tg := 106) (np := 82) (by decide +kernel) (by decide) (by decide) (fun q91 => ?_) (fun q92 => ?_)
    · have q91 : 2147483648 = 2147483648 := q91
      refine x_const (np := 107) (x := 9223372039002259456) (a := 2147483648) (by decide +kernel) (by decide) (by decide) ?_
      refine x_retI (np := 108) (x := 0) (by decide +kernel) (by decide) (Or.inr ⟨by decide +kernel, by first | decide | omega, by first | decide | omega⟩) ⟨_, rfl, (by decide), ?_⟩
      exact ⟨rfl, (by first | decide | omega)⟩
    have q92 : ¬ (2147483648 = 2147483648) := q92
    exfalso; omega
  have q90 : ¬ ((2147483648 + u14) < ((h 76 (251 + 4 * u67)))) := q90
  refine x_const (np := 11) (x := 9223372043297226753) (a := 2147483649) (by decide +kernel) (by decide) (by decide) ?_
  refine x_goto (np := 14) (x := 15) (by decide +kernel) ?_
  refine x_retI (np := 16) (x := 0) (by decide +kernel) (by decide) (Or.inr ⟨by decide +kernel, by first | decide | omega, by first | decide | omega⟩) ⟨_, rfl, (by decide), ?_⟩
  refine x_ifz (k := 0) (tg := 106) (np := 82) (by decide +kernel) (by decide) (by decide) (fun q93 => ?_) (fun q94 => ?_)
  · have q93 : 2147483649 = 2147483648 := q93
    exfalso; omega
  have q94 : ¬ (2147483649 = 2147483648) := q94
  refine x_aload (np := 83) (x := 0) (by decide +kernel) rfl (x_nc_le (by decide)) ?_
  refine x_iload (np := 84) (x := 3) (by decide +kernel) rfl (by first | decide | omega) ?_
  refine x_iload (np := 86) (x := 5) (by decide +kernel) rfl (by first | decide | omega) ?_
  refine x_cP (t := 6) (mj := 255) (n := 3) (rc := 12) (ml := 5) (nr := 0) (np := 89) (as := [x_r 75, iv_c (2147483648 + u4), iv_c (2147483648 + u12)]) (rest := []) (lo1 := [x_r 75, iv_c (2147483648 + u4), iv_c (2147483648 + u12), 147573952589676412928, 147573952589676412928]) (by decide +kernel) (by decide) (by decide +kernel) (x_rb_of (by decide +kernel)) rfl rfl (x_wr (by decide) (x_wi (by first | decide | omega) (x_wi (by first | decide | omega) x_wn))) x_wn (by decide) rfl (c255_75 hJ  (by first | decide | omega) (by first | decide | omega)) (fun v95 l96 q97 => ?_)
  refine x_ifz (k := 0) (tg := 106) (np := 92) (by decide +kernel) (by decide) l96 (fun q98 => ?_) (fun q99 => ?_)
  · have q98 : v95 = 2147483648 := q98
    refine x_const (np := 107) (x := 9223372039002259456) (a := 2147483648) (by decide +kernel) (by decide) (by decide) ?_
    refine x_retI (np := 108) (x := 0) (by decide +kernel) (by decide) (Or.inr ⟨by decide +kernel, by first | decide | omega, by first | decide | omega⟩) ⟨_, rfl, (by decide), ?_⟩
    exact ⟨rfl, (by first | decide | omega)⟩
  have q99 : ¬ (v95 = 2147483648) := q99
  refine x_aload (np := 93) (x := 0) (by decide +kernel) rfl (x_nc_le (by decide)) ?_
  refine x_iload (np := 94) (x := 3) (by decide +kernel) rfl (by first | decide | omega) ?_
  refine x_iload (np := 96) (x := 6) (by decide +kernel) rfl (by first | decide | omega) ?_
  refine x_cP (t := 6) (mj := 255) (n := 3) (rc := 12) (ml := 5) (nr := 0) (np := 99) (as := [x_r 75, iv_c (2147483648 + u4), iv_c (2147483648 + u14)]) (rest := []) (lo1 := [x_r 75, iv_c (2147483648 + u4), iv_c (2147483648 + u14), 147573952589676412928, 147573952589676412928]) (by decide +kernel) (by decide) (by decide +kernel) (x_rb_of (by decide +kernel)) rfl rfl (x_wr (by decide) (x_wi (by first | decide | omega) (x_wi (by first | decide | omega) x_wn))) x_wn (by decide) rfl (c255_75 hJ  (by first | decide | omega) (by first | decide | omega)) (fun v100 l101 q102 => ?_)
  refine x_ifz (k := 0) (tg := 106) (np := 102) (by decide +kernel) (by decide) l101 (fun q103 => ?_) (fun q104 => ?_)
  · have q103 : v100 = 2147483648 := q103
    refine x_const (np := 107) (x := 9223372039002259456) (a := 2147483648) (by decide +kernel) (by decide) (by decide) ?_
    refine x_retI (np := 108) (x := 0) (by decide +kernel) (by decide) (Or.inr ⟨by decide +kernel, by first | decide | omega, by first | decide | omega⟩) ⟨_, rfl, (by decide), ?_⟩
    exact ⟨rfl, (by first | decide | omega)⟩
  have q104 : ¬ (v100 = 2147483648) := q104
  refine x_const (np := 103) (x := 9223372043297226753) (a := 2147483649) (by decide +kernel) (by decide) (by decide) ?_
  refine x_goto (np := 106) (x := 107) (by decide +kernel) ?_
  refine x_retI (np := 108) (x := 0) (by decide +kernel) (by decide) (Or.inr ⟨by decide +kernel, by first | decide | omega, by first | decide | omega⟩) ⟨_, rfl, (by decide), ?_⟩
  exact ⟨rfl, (by first | decide | omega)⟩
set_option maxHeartbeats 0 in
/-- LentNamesModel.canBe(I)Z -/
theorem c247_75 {sc : Nat × Nat} {d a1 : Nat} {h : xh} (hJ : J h) (ba1 : 2147483648 ≤ a1 ∧ a1 ≤ 2147488831) : X sc 247 (d + 1) (xI fun r h' => h' = h ∧ (2147483648 ≤ r ∧ r ≤ 2147483649)) 0 0 0 [x_r 75, iv_c a1, 147573952589676412928, 147573952589676412928, 147573952589676412928, 147573952589676412928] [] h := by
  have la1 : a1 < 4294967296 := by first | decide | omega
  refine x_iload (np := 1) (x := 1) (by decide +kernel) rfl la1 ?_
  refine x_nI (t := 0) (mj := 242) (n := 1) (rc := 0) (ml := 1) (nr := 0) (np := 4) (as := [iv_c a1]) (rest := []) (lo1 := [iv_c a1]) (by decide +kernel) (by decide) (by decide +kernel) (Or.inl rfl) rfl rfl (x_wi la1 x_wn) x_wn (by decide) rfl ?_
  refine x_iload (np := 1) (x := 0) (by decide +kernel) rfl la1 ?_
  refine x_const (np := 4) (x := 9223375749854004064) (a := 2147484512) (by decide +kernel) (by decide) (by decide) ?_
  obtain ⟨u1, q2⟩ : ∃ z, a1 = 2147483648 + z := ⟨a1 - 2147483648, by first | decide | omega⟩
  obtain ⟨u3, q4⟩ : ∃ z, z = u1 / 864 := ⟨_, rfl⟩
  refine x_div (np := 5) (i := u1) (j := 864) (by decide +kernel) (by first | decide | omega) (by decide) (by first | decide | omega) (by decide) ?_
  rw [← q4]
  refine x_retI (np := 6) (x := 0) (by decide +kernel) (by first | decide | omega) (Or.inl (by decide +kernel)) ⟨_, rfl, (by first | decide | omega), ?_⟩
  refine x_istore (np := 5) (x := 2) (lo' := [x_r 75, iv_c a1, iv_c (2147483648 + u3), 147573952589676412928, 147573952589676412928, 147573952589676412928]) (by decide +kernel) (by first | decide | omega) (Nat.le_of_ble_eq_true rfl) rfl ?_
  refine x_iload (np := 6) (x := 1) (by decide +kernel) rfl la1 ?_
  refine x_nI (t := 0) (mj := 243) (n := 1) (rc := 0) (ml := 1) (nr := 0) (np := 9) (as := [iv_c a1]) (rest := []) (lo1 := [iv_c a1]) (by decide +kernel) (by decide) (by decide +kernel) (Or.inl rfl) rfl rfl (x_wi la1 x_wn) x_wn (by decide) rfl ?_
  refine x_iload (np := 1) (x := 0) (by decide +kernel) rfl la1 ?_
  refine x_const (np := 4) (x := 9223372657477550224) (a := 2147483792) (by decide +kernel) (by decide) (by decide) ?_
  obtain ⟨u5, q6⟩ : ∃ z, z = u1 / 144 := ⟨_, rfl⟩
  refine x_div (np := 5) (i := u1) (j := 144) (by decide +kernel) (by first | decide | omega) (by decide) (by first | decide | omega) (by decide) ?_
  rw [← q6]
  refine x_const (np := 7) (x := 9223372064772063238) (a := 2147483654) (by decide +kernel) (by decide) (by decide) ?_
  obtain ⟨u7, q8⟩ : ∃ z, z = u5 % 6 := ⟨_, rfl⟩
  refine x_rem (np := 8) (i := u5) (j := 6) (by decide +kernel) (by first | decide | omega) (by decide) (by first | decide | omega) (by decide) ?_
  rw [← q8]
  refine x_retI (np := 9) (x := 0) (by decide +kernel) (by first | decide | omega) (Or.inl (by decide +kernel)) ⟨_, rfl, (by first | decide | omega), ?_⟩
  refine x_istore (np := 10) (x := 3) (lo' := [x_r 75, iv_c a1, iv_c (2147483648 + u3), iv_c (2147483648 + u7), 147573952589676412928, 147573952589676412928]) (by decide +kernel) (by first | decide | omega) (Nat.le_of_ble_eq_true rfl) rfl ?_
  refine x_iload (np := 11) (x := 2) (by decide +kernel) rfl (by first | decide | omega) ?_
  refine x_aload (np := 12) (x := 0) (by decide +kernel) rfl (x_nc_le (by decide)) ?_
  refine x_nI (t := 6) (mj := 157) (n := 1) (rc := 12) (ml := 1) (nr := 1) (np := 15) (as := [x_r 75]) (rest := [iv_c (2147483648 + u3)]) (lo1 := [x_r 75]) (by decide +kernel) (by decide) (by decide +kernel) (x_rb_of (by decide +kernel)) rfl rfl (x_wr (by decide) x_wn) (x_wi (by first | decide | omega) x_wn) (by decide) rfl ?_
  refine x_aload (np := 1) (x := 0) (by decide +kernel) rfl (x_nc_le (by decide)) ?_
  have q9 : h 75 1 = 76 := by have z := jB (e := 1) 0 hJ rg_75_1_0_1 (by decide) (by decide); omega
  refine x_getR (np := 4) (x := 705) (f := 1) (q := 76) (by decide +kernel) (by decide) (by decide +kernel) q9 ?_
  refine x_const (np := 5) (x := 9223372039002259456) (a := 2147483648) (by decide +kernel) (by decide) (by decide) ?_
  have b10 := jB (e := 0) 0 hJ rg_76_0_0_1 (by first | decide | omega) (by first | decide | omega)
  refine x_aldC (np := 6) (x := 0) (n := 1952) (i := 0) (q := (h 76 0)) (by decide +kernel) (by decide +kernel) (by first | decide | omega) (by first | decide | omega) (by decide) rfl (fun l11 => ?_)
  refine x_retI (np := 7) (x := 0) (by decide +kernel) l11 (Or.inl (by decide +kernel)) ⟨_, rfl, l11, ?_⟩
  refine x_icmp (k := 3) (tg := 37) (np := 18) (by decide +kernel) (by decide) (by first | decide | omega) l11 (fun q12 => ?_) (fun q13 => ?_)
  · have q12 : (h 76 0) ≤ (2147483648 + u3) := q12
    refine x_const (np := 38) (x := 9223372039002259456) (a := 2147483648) (by decide +kernel) (by decide) (by decide) ?_
    refine x_retI (np := 39) (x := 0) (by decide +kernel) (by decide) (Or.inr ⟨by decide +kernel, by first | decide | omega, by first | decide | omega⟩) ⟨_, rfl, (by decide), ?_⟩
    exact ⟨rfl, (by first | decide | omega)⟩
  have q13 : ¬ ((h 76 0) ≤ (2147483648 + u3)) := q13
  refine x_iload (np := 19) (x := 3) (by decide +kernel) rfl (by first | decide | omega) ?_
  refine x_aload (np := 20) (x := 0) (by decide +kernel) rfl (x_nc_le (by decide)) ?_
  refine x_nI (t := 6) (mj := 157) (n := 1) (rc := 12) (ml := 1) (nr := 1) (np := 23) (as := [x_r 75]) (rest := [iv_c (2147483648 + u7)]) (lo1 := [x_r 75]) (by decide +kernel) (by decide) (by decide +kernel) (x_rb_of (by decide +kernel)) rfl rfl (x_wr (by decide) x_wn) (x_wi (by first | decide | omega) x_wn) (by decide) rfl ?_
  refine x_aload (np := 1) (x := 0) (by decide +kernel) rfl (x_nc_le (by decide)) ?_
  have q14 : h 75 1 = 76 := by have z := jB (e := 1) 0 hJ rg_75_1_0_1 (by decide) (by decide); omega
  refine x_getR (np := 4) (x := 705) (f := 1) (q := 76) (by decide +kernel) (by decide) (by decide +kernel) q14 ?_
  refine x_const (np := 5) (x := 9223372039002259456) (a := 2147483648) (by decide +kernel) (by decide) (by decide) ?_
  refine x_aldC (np := 6) (x := 0) (n := 1952) (i := 0) (q := (h 76 0)) (by decide +kernel) (by decide +kernel) (by first | decide | omega) (by first | decide | omega) (by decide) rfl (fun l15 => ?_)
  refine x_retI (np := 7) (x := 0) (by decide +kernel) l11 (Or.inl (by decide +kernel)) ⟨_, rfl, l11, ?_⟩
  refine x_icmp (k := 3) (tg := 37) (np := 26) (by decide +kernel) (by decide) (by first | decide | omega) l11 (fun q16 => ?_) (fun q17 => ?_)
  · have q16 : (h 76 0) ≤ (2147483648 + u7) := q16
    refine x_const (np := 38) (x := 9223372039002259456) (a := 2147483648) (by decide +kernel) (by decide) (by decide) ?_
    refine x_retI (np := 39) (x := 0) (by decide +kernel) (by decide) (Or.inr ⟨by decide +kernel, by first | decide | omega, by first | decide | omega⟩) ⟨_, rfl, (by decide), ?_⟩
    exact ⟨rfl, (by first | decide | omega)⟩
  have q17 : ¬ ((h 76 0) ≤ (2147483648 + u7)) := q17
  refine x_iload (np := 27) (x := 1) (by decide +kernel) rfl la1 ?_
  refine x_nI (t := 0) (mj := 244) (n := 1) (rc := 0) (ml := 1) (nr := 0) (np := 30) (as := [iv_c a1]) (rest := []) (lo1 := [iv_c a1]) (by decide +kernel) (by decide) (by decide +kernel) (Or.inl rfl) rfl rfl (x_wi la1 x_wn) x_wn (by decide) rfl ?_
  refine x_iload (np := 1) (x := 0) (by decide +kernel) rfl la1 ?_
  refine x_const (np := 3) (x := 9223372090541867020) (a := 2147483660) (by decide +kernel) (by decide) (by decide) ?_
  obtain ⟨u18, q19⟩ : ∃ z, z = u1 / 12 := ⟨_, rfl⟩
  refine x_div (np := 4) (i := u1) (j := 12) (by decide +kernel) (by first | decide | omega) (by decide) (by first | decide | omega) (by decide) ?_
  rw [← q19]
  refine x_const (np := 6) (x := 9223372090541867020) (a := 2147483660) (by decide +kernel) (by decide) (by decide) ?_
  obtain ⟨u20, q21⟩ : ∃ z, z = u18 % 12 := ⟨_, rfl⟩
  refine x_rem (np := 7) (i := u18) (j := 12) (by decide +kernel) (by first | decide | omega) (by decide) (by first | decide | omega) (by decide) ?_
  rw [← q21]
  refine x_retI (np := 8) (x := 0) (by decide +kernel) (by first | decide | omega) (Or.inl (by decide +kernel)) ⟨_, rfl, (by first | decide | omega), ?_⟩
  refine x_iload (np := 31) (x := 1) (by decide +kernel) rfl la1 ?_
  refine x_nI (t := 0) (mj := 245) (n := 1) (rc := 0) (ml := 1) (nr := 1) (np := 34) (as := [iv_c a1]) (rest := [iv_c (2147483648 + u20)]) (lo1 := [iv_c a1]) (by decide +kernel) (by decide) (by decide +kernel) (Or.inl rfl) rfl rfl (x_wi la1 x_wn) (x_wi (by first | decide | omega) x_wn) (by decide) rfl ?_
  refine x_iload (np := 1) (x := 0) (by decide +kernel) rfl la1 ?_
  refine x_const (np := 3) (x := 9223372090541867020) (a := 2147483660) (by decide +kernel) (by decide) (by decide) ?_
  obtain ⟨u22, q23⟩ : ∃ z, z = u1 % 12 := ⟨_, rfl⟩
  refine x_rem (np := 4) (i := u1) (j := 12) (by decide +kernel) (by first | decide | omega) (by decide) (by first | decide | omega) (by decide) ?_
  rw [← q23]
  refine x_retI (np := 5) (x := 0) (by decide +kernel) (by first | decide | omega) (Or.inl (by decide +kernel)) ⟨_, rfl, (by first | decide | omega), ?_⟩
  refine x_icmp (k := 5) (tg := 39) (np := 37) (by decide +kernel) (by decide) (by first | decide | omega) (by first | decide | omega) (fun q24 => ?_) (fun q25 => ?_)
  · have q24 : (2147483648 + u20) ≤ (2147483648 + u22) := q24
    refine x_const (np := 40) (x := 9223372043297226753) (a := 2147483649) (by decide +kernel) (by decide) (by decide) ?_
    refine x_istore (np := 42) (x := 4) (lo' := [x_r 75, iv_c a1, iv_c (2147483648 + u3), iv_c (2147483648 + u7), iv_c 2147483649, 147573952589676412928]) (by decide +kernel) (by decide) (Nat.le_of_ble_eq_true rfl) rfl ?_
    refine x_iload (np := 43) (x := 1) (by decide +kernel) rfl la1 ?_
    refine x_nI (t := 0) (mj := 244) (n := 1) (rc := 0) (ml := 1) (nr := 0) (np := 46) (as := [iv_c a1]) (rest := []) (lo1 := [iv_c a1]) (by decide +kernel) (by decide) (by decide +kernel) (Or.inl rfl) rfl rfl (x_wi la1 x_wn) x_wn (by decide) rfl ?_
    refine x_iload (np := 1) (x := 0) (by decide +kernel) rfl la1 ?_
    refine x_const (np := 3) (x := 9223372090541867020) (a := 2147483660) (by decide +kernel) (by decide) (by decide) ?_
    obtain ⟨u26, q27⟩ : ∃ z, z = u1 / 12 := ⟨_, rfl⟩
    refine x_div (np := 4) (i := u1) (j := 12) (by decide +kernel) (by first | decide | omega) (by decide) (by first | decide | omega) (by decide) ?_
    rw [← q27]
    refine x_const (np := 6) (x := 9223372090541867020) (a := 2147483660) (by decide +kernel) (by decide) (by decide) ?_
    obtain ⟨u28, q29⟩ : ∃ z, z = u26 % 12 := ⟨_, rfl⟩
    refine x_rem (np := 7) (i := u26) (j := 12) (by decide +kernel) (by first | decide | omega) (by decide) (by first | decide | omega) (by decide) ?_
    rw [← q29]
    refine x_retI (np := 8) (x := 0) (by decide +kernel) (by first | decide | omega) (Or.inl (by decide +kernel)) ⟨_, rfl, (by first | decide | omega), ?_⟩
    refine x_istore (np := 48) (x := 5) (lo' := [x_r 75, iv_c a1, iv_c (2147483648 + u3), iv_c (2147483648 + u7), iv_c 2147483649, iv_c (2147483648 + u28)]) (by decide +kernel) (by first | decide | omega) (Nat.le_of_ble_eq_true rfl) rfl ?_
    have p92 : ∀ (n : Nat) (v88 : Nat) (v90 : Nat), 4294967296 - v90 < n → (2147483648 ≤ v88 ∧ v88 ≤ 2147483649) → (2147483648 ≤ v90 ∧ v90 ≤ 2147483660) → X sc 247 (d + 1) (xI fun r h' => h' = h ∧ (2147483648 ≤ r ∧ r ≤ 2147483649)) 0 0 48 [x_r 75, iv_c a1, iv_c (2147483648 + u3), iv_c (2147483648 + u7), iv_c v88, iv_c v90] [] h := by
      intro n
      induction n with
      | zero => intro v88 v90 q93; exact absurd q93 (Nat.not_lt_zero _)
      | succ n i94 =>
        intro v88 v90 q93 b89 b91
        refine x_iload (np := 50) (x := 5) (by decide +kernel) rfl (by first | decide | omega) ?_
        refine x_iload (np := 51) (x := 1) (by decide +kernel) rfl la1 ?_
        refine x_nI (t := 0) (mj := 245) (n := 1) (rc := 0) (ml := 1) (nr := 1) (np := 54) (as := [iv_c a1]) (rest := [iv_c v90]) (lo1 := [iv_c a1]) (by decide +kernel) (by decide) (by decide +kernel) (Or.inl rfl) rfl rfl (x_wi la1 x_wn) (x_wi (by first | decide | omega) x_wn) (by decide) rfl ?_
        refine x_iload (np := 1) (x := 0) (by decide +kernel) rfl la1 ?_
        refine x_const (np := 3) (x := 9223372090541867020) (a := 2147483660) (by decide +kernel) (by decide) (by decide) ?_
        obtain ⟨u95, q96⟩ : ∃ z, z = u1 % 12 := ⟨_, rfl⟩
        refine x_rem (np := 4) (i := u1) (j := 12) (by decide +kernel) (by first | decide | omega) (by decide) (by first | decide | omega) (by decide) ?_
        rw [← q96]
        refine x_retI (np := 5) (x := 0) (by decide +kernel) (by first | decide | omega) (Or.inl (by decide +kernel)) ⟨_, rfl, (by first | decide | omega), ?_⟩
        refine x_icmp (k := 4) (tg := 111) (np := 57) (by decide +kernel) (by decide) (by first | decide | omega) (by first | decide | omega) (fun q97 => ?_) (fun q98 => ?_)
        · have q97 : (2147483648 + u95) < v90 := q97
          refine x_iload (np := 113) (x := 4) (by decide +kernel) rfl (by first | decide | omega) ?_
          refine x_retI (np := 114) (x := 0) (by decide +kernel) (by first | decide | omega) (Or.inr ⟨by decide +kernel, by first | decide | omega, by first | decide | omega⟩) ⟨_, rfl, (by first | decide | omega), ?_⟩
          exact ⟨rfl, (by first | decide | omega)⟩
        have q98 : ¬ ((2147483648 + u95) < v90) := q98
        refine x_iload (np := 59) (x := 4) (by decide +kernel) rfl (by first | decide | omega) ?_
        refine x_ifz (k := 0) (tg := 102) (np := 62) (by decide +kernel) (by decide) (by first | decide | omega) (fun q99 => ?_) (fun q100 => ?_)
        · have q99 : v88 = 2147483648 := q99
          refine x_const (np := 103) (x := 9223372039002259456) (a := 2147483648) (by decide +kernel) (by decide) (by decide) ?_
          refine x_istore (np := 105) (x := 4) (lo' := [x_r 75, iv_c a1, iv_c (2147483648 + u3), iv_c (2147483648 + u7), iv_c 2147483648, iv_c v90]) (by decide +kernel) (by decide) (Nat.le_of_ble_eq_true rfl) rfl ?_
          refine x_iinc (np := 108) (i := 5) (j := 2147483649) (v := (1 + v90)) (lo' := [x_r 75, iv_c a1, iv_c (2147483648 + u3), iv_c (2147483648 + u7), iv_c 2147483648, iv_c (1 + v90)]) (by decide +kernel) (by decide) (by decide) rfl (by first | decide | omega) (by first | decide | omega) (by first | decide | omega) rfl ?_
          refine x_goto (np := 111) (x := 48) (by decide +kernel) ?_
          exact i94 2147483648 (1 + v90) (by first | decide | omega) (by first | decide | omega) (by first | decide | omega)
        have q100 : ¬ (v88 = 2147483648) := q100
        refine x_aload (np := 63) (x := 0) (by decide +kernel) rfl (x_nc_le (by decide)) ?_
        refine x_iload (np := 64) (x := 3) (by decide +kernel) rfl (by first | decide | omega) ?_
        refine x_iload (np := 66) (x := 5) (by decide +kernel) rfl (by first | decide | omega) ?_
        refine x_cP (t := 6) (mj := 200) (n := 3) (rc := 12) (ml := 3) (nr := 0) (np := 69) (as := [x_r 75, iv_c (2147483648 + u7), iv_c v90]) (rest := []) (lo1 := [x_r 75, iv_c (2147483648 + u7), iv_c v90]) (by decide +kernel) (by decide) (by decide +kernel) (x_rb_of (by decide +kernel)) rfl rfl (x_wr (by decide) (x_wi (by first | decide | omega) (x_wi (by first | decide | omega) x_wn))) x_wn (by decide) rfl (c200_75 hJ  (by first | decide | omega) (by first | decide | omega)) (fun v101 l102 q103 => ?_)
        refine x_ifz (k := 0) (tg := 102) (np := 72) (by decide +kernel) (by decide) l102 (fun q104 => ?_) (fun q105 => ?_)
        · have q104 : v101 = 2147483648 := q104
          refine x_const (np := 103) (x := 9223372039002259456) (a := 2147483648) (by decide +kernel) (by decide) (by decide) ?_
          refine x_istore (np := 105) (x := 4) (lo' := [x_r 75, iv_c a1, iv_c (2147483648 + u3), iv_c (2147483648 + u7), iv_c 2147483648, iv_c v90]) (by decide +kernel) (by decide) (Nat.le_of_ble_eq_true rfl) rfl ?_
          refine x_iinc (np := 108) (i := 5) (j := 2147483649) (v := (1 + v90)) (lo' := [x_r 75, iv_c a1, iv_c (2147483648 + u3), iv_c (2147483648 + u7), iv_c 2147483648, iv_c (1 + v90)]) (by decide +kernel) (by decide) (by decide) rfl (by first | decide | omega) (by first | decide | omega) (by first | decide | omega) rfl ?_
          refine x_goto (np := 111) (x := 48) (by decide +kernel) ?_
          exact i94 2147483648 (1 + v90) (by first | decide | omega) (by first | decide | omega) (by first | decide | omega)
        have q105 : ¬ (v101 = 2147483648) := q105
        refine x_aload (np := 73) (x := 0) (by decide +kernel) rfl (x_nc_le (by decide)) ?_
        refine x_iload (np := 74) (x := 2) (by decide +kernel) rfl (by first | decide | omega) ?_
        refine x_iload (np := 76) (x := 5) (by decide +kernel) rfl (by first | decide | omega) ?_
        refine x_nI (t := 6) (mj := 211) (n := 3) (rc := 12) (ml := 3) (nr := 0) (np := 79) (as := [x_r 75, iv_c (2147483648 + u3), iv_c v90]) (rest := []) (lo1 := [x_r 75, iv_c (2147483648 + u3), iv_c v90]) (by decide +kernel) (by decide) (by decide +kernel) (x_rb_of (by decide +kernel)) rfl rfl (x_wr (by decide) (x_wi (by first | decide | omega) (x_wi (by first | decide | omega) x_wn))) x_wn (by decide) rfl ?_
        refine x_aload (np := 1) (x := 0) (by decide +kernel) rfl (x_nc_le (by decide)) ?_
        have q106 : h 75 20 = 87 := by have z := jB (e := 20) 0 hJ rg_75_20_0_1 (by decide) (by decide); omega
        refine x_getR (np := 4) (x := 724) (f := 20) (q := 87) (by decide +kernel) (by decide) (by decide +kernel) q106 ?_
        refine x_const (np := 6) (x := 9223372090541867020) (a := 2147483660) (by decide +kernel) (by decide) (by decide) ?_
        refine x_iload (np := 7) (x := 1) (by decide +kernel) rfl (by first | decide | omega) ?_
        refine x_imul (np := 8) (x := 0) (i := 12) (j := u3) (v := (2147483648 + 12 * u3)) (by decide +kernel) (by first | decide | omega) (by first | decide | omega) (by first | decide | omega) (by first | decide | omega) (by decide) (by first | decide | omega) ?_
        refine x_iload (np := 9) (x := 2) (by decide +kernel) rfl (by first | decide | omega) ?_
        refine x_iadd (np := 10) (x := 0) (v := (12 * u3 + v90)) (by decide +kernel) (by first | decide | omega) (by first | decide | omega) (by first | decide | omega) (by first | decide | omega) ?_
        obtain ⟨u108, q109⟩ : ∃ z, v90 = 2147483648 + z := ⟨v90 - 2147483648, by first | decide | omega⟩
        have b110 := jB (e := (12 * u3 + u108)) (12 * u3 + u108) hJ rg_87_0_1_72 (by first | decide | omega) (by first | decide | omega)
        refine x_aldC (np := 11) (x := 0) (n := 72) (i := (12 * u3 + u108)) (q := ((h 87 (12 * u3 + u108)))) (by decide +kernel) (by decide +kernel) (by first | decide | omega) (by first | decide | omega) (by decide) rfl (fun l111 => ?_)
        refine x_retI (np := 12) (x := 0) (by decide +kernel) l111 (Or.inl (by decide +kernel)) ⟨_, rfl, l111, ?_⟩
        refine x_iload (np := 80) (x := 3) (by decide +kernel) rfl (by first | decide | omega) ?_
        refine x_icmp (k := 0) (tg := 102) (np := 83) (by decide +kernel) (by decide) l111 (by first | decide | omega) (fun q112 => ?_) (fun q113 => ?_)
        · have q112 : ((h 87 (12 * u3 + u108))) = (2147483648 + u7) := q112
          refine x_const (np := 103) (x := 9223372039002259456) (a := 2147483648) (by decide +kernel) (by decide) (by decide) ?_
          refine x_istore (np := 105) (x := 4) (lo' := [x_r 75, iv_c a1, iv_c (2147483648 + u3), iv_c (2147483648 + u7), iv_c 2147483648, iv_c v90]) (by decide +kernel) (by decide) (Nat.le_of_ble_eq_true rfl) rfl ?_
          refine x_iinc (np := 108) (i := 5) (j := 2147483649) (v := (1 + v90)) (lo' := [x_r 75, iv_c a1, iv_c (2147483648 + u3), iv_c (2147483648 + u7), iv_c 2147483648, iv_c (1 + v90)]) (by decide +kernel) (by decide) (by decide) rfl (by first | decide | omega) (by first | decide | omega) (by first | decide | omega) rfl ?_
          refine x_goto (np := 111) (x := 48) (by decide +kernel) ?_
          exact i94 2147483648 (1 + v90) (by first | decide | omega) (by first | decide | omega) (by first | decide | omega)
        have q113 : ¬ (((h 87 (12 * u3 + u108))) = (2147483648 + u7)) := q113
        refine x_aload (np := 84) (x := 0) (by decide +kernel) rfl (x_nc_le (by decide)) ?_
        have q114 : h 75 24 = 91 := by have z := jB (e := 24) 0 hJ rg_75_24_0_1 (by decide) (by decide); omega
        refine x_getR (np := 87) (x := 728) (f := 24) (q := 91) (by decide +kernel) (by decide) (by decide +kernel) q114 ?_
        refine x_const (np := 89) (x := 9223372090541867020) (a := 2147483660) (by decide +kernel) (by decide) (by decide) ?_
        refine x_iload (np := 90) (x := 2) (by decide +kernel) rfl (by first | decide | omega) ?_
        refine x_imul (np := 91) (x := 0) (i := 12) (j := u3) (v := (2147483648 + 12 * u3)) (by decide +kernel) (by first | decide | omega) (by first | decide | omega) (by first | decide | omega) (by first | decide | omega) (by decide) (by first | decide | omega) ?_
        refine x_iload (np := 93) (x := 5) (by decide +kernel) rfl (by first | decide | omega) ?_
        refine x_iadd (np := 94) (x := 0) (v := (12 * u3 + v90)) (by decide +kernel) (by first | decide | omega) (by first | decide | omega) (by first | decide | omega) (by first | decide | omega) ?_
        have b116 := jB (e := (12 * u3 + u108)) (12 * u3 + u108) hJ rg_91_0_1_72 (by first | decide | omega) (by first | decide | omega)
        refine x_aldC (np := 95) (x := 0) (n := 72) (i := (12 * u3 + u108)) (q := ((h 91 (12 * u3 + u108)))) (by decide +kernel) (by decide +kernel) (by first | decide | omega) (by first | decide | omega) (by decide) rfl (fun l117 => ?_)
        refine x_ifz (k := 3) (tg := 102) (np := 98) (by decide +kernel) (by decide) l117 (fun q118 => ?_) (fun q119 => ?_)
        · have q118 : 2147483648 ≤ ((h 91 (12 * u3 + u108))) := q118
          refine x_const (np := 103) (x := 9223372039002259456) (a := 2147483648) (by decide +kernel) (by decide) (by decide) ?_
          refine x_istore (np := 105) (x := 4) (lo' := [x_r 75, iv_c a1, iv_c (2147483648 + u3), iv_c (2147483648 + u7), iv_c 2147483648, iv_c v90]) (by decide +kernel) (by decide) (Nat.le_of_ble_eq_true rfl) rfl ?_
          refine x_iinc (np := 108) (i := 5) (j := 2147483649) (v := (1 + v90)) (lo' := [x_r 75, iv_c a1, iv_c (2147483648 + u3), iv_c (2147483648 + u7), iv_c 2147483648, iv_c (1 + v90)]) (by decide +kernel) (by decide) (by decide) rfl (by first | decide | omega) (by first | decide | omega) (by first | decide | omega) rfl ?_
          refine x_goto (np := 111) (x := 48) (by decide +kernel) ?_
          exact i94 2147483648 (1 + v90) (by first | decide | omega) (by first | decide | omega) (by first | decide | omega)
        have q119 : ¬ (2147483648 ≤ ((h 91 (12 * u3 + u108)))) := q119
        refine x_const (np := 99) (x := 9223372043297226753) (a := 2147483649) (by decide +kernel) (by decide) (by decide) ?_
        refine x_goto (np := 102) (x := 103) (by decide +kernel) ?_
        refine x_istore (np := 105) (x := 4) (lo' := [x_r 75, iv_c a1, iv_c (2147483648 + u3), iv_c (2147483648 + u7), iv_c 2147483649, iv_c v90]) (by decide +kernel) (by decide) (Nat.le_of_ble_eq_true rfl) rfl ?_
        refine x_iinc (np := 108) (i := 5) (j := 2147483649) (v := (1 + v90)) (lo' := [x_r 75, iv_c a1, iv_c (2147483648 + u3), iv_c (2147483648 + u7), iv_c 2147483649, iv_c (1 + v90)]) (by decide +kernel) (by decide) (by decide) rfl (by first | decide | omega) (by first | decide | omega) (by first | decide | omega) rfl ?_
        refine x_goto (np := 111) (x := 48) (by decide +kernel) ?_
        exact i94 2147483649 (1 + v90) (by first | decide | omega) (by first | decide | omega) (by first | decide | omega)
    exact p92 _ 2147483649 (2147483648 + u28) (Nat.lt_succ_self _) (by first | decide | omega) (by first | decide | omega)
  have q25 : ¬ ((2147483648 + u20) ≤ (2147483648 + u22)) := q25
  refine x_const (np := 38) (x := 9223372039002259456) (a := 2147483648) (by decide +kernel) (by decide) (by decide) ?_
  refine x_retI (np := 39) (x := 0) (by decide +kernel) (by decide) (Or.inr ⟨by decide +kernel, by first | decide | omega, by first | decide | omega⟩) ⟨_, rfl, (by decide), ?_⟩
  exact ⟨rfl, (by first | decide | omega)⟩
set_option maxHeartbeats 0 in
/-- LentNamesModel.nextOf(I)I -/
theorem c257_75_c0 {sc : Nat × Nat} {d  : Nat} {h : xh} (hJ : J h) (hr0 : 2147483648 ≤ (h 94 0)) : X sc 257 (d + 4) (xI fun r h' => h' = h ∧ (2147483647 ≤ r ∧ r ≤ 2147488831)) 0 0 0 [x_r 75, iv_c 2147483648, 147573952589676412928] [] h := by
  have b1 := jB (e := 0) 0 hJ rg_94_0_1_6 (by first | decide | omega) (by first | decide | omega)
  refine x_aload (np := 1) (x := 0) (by decide +kernel) rfl (x_nc_le (by decide)) ?_
  have q2 : h 75 27 = 93 := by have z := jB (e := 27) 0 hJ rg_75_27_0_1 (by decide) (by decide); omega
  refine x_getR (np := 4) (x := 731) (f := 27) (q := 93) (by decide +kernel) (by decide) (by decide +kernel) q2 ?_
  refine x_iload (np := 5) (x := 1) (by decide +kernel) rfl (by decide) ?_
  have b3 := jB (e := 0) 0 hJ rg_93_0_1_6 (by first | decide | omega) (by first | decide | omega)
  refine x_aldC (np := 6) (x := 0) (n := 6) (i := 0) (q := (h 93 0)) (by decide +kernel) (by decide +kernel) (by first | decide | omega) (by first | decide | omega) (by decide) rfl (fun l4 => ?_)
  refine x_const (np := 7) (x := 9223372043297226753) (a := 2147483649) (by decide +kernel) (by decide) (by decide) ?_
  refine x_iadd (np := 8) (x := 0) (v := (1 + (h 93 0))) (by decide +kernel) l4 (by decide) (by first | decide | omega) (by first | decide | omega) ?_
  refine x_istore (np := 9) (x := 2) (lo' := [x_r 75, iv_c 2147483648, iv_c (1 + (h 93 0))]) (by decide +kernel) (by first | decide | omega) (Nat.le_of_ble_eq_true rfl) rfl ?_
  have p21 : ∀ (n : Nat) (v19 : Nat), 4294967296 - v19 < n → (2147483648 ≤ v19 ∧ v19 ≤ 2147488832) → X sc 257 (d + 4) (xI fun r h' => h' = h ∧ (2147483647 ≤ r ∧ r ≤ 2147488831)) 0 0 9 [x_r 75, iv_c 2147483648, iv_c v19] [] h := by
    intro n
    induction n with
    | zero => intro v19 q22; exact absurd q22 (Nat.not_lt_zero _)
    | succ n i23 =>
      intro v19 q22 b20
      refine x_iload (np := 10) (x := 2) (by decide +kernel) rfl (by first | decide | omega) ?_
      refine x_const (np := 13) (x := 9223394304112727104) (a := 2147488832) (by decide +kernel) (by decide) (by decide) ?_
      refine x_icmp (k := 3) (tg := 39) (np := 16) (by decide +kernel) (by decide) (by first | decide | omega) (by decide) (fun q24 => ?_) (fun q25 => ?_)
      · have q24 : 2147488832 ≤ v19 := q24
        refine x_iload (np := 40) (x := 2) (by decide +kernel) rfl (by first | decide | omega) ?_
        refine x_const (np := 43) (x := 9223394304112727104) (a := 2147488832) (by decide +kernel) (by decide) (by decide) ?_
        refine x_icmp (k := 3) (tg := 50) (np := 46) (by decide +kernel) (by decide) (by first | decide | omega) (by decide) (fun q26 => ?_) (fun q27 => ?_)
        · have q26 : 2147488832 ≤ v19 := q26
          refine x_const (np := 51) (x := 9223372034707292159) (a := 2147483647) (by decide +kernel) (by decide) (by decide) ?_
          refine x_retI (np := 52) (x := 0) (by decide +kernel) (by decide) (Or.inl (by decide +kernel)) ⟨_, rfl, (by decide), ?_⟩
          exact ⟨rfl, (by first | decide | omega)⟩
        have q27 : ¬ (2147488832 ≤ v19) := q27
        exfalso; omega
      have q25 : ¬ (2147488832 ≤ v19) := q25
      refine x_aload (np := 17) (x := 0) (by decide +kernel) rfl (x_nc_le (by decide)) ?_
      refine x_iload (np := 18) (x := 1) (by decide +kernel) rfl (by decide) ?_
      refine x_iload (np := 19) (x := 2) (by decide +kernel) rfl (by first | decide | omega) ?_
      refine x_cP (t := 6) (mj := 256) (n := 3) (rc := 12) (ml := 8) (nr := 0) (np := 22) (as := [x_r 75, iv_c 2147483648, iv_c v19]) (rest := []) (lo1 := [x_r 75, iv_c 2147483648, iv_c v19, 147573952589676412928, 147573952589676412928, 147573952589676412928, 147573952589676412928, 147573952589676412928]) (by decide +kernel) (by decide) (by decide +kernel) (x_rb_of (by decide +kernel)) rfl rfl (x_wr (by decide) (x_wi (by decide) (x_wi (by first | decide | omega) x_wn))) x_wn (by decide) rfl (c256_75_c0 hJ   (by first | decide | omega) (by first | decide | omega)) (fun v28 l29 q30 => ?_)
      refine x_ifz (k := 0) (tg := 33) (np := 25) (by decide +kernel) (by decide) l29 (fun q31 => ?_) (fun q32 => ?_)
      · have q31 : v28 = 2147483648 := q31
        refine x_iinc (np := 36) (i := 2) (j := 2147483649) (v := (1 + v19)) (lo' := [x_r 75, iv_c 2147483648, iv_c (1 + v19)]) (by decide +kernel) (by decide) (by decide) rfl (by first | decide | omega) (by first | decide | omega) (by first | decide | omega) rfl ?_
        refine x_goto (np := 39) (x := 9) (by decide +kernel) ?_
        exact i23 (1 + v19) (by first | decide | omega) (by first | decide | omega)
      have q32 : ¬ (v28 = 2147483648) := q32
      refine x_aload (np := 26) (x := 0) (by decide +kernel) rfl (x_nc_le (by decide)) ?_
      refine x_iload (np := 27) (x := 2) (by decide +kernel) rfl (by first | decide | omega) ?_
      refine x_cP (t := 6) (mj := 247) (n := 2) (rc := 12) (ml := 6) (nr := 0) (np := 30) (as := [x_r 75, iv_c v19]) (rest := []) (lo1 := [x_r 75, iv_c v19, 147573952589676412928, 147573952589676412928, 147573952589676412928, 147573952589676412928]) (by decide +kernel) (by decide) (by decide +kernel) (x_rb_of (by decide +kernel)) rfl rfl (x_wr (by decide) (x_wi (by first | decide | omega) x_wn)) x_wn (by decide) rfl (c247_75 hJ  (by first | decide | omega)) (fun v33 l34 q35 => ?_)
      refine x_ifz (k := 1) (tg := 39) (np := 33) (by decide +kernel) (by decide) l34 (fun q36 => ?_) (fun q37 => ?_)
      · have q36 : v33 ≠ 2147483648 := q36
        refine x_iload (np := 40) (x := 2) (by decide +kernel) rfl (by first | decide | omega) ?_
        refine x_const (np := 43) (x := 9223394304112727104) (a := 2147488832) (by decide +kernel) (by decide) (by decide) ?_
        refine x_icmp (k := 3) (tg := 50) (np := 46) (by decide +kernel) (by decide) (by first | decide | omega) (by decide) (fun q38 => ?_) (fun q39 => ?_)
        · have q38 : 2147488832 ≤ v19 := q38
          exfalso; omega
        have q39 : ¬ (2147488832 ≤ v19) := q39
        refine x_iload (np := 47) (x := 2) (by decide +kernel) rfl (by first | decide | omega) ?_
        refine x_goto (np := 50) (x := 51) (by decide +kernel) ?_
        refine x_retI (np := 52) (x := 0) (by decide +kernel) (by first | decide | omega) (Or.inl (by decide +kernel)) ⟨_, rfl, (by first | decide | omega), ?_⟩
        exact ⟨rfl, (by first | decide | omega)⟩
      have q37 : ¬ (v33 ≠ 2147483648) := q37
      refine x_iinc (np := 36) (i := 2) (j := 2147483649) (v := (1 + v19)) (lo' := [x_r 75, iv_c 2147483648, iv_c (1 + v19)]) (by decide +kernel) (by decide) (by decide) rfl (by first | decide | omega) (by first | decide | omega) (by first | decide | omega) rfl ?_
      refine x_goto (np := 39) (x := 9) (by decide +kernel) ?_
      exact i23 (1 + v19) (by first | decide | omega) (by first | decide | omega)
  exact p21 _ (1 + (h 93 0)) (Nat.lt_succ_self _) (by first | decide | omega)
set_option maxHeartbeats 0 in
/-- LentNamesModel.goes(I)Z -/
theorem c259_75_c1 {sc : Nat × Nat} {d  : Nat} {h : xh} (hJ : J h) (hr0 : (h 75 30) ≤ 2147503648) : X sc 259 (d + 5) (xI fun r h' => J h' ∧ Fr 39376260300801 h h' ∧ (2147483648 ≤ r ∧ r ≤ 2147483649) ∧ (r = 2147483649 → h' 75 30 ≤ 2147503648)) 0 0 0 [x_r 75, iv_c 2147483649, 147573952589676412928, 147573952589676412928, 147573952589676412928, 147573952589676412928] [] h := by
  have hF := Fr.refl 39376260300801 h
  have b1 := jB (e := 30) 0 hJ rg_75_30_0_1 (by first | decide | omega) (by first | decide | omega)
  refine x_aload (np := 1) (x := 0) (by decide +kernel) rfl (x_nc_le (by decide)) ?_
  refine x_const (np := 2) (x := 9223372039002259456) (a := 2147483648) (by decide +kernel) (by decide) (by decide) ?_
  refine x_putI (np := 5) (x := 738) (f := 34) (by decide +kernel) (by decide +kernel) (by decide) (Or.inl (by decide)) ?_
  have j3 := jU (e := 34) (v := 2147483648) 0 hJ rg_75_34_0_1 (by first | decide | omega) (by first | decide | omega) (by first | decide | omega)
  have f5 := jF (e := 34) (v := 2147483648) 0 hF rg_75_34_0_1 (by first | decide | omega) (by first | decide | omega) (by decide)
  generalize e4 : x_up h 75 34 2147483648 = h2 at j3 f5 ⊢
  refine x_const (np := 6) (x := 9223372039002259456) (a := 2147483648) (by decide +kernel) (by decide) (by decide) ?_
  refine x_istore (np := 7) (x := 2) (lo' := [x_r 75, iv_c 2147483649, iv_c 2147483648, 147573952589676412928, 147573952589676412928, 147573952589676412928]) (by decide +kernel) (by decide) (Nat.le_of_ble_eq_true rfl) rfl ?_
  refine x_const (np := 8) (x := 9223372039002259456) (a := 2147483648) (by decide +kernel) (by decide) (by decide) ?_
  refine x_istore (np := 9) (x := 3) (lo' := [x_r 75, iv_c 2147483649, iv_c 2147483648, iv_c 2147483648, 147573952589676412928, 147573952589676412928]) (by decide +kernel) (by decide) (Nat.le_of_ble_eq_true rfl) rfl ?_
  refine x_const (np := 10) (x := 9223372043297226753) (a := 2147483649) (by decide +kernel) (by decide) (by decide) ?_
  refine x_istore (np := 12) (x := 4) (lo' := [x_r 75, iv_c 2147483649, iv_c 2147483648, iv_c 2147483648, iv_c 2147483649, 147573952589676412928]) (by decide +kernel) (by decide) (Nat.le_of_ble_eq_true rfl) rfl ?_
  have p1112 : ∀ (n : Nat), (∀ (w1114 : Nat) (w1115 : Nat) (h1116 : xh), 16 * (4294967296 - h1116 75 30) + 1 < n → J h1116 → Fr 39376260300801 h2 h1116 → (2147483648 ≤ h1116 75 30 ∧ h1116 75 30 ≤ 2147503648) → X sc 259 (d + 5) (xI fun r h' => J h' ∧ Fr 39376260300801 h h' ∧ (2147483648 ≤ r ∧ r ≤ 2147483649) ∧ (r = 2147483649 → h' 75 30 ≤ 2147503648)) 0 0 12 [x_r 75, iv_c 2147483649, iv_c 2147483648, w1114, iv_c 2147483649, w1115] [] h1116) ∧ (∀ (w1120 : Nat) (w1121 : Nat) (h1122 : xh), 16 * (4294967296 - h1122 75 30) + 2 < n → J h1122 → Fr 39376260300801 h2 h1122 → (2147483648 ≤ h1122 75 30 ∧ h1122 75 30 ≤ 2147503648) → X sc 259 (d + 5) (xI fun r h' => J h' ∧ Fr 39376260300801 h h' ∧ (2147483648 ≤ r ∧ r ≤ 2147483649) ∧ (r = 2147483649 → h' 75 30 ≤ 2147503648)) 0 0 12 [x_r 75, iv_c 2147483649, iv_c 2147483649, w1120, iv_c 2147483649, w1121] [] h1122) ∧ (∀ (w1126 : Nat) (w1127 : Nat) (h1128 : xh), 16 * (4294967296 - h1128 75 30) + 4 < n → J h1128 → Fr 39376260300801 h2 h1128 → (2147483648 ≤ h1128 75 30 ∧ h1128 75 30 ≤ 2147503648) → X sc 259 (d + 5) (xI fun r h' => J h' ∧ Fr 39376260300801 h h' ∧ (2147483648 ≤ r ∧ r ≤ 2147483649) ∧ (r = 2147483649 → h' 75 30 ≤ 2147503648)) 0 0 12 [x_r 75, iv_c 2147483649, iv_c 2147483647, w1126, iv_c 2147483648, w1127] [] h1128) ∧ (∀ (w1132 : Nat) (w1133 : Nat) (h1134 : xh), 16 * (4294967296 - h1134 75 30) + 5 < n → J h1134 → Fr 39376260300801 h2 h1134 → (2147483648 ≤ h1134 75 30 ∧ h1134 75 30 ≤ 2147503648) → X sc 259 (d + 5) (xI fun r h' => J h' ∧ Fr 39376260300801 h h' ∧ (2147483648 ≤ r ∧ r ≤ 2147483649) ∧ (r = 2147483649 → h' 75 30 ≤ 2147503648)) 0 0 12 [x_r 75, iv_c 2147483649, iv_c 2147483648, w1132, iv_c 2147483648, w1133] [] h1134) := by
    intro n
    induction n with
    | zero => exact ⟨fun _ _ _ z => absurd z (Nat.not_lt_zero _), fun _ _ _ z => absurd z (Nat.not_lt_zero _), fun _ _ _ z => absurd z (Nat.not_lt_zero _), fun _ _ _ z => absurd z (Nat.not_lt_zero _)⟩
    | succ n i1113 =>
      obtain ⟨i1138, i1139, i1140, i1141⟩ := i1113
      refine ⟨?_, ?_, ?_, ?_⟩
      · intro w1114 w1115 h1116 q1142 j1119 f1118 b1117
        have f1143 := Fr.trans f5 f1118 (by decide)
        refine x_iload (np := 13) (x := 2) (by decide +kernel) rfl (by decide) ?_
        refine x_ifz (k := 2) (tg := 186) (np := 16) (by decide +kernel) (by decide) (by decide) (fun q1144 => ?_) (fun q1145 => ?_)
        · have q1144 : 2147483648 < 2147483648 := q1144
          exfalso; omega
        have q1145 : ¬ (2147483648 < 2147483648) := q1145
        refine x_iload (np := 18) (x := 4) (by decide +kernel) rfl (by decide) ?_
        refine x_ifz (k := 0) (tg := 102) (np := 21) (by decide +kernel) (by decide) (by decide) (fun q1146 => ?_) (fun q1147 => ?_)
        · have q1146 : 2147483649 = 2147483648 := q1146
          exfalso; omega
        have q1147 : ¬ (2147483649 = 2147483648) := q1147
        refine x_aload (np := 22) (x := 0) (by decide +kernel) rfl (x_nc_le (by decide)) ?_
        refine x_dup (np := 23) (x := 0) (by decide +kernel) (by have z := x_nc_le (k := 75) (by decide); unfold x_r; omega) ?_
        refine x_getC (np := 26) (x := 734) (f := 30) (q := (h1116 75 30)) (by decide +kernel) (by decide) (by decide +kernel) rfl (fun l1148 => ?_)
        refine x_const (np := 27) (x := 9223372043297226753) (a := 2147483649) (by decide +kernel) (by decide) (by decide) ?_
        refine x_iadd (np := 28) (x := 0) (v := (1 + (h1116 75 30))) (by decide +kernel) l1148 (by decide) (by first | decide | omega) (by first | decide | omega) ?_
        refine x_putI (np := 31) (x := 734) (f := 30) (by decide +kernel) (by decide +kernel) (by first | decide | omega) (Or.inl (by decide)) ?_
        have j1150 := jU (e := 30) (v := (1 + (h1116 75 30))) 0 j1119 rg_75_30_0_1 (by first | decide | omega) (by first | decide | omega) (by first | decide | omega)
        have f1152 := jF (e := 30) (v := (1 + (h1116 75 30))) 0 f1143 rg_75_30_0_1 (by first | decide | omega) (by first | decide | omega) (by decide)
        have f1153 := jF (e := 30) (v := (1 + (h1116 75 30))) 0 f1118 rg_75_30_0_1 (by first | decide | omega) (by first | decide | omega) (by decide)
        generalize e1151 : x_up h1116 75 30 (1 + (h1116 75 30)) = h1149 at j1150 f1152 f1153 ⊢
        refine x_aload (np := 32) (x := 0) (by decide +kernel) rfl (x_nc_le (by decide)) ?_
        have q1154 : h1149 75 30 = (1 + (h1116 75 30)) := by rw [← e1151]; exact x_up_at
        refine x_getC (np := 35) (x := 734) (f := 30) (q := (1 + (h1116 75 30))) (by decide +kernel) (by decide) (by decide +kernel) q1154 (fun l1155 => ?_)
        refine x_const (np := 38) (x := 9223457938348199456) (a := 2147503648) (by decide +kernel) (by decide) (by decide) ?_
        refine x_icmp (k := 5) (tg := 43) (np := 41) (by decide +kernel) (by decide) (by first | decide | omega) (by decide) (fun q1156 => ?_) (fun q1157 => ?_)
        · have q1156 : (1 + (h1116 75 30)) ≤ 2147503648 := q1156
          refine x_aload (np := 44) (x := 0) (by decide +kernel) rfl (x_nc_le (by decide)) ?_
          refine x_iload (np := 45) (x := 2) (by decide +kernel) rfl (by decide) ?_
          refine x_cI (t := 6) (mj := 254) (n := 2) (rc := 12) (ml := 4) (nr := 0) (np := 48) (as := [x_r 75, iv_c 2147483648]) (rest := []) (lo1 := [x_r 75, iv_c 2147483648, 147573952589676412928, 147573952589676412928]) (by decide +kernel) (by decide) (by decide +kernel) (x_rb_of (by decide +kernel)) rfl rfl (x_wr (by decide) (x_wi (by decide) x_wn)) x_wn (by decide) rfl (c254_75 j1150  (by first | decide | omega)) (fun v1158 h1161 l1159 q1160 => ?_)
          obtain ⟨j1162, f1163, b1164⟩ := q1160
          have f1165 := Fr.trans f1152 f1163 (by decide)
          have f1166 := Fr.trans f1153 f1163 (by decide)
          refine x_istore (np := 49) (x := 3) (lo' := [x_r 75, iv_c 2147483649, iv_c 2147483648, iv_c v1158, iv_c 2147483649, w1115]) (by decide +kernel) l1159 (Nat.le_of_ble_eq_true rfl) rfl ?_
          refine x_iload (np := 50) (x := 3) (by decide +kernel) rfl l1159 ?_
          refine x_const (np := 51) (x := 9223372043297226753) (a := 2147483649) (by decide +kernel) (by decide) (by decide) ?_
          refine x_icmp (k := 1) (tg := 85) (np := 54) (by decide +kernel) (by decide) l1159 (by decide) (fun q1167 => ?_) (fun q1168 => ?_)
          · have q1167 : v1158 ≠ 2147483649 := q1167
            refine x_iload (np := 86) (x := 3) (by decide +kernel) rfl l1159 ?_
            refine x_const (np := 87) (x := 9223372043297226753) (a := 2147483649) (by decide +kernel) (by decide) (by decide) ?_
            refine x_icmp (k := 0) (tg := 95) (np := 90) (by decide +kernel) (by decide) l1159 (by decide) (fun q1169 => ?_) (fun q1170 => ?_)
            · have q1169 : v1158 = 2147483649 := q1169
              exfalso; omega
            have q1170 : ¬ (v1158 = 2147483649) := q1170
            refine x_iload (np := 91) (x := 2) (by decide +kernel) rfl (by decide) ?_
            refine x_iload (np := 92) (x := 1) (by decide +kernel) rfl (by decide) ?_
            refine x_icmp (k := 1) (tg := 102) (np := 95) (by decide +kernel) (by decide) (by decide) (by decide) (fun q1171 => ?_) (fun q1172 => ?_)
            · have q1171 : 2147483648 ≠ 2147483649 := q1171
              refine x_aload (np := 103) (x := 0) (by decide +kernel) rfl (x_nc_le (by decide)) ?_
              have q1173 : h1161 75 27 = 93 := by have z := jB (e := 27) 0 j1162 rg_75_27_0_1 (by decide) (by decide); omega
              refine x_getR (np := 106) (x := 731) (f := 27) (q := 93) (by decide +kernel) (by decide) (by decide +kernel) q1173 ?_
              refine x_iload (np := 107) (x := 2) (by decide +kernel) rfl (by decide) ?_
              have b1174 := jB (e := 0) 0 j1162 rg_93_0_1_6 (by first | decide | omega) (by first | decide | omega)
              refine x_aldC (np := 108) (x := 0) (n := 6) (i := 0) (q := (h1161 93 0)) (by decide +kernel) (by decide +kernel) (by first | decide | omega) (by first | decide | omega) (by decide) rfl (fun l1175 => ?_)
              refine x_ifz (k := 2) (tg := 122) (np := 111) (by decide +kernel) (by decide) l1175 (fun q1176 => ?_) (fun q1177 => ?_)
              · have q1176 : (h1161 93 0) < 2147483648 := q1176
                refine x_aload (np := 123) (x := 0) (by decide +kernel) rfl (x_nc_le (by decide)) ?_
                have q1178 : h1161 75 28 = 94 := by have z := jB (e := 28) 0 j1162 rg_75_28_0_1 (by decide) (by decide); omega
                refine x_getR (np := 126) (x := 732) (f := 28) (q := 94) (by decide +kernel) (by decide) (by decide +kernel) q1178 ?_
                refine x_iload (np := 127) (x := 2) (by decide +kernel) rfl (by decide) ?_
                have b1179 := jB (e := 0) 0 j1162 rg_94_0_1_6 (by first | decide | omega) (by first | decide | omega)
                refine x_aldC (np := 128) (x := 0) (n := 6) (i := 0) (q := (h1161 94 0)) (by decide +kernel) (by decide +kernel) (by first | decide | omega) (by first | decide | omega) (by decide) rfl (fun l1180 => ?_)
                refine x_ifz (k := 3) (tg := 135) (np := 131) (by decide +kernel) (by decide) l1180 (fun q1181 => ?_) (fun q1182 => ?_)
                · have q1181 : 2147483648 ≤ (h1161 94 0) := q1181
                  refine x_aload (np := 136) (x := 0) (by decide +kernel) rfl (x_nc_le (by decide)) ?_
                  refine x_iload (np := 137) (x := 2) (by decide +kernel) rfl (by decide) ?_
                  refine x_cP (t := 6) (mj := 257) (n := 2) (rc := 12) (ml := 3) (nr := 0) (np := 140) (as := [x_r 75, iv_c 2147483648]) (rest := []) (lo1 := [x_r 75, iv_c 2147483648, 147573952589676412928]) (by decide +kernel) (by decide) (by decide +kernel) (x_rb_of (by decide +kernel)) rfl rfl (x_wr (by decide) (x_wi (by decide) x_wn)) x_wn (by decide) rfl (c257_75_c0 j1162   (by first | decide | omega)) (fun v1183 l1184 q1185 => ?_)
                  refine x_istore (np := 142) (x := 5) (lo' := [x_r 75, iv_c 2147483649, iv_c 2147483648, iv_c v1158, iv_c 2147483649, iv_c v1183]) (by decide +kernel) l1184 (Nat.le_of_ble_eq_true rfl) rfl ?_
                  refine x_iload (np := 144) (x := 5) (by decide +kernel) rfl l1184 ?_
                  refine x_ifz (k := 2) (tg := 151) (np := 147) (by decide +kernel) (by decide) l1184 (fun q1186 => ?_) (fun q1187 => ?_)
                  · have q1186 : v1183 < 2147483648 := q1186
                    refine x_const (np := 152) (x := 9223372039002259456) (a := 2147483648) (by decide +kernel) (by decide) (by decide) ?_
                    refine x_istore (np := 154) (x := 4) (lo' := [x_r 75, iv_c 2147483649, iv_c 2147483648, iv_c v1158, iv_c 2147483648, iv_c v1183]) (by decide +kernel) (by decide) (Nat.le_of_ble_eq_true rfl) rfl ?_
                    refine x_iload (np := 156) (x := 4) (by decide +kernel) rfl (by decide) ?_
                    refine x_ifz (k := 0) (tg := 180) (np := 159) (by decide +kernel) (by decide) (by decide) (fun q1188 => ?_) (fun q1189 => ?_)
                    · have q1188 : 2147483648 = 2147483648 := q1188
                      refine x_iinc (np := 183) (i := 2) (j := 2147483647) (v := 2147483647) (lo' := [x_r 75, iv_c 2147483649, iv_c 2147483647, iv_c v1158, iv_c 2147483648, iv_c v1183]) (by decide +kernel) (by decide) (by decide) rfl (by decide) (by first | decide | omega) (by first | decide | omega) rfl ?_
                      refine x_goto (np := 186) (x := 12) (by decide +kernel) ?_
                      have q1190 : h1161 75 30 = h1149 75 30 := jK 0 f1163 rg_75_30_0_1 (by first | decide | omega) (by first | decide | omega) (by decide)
                      have q1191 : h1149 75 30 = (1 + (h1116 75 30)) := by rw [← e1151]; exact x_up_at
                      exact i1140 (iv_c v1158) (iv_c v1183) h1161 (by first | decide | omega) j1162 f1166 (by first | decide | omega)
                    have q1189 : ¬ (2147483648 = 2147483648) := q1189
                    exfalso; omega
                  have q1187 : ¬ (v1183 < 2147483648) := q1187
                  refine x_const (np := 148) (x := 9223372043297226753) (a := 2147483649) (by decide +kernel) (by decide) (by decide) ?_
                  refine x_goto (np := 151) (x := 152) (by decide +kernel) ?_
                  refine x_istore (np := 154) (x := 4) (lo' := [x_r 75, iv_c 2147483649, iv_c 2147483648, iv_c v1158, iv_c 2147483649, iv_c v1183]) (by decide +kernel) (by decide) (Nat.le_of_ble_eq_true rfl) rfl ?_
                  refine x_iload (np := 156) (x := 4) (by decide +kernel) rfl (by decide) ?_
                  refine x_ifz (k := 0) (tg := 180) (np := 159) (by decide +kernel) (by decide) (by decide) (fun q1192 => ?_) (fun q1193 => ?_)
                  · have q1192 : 2147483649 = 2147483648 := q1192
                    exfalso; omega
                  have q1193 : ¬ (2147483649 = 2147483648) := q1193
                  refine x_aload (np := 160) (x := 0) (by decide +kernel) rfl (x_nc_le (by decide)) ?_
                  have q1194 : h1161 75 27 = 93 := by have z := jB (e := 27) 0 j1162 rg_75_27_0_1 (by decide) (by decide); omega
                  refine x_getR (np := 163) (x := 731) (f := 27) (q := 93) (by decide +kernel) (by decide) (by decide +kernel) q1194 ?_
                  refine x_iload (np := 164) (x := 2) (by decide +kernel) rfl (by decide) ?_
                  refine x_iload (np := 166) (x := 5) (by decide +kernel) rfl l1184 ?_
                  refine x_ast (np := 167) (x := 0) (kd := 1) (n := 6) (i := 0) (by decide +kernel) (Or.inl rfl) (by decide +kernel) (by first | decide | omega) (by first | decide | omega) (by decide) l1184 (fun z => absurd z (by decide)) ?_
                  have j1196 := jU (e := 0) (v := v1183) 0 j1162 rg_93_0_1_6 (by first | decide | omega) (by first | decide | omega) (by first | decide | omega)
                  have f1198 := jF (e := 0) (v := v1183) 0 f1165 rg_93_0_1_6 (by first | decide | omega) (by first | decide | omega) (by decide)
                  have f1199 := jF (e := 0) (v := v1183) 0 f1166 rg_93_0_1_6 (by first | decide | omega) (by first | decide | omega) (by decide)
                  generalize e1197 : x_up h1161 93 0 v1183 = h1195 at j1196 f1198 f1199 ⊢
                  refine x_aload (np := 168) (x := 0) (by decide +kernel) rfl (x_nc_le (by decide)) ?_
                  refine x_iload (np := 170) (x := 5) (by decide +kernel) rfl l1184 ?_
                  refine x_const (np := 171) (x := 9223372043297226753) (a := 2147483649) (by decide +kernel) (by decide) (by decide) ?_
                  refine x_cV (t := 6) (mj := 248) (n := 3) (rc := 12) (ml := 4) (nr := 0) (np := 174) (as := [x_r 75, iv_c v1183, iv_c 2147483649]) (rest := []) (lo1 := [x_r 75, iv_c v1183, iv_c 2147483649, 147573952589676412928]) (by decide +kernel) (by decide) (by decide +kernel) (x_rb_of (by decide +kernel)) rfl rfl (x_wr (by decide) (x_wi l1184 (x_wi (by decide) x_wn))) x_wn (by decide) rfl (c248_75 j1196  (by first | decide | omega) (by first | decide | omega)) (fun h1203 q1202 => ?_)
                  obtain ⟨j1204, f1205⟩ := q1202
                  have f1208 := Fr.trans f1198 f1205 (by decide)
                  have f1209 := Fr.trans f1199 f1205 (by decide)
                  refine x_iinc (np := 177) (i := 2) (j := 2147483649) (v := 2147483649) (lo' := [x_r 75, iv_c 2147483649, iv_c 2147483649, iv_c v1158, iv_c 2147483649, iv_c v1183]) (by decide +kernel) (by decide) (by decide) rfl (by decide) (by first | decide | omega) (by first | decide | omega) rfl ?_
                  refine x_goto (np := 180) (x := 183) (by decide +kernel) ?_
                  refine x_goto (np := 186) (x := 12) (by decide +kernel) ?_
                  have q1210 : h1203 75 30 = h1195 75 30 := jK 0 f1205 rg_75_30_0_1 (by first | decide | omega) (by first | decide | omega) (by decide)
                  have q1211 : h1195 75 30 = h1161 75 30 := by rw [← e1197]; exact x_up_k (by decide)
                  have q1212 : h1161 75 30 = h1149 75 30 := jK 0 f1163 rg_75_30_0_1 (by first | decide | omega) (by first | decide | omega) (by decide)
                  have q1213 : h1149 75 30 = (1 + (h1116 75 30)) := by rw [← e1151]; exact x_up_at
                  exact i1139 (iv_c v1158) (iv_c v1183) h1203 (by first | decide | omega) j1204 f1209 (by first | decide | omega)
                have q1182 : ¬ (2147483648 ≤ (h1161 94 0)) := q1182
                refine x_const (np := 132) (x := 9223372034707292159) (a := 2147483647) (by decide +kernel) (by decide) (by decide) ?_
                refine x_goto (np := 135) (x := 140) (by decide +kernel) ?_
                refine x_istore (np := 142) (x := 5) (lo' := [x_r 75, iv_c 2147483649, iv_c 2147483648, iv_c v1158, iv_c 2147483649, iv_c 2147483647]) (by decide +kernel) (by decide) (Nat.le_of_ble_eq_true rfl) rfl ?_
                refine x_iload (np := 144) (x := 5) (by decide +kernel) rfl (by decide) ?_
                refine x_ifz (k := 2) (tg := 151) (np := 147) (by decide +kernel) (by decide) (by decide) (fun q1214 => ?_) (fun q1215 => ?_)
                · have q1214 : 2147483647 < 2147483648 := q1214
                  refine x_const (np := 152) (x := 9223372039002259456) (a := 2147483648) (by decide +kernel) (by decide) (by decide) ?_
                  refine x_istore (np := 154) (x := 4) (lo' := [x_r 75, iv_c 2147483649, iv_c 2147483648, iv_c v1158, iv_c 2147483648, iv_c 2147483647]) (by decide +kernel) (by decide) (Nat.le_of_ble_eq_true rfl) rfl ?_
                  refine x_iload (np := 156) (x := 4) (by decide +kernel) rfl (by decide) ?_
                  refine x_ifz (k := 0) (tg := 180) (np := 159) (by decide +kernel) (by decide) (by decide) (fun q1216 => ?_) (fun q1217 => ?_)
                  · have q1216 : 2147483648 = 2147483648 := q1216
                    refine x_iinc (np := 183) (i := 2) (j := 2147483647) (v := 2147483647) (lo' := [x_r 75, iv_c 2147483649, iv_c 2147483647, iv_c v1158, iv_c 2147483648, iv_c 2147483647]) (by decide +kernel) (by decide) (by decide) rfl (by decide) (by first | decide | omega) (by first | decide | omega) rfl ?_
                    refine x_goto (np := 186) (x := 12) (by decide +kernel) ?_
                    have q1218 : h1161 75 30 = h1149 75 30 := jK 0 f1163 rg_75_30_0_1 (by first | decide | omega) (by first | decide | omega) (by decide)
                    have q1219 : h1149 75 30 = (1 + (h1116 75 30)) := by rw [← e1151]; exact x_up_at
                    exact i1140 (iv_c v1158) (iv_c 2147483647) h1161 (by first | decide | omega) j1162 f1166 (by first | decide | omega)
                  have q1217 : ¬ (2147483648 = 2147483648) := q1217
                  exfalso; omega
                have q1215 : ¬ (2147483647 < 2147483648) := q1215
                exfalso; omega
              have q1177 : ¬ ((h1161 93 0) < 2147483648) := q1177
              refine x_aload (np := 112) (x := 0) (by decide +kernel) rfl (x_nc_le (by decide)) ?_
              refine x_aload (np := 113) (x := 0) (by decide +kernel) rfl (x_nc_le (by decide)) ?_
              have q1220 : h1161 75 27 = 93 := by have z := jB (e := 27) 0 j1162 rg_75_27_0_1 (by decide) (by decide); omega
              refine x_getR (np := 116) (x := 731) (f := 27) (q := 93) (by decide +kernel) (by decide) (by decide +kernel) q1220 ?_
              refine x_iload (np := 117) (x := 2) (by decide +kernel) rfl (by decide) ?_
              refine x_aldC (np := 118) (x := 0) (n := 6) (i := 0) (q := (h1161 93 0)) (by decide +kernel) (by decide +kernel) (by first | decide | omega) (by first | decide | omega) (by decide) rfl (fun l1221 => ?_)
              refine x_const (np := 119) (x := 9223372039002259456) (a := 2147483648) (by decide +kernel) (by decide) (by decide) ?_
              refine x_cV (t := 6) (mj := 248) (n := 3) (rc := 12) (ml := 4) (nr := 0) (np := 122) (as := [x_r 75, iv_c (h1161 93 0), iv_c 2147483648]) (rest := []) (lo1 := [x_r 75, iv_c (h1161 93 0), iv_c 2147483648, 147573952589676412928]) (by decide +kernel) (by decide) (by decide +kernel) (x_rb_of (by decide +kernel)) rfl rfl (x_wr (by decide) (x_wi l1175 (x_wi (by decide) x_wn))) x_wn (by decide) rfl (c248_75 j1162  (by first | decide | omega) (by first | decide | omega)) (fun h1225 q1224 => ?_)
              obtain ⟨j1226, f1227⟩ := q1224
              have f1230 := Fr.trans f1165 f1227 (by decide)
              have f1231 := Fr.trans f1166 f1227 (by decide)
              refine x_aload (np := 123) (x := 0) (by decide +kernel) rfl (x_nc_le (by decide)) ?_
              have q1232 : h1225 75 28 = 94 := by have z := jB (e := 28) 0 j1226 rg_75_28_0_1 (by decide) (by decide); omega
              refine x_getR (np := 126) (x := 732) (f := 28) (q := 94) (by decide +kernel) (by decide) (by decide +kernel) q1232 ?_
              refine x_iload (np := 127) (x := 2) (by decide +kernel) rfl (by decide) ?_
              have q1233 : h1225 94 0 = h1161 94 0 := jK 0 f1227 rg_94_0_1_6 (by first | decide | omega) (by first | decide | omega) (by decide)
              have b1234 := jB (e := 0) 0 j1162 rg_94_0_1_6 (by first | decide | omega) (by first | decide | omega)
              refine x_aldC (np := 128) (x := 0) (n := 6) (i := 0) (q := (h1161 94 0)) (by decide +kernel) (by decide +kernel) (by first | decide | omega) (by first | decide | omega) (by decide) q1233 (fun l1235 => ?_)
              refine x_ifz (k := 3) (tg := 135) (np := 131) (by decide +kernel) (by decide) l1235 (fun q1236 => ?_) (fun q1237 => ?_)
              · have q1236 : 2147483648 ≤ (h1161 94 0) := q1236
                refine x_aload (np := 136) (x := 0) (by decide +kernel) rfl (x_nc_le (by decide)) ?_
                refine x_iload (np := 137) (x := 2) (by decide +kernel) rfl (by decide) ?_
                have q1238 : h1225 94 0 = h1161 94 0 := jK 0 f1227 rg_94_0_1_6 (by first | decide | omega) (by first | decide | omega) (by decide)
                refine x_cP (t := 6) (mj := 257) (n := 2) (rc := 12) (ml := 3) (nr := 0) (np := 140) (as := [x_r 75, iv_c 2147483648]) (rest := []) (lo1 := [x_r 75, iv_c 2147483648, 147573952589676412928]) (by decide +kernel) (by decide) (by decide +kernel) (x_rb_of (by decide +kernel)) rfl rfl (x_wr (by decide) (x_wi (by decide) x_wn)) x_wn (by decide) rfl (c257_75_c0 j1226   (by first | decide | omega)) (fun v1239 l1240 q1241 => ?_)
                refine x_istore (np := 142) (x := 5) (lo' := [x_r 75, iv_c 2147483649, iv_c 2147483648, iv_c v1158, iv_c 2147483649, iv_c v1239]) (by decide +kernel) l1240 (Nat.le_of_ble_eq_true rfl) rfl ?_
                refine x_iload (np := 144) (x := 5) (by decide +kernel) rfl l1240 ?_
                refine x_ifz (k := 2) (tg := 151) (np := 147) (by decide +kernel) (by decide) l1240 (fun q1242 => ?_) (fun q1243 => ?_)
                · have q1242 : v1239 < 2147483648 := q1242
                  refine x_const (np := 152) (x := 9223372039002259456) (a := 2147483648) (by decide +kernel) (by decide) (by decide) ?_
                  refine x_istore (np := 154) (x := 4) (lo' := [x_r 75, iv_c 2147483649, iv_c 2147483648, iv_c v1158, iv_c 2147483648, iv_c v1239]) (by decide +kernel) (by decide) (Nat.le_of_ble_eq_true rfl) rfl ?_
                  refine x_iload (np := 156) (x := 4) (by decide +kernel) rfl (by decide) ?_
                  refine x_ifz (k := 0) (tg := 180) (np := 159) (by decide +kernel) (by decide) (by decide) (fun q1244 => ?_) (fun q1245 => ?_)
                  · have q1244 : 2147483648 = 2147483648 := q1244
                    refine x_iinc (np := 183) (i := 2) (j := 2147483647) (v := 2147483647) (lo' := [x_r 75, iv_c 2147483649, iv_c 2147483647, iv_c v1158, iv_c 2147483648, iv_c v1239]) (by decide +kernel) (by decide) (by decide) rfl (by decide) (by first | decide | omega) (by first | decide | omega) rfl ?_
                    refine x_goto (np := 186) (x := 12) (by decide +kernel) ?_
                    have q1246 : h1225 75 30 = h1161 75 30 := jK 0 f1227 rg_75_30_0_1 (by first | decide | omega) (by first | decide | omega) (by decide)
                    have q1247 : h1161 75 30 = h1149 75 30 := jK 0 f1163 rg_75_30_0_1 (by first | decide | omega) (by first | decide | omega) (by decide)
                    have q1248 : h1149 75 30 = (1 + (h1116 75 30)) := by rw [← e1151]; exact x_up_at
                    exact i1140 (iv_c v1158) (iv_c v1239) h1225 (by first | decide | omega) j1226 f1231 (by first | decide | omega)
                  have q1245 : ¬ (2147483648 = 2147483648) := q1245
                  exfalso; omega
                have q1243 : ¬ (v1239 < 2147483648) := q1243
                refine x_const (np := 148) (x := 9223372043297226753) (a := 2147483649) (by decide +kernel) (by decide) (by decide) ?_
                refine x_goto (np := 151) (x := 152) (by decide +kernel) ?_
                refine x_istore (np := 154) (x := 4) (lo' := [x_r 75, iv_c 2147483649, iv_c 2147483648, iv_c v1158, iv_c 2147483649, iv_c v1239]) (by decide +kernel) (by decide) (Nat.le_of_ble_eq_true rfl) rfl ?_
                refine x_iload (np := 156) (x := 4) (by decide +kernel) rfl (by decide) ?_
                refine x_ifz (k := 0) (tg := 180) (np := 159) (by decide +kernel) (by decide) (by decide) (fun q1249 => ?_) (fun q1250 => ?_)
                · have q1249 : 2147483649 = 2147483648 := q1249
                  exfalso; omega
                have q1250 : ¬ (2147483649 = 2147483648) := q1250
                refine x_aload (np := 160) (x := 0) (by decide +kernel) rfl (x_nc_le (by decide)) ?_
                have q1251 : h1225 75 27 = 93 := by have z := jB (e := 27) 0 j1226 rg_75_27_0_1 (by decide) (by decide); omega
                refine x_getR (np := 163) (x := 731) (f := 27) (q := 93) (by decide +kernel) (by decide) (by decide +kernel) q1251 ?_
                refine x_iload (np := 164) (x := 2) (by decide +kernel) rfl (by decide) ?_
                refine x_iload (np := 166) (x := 5) (by decide +kernel) rfl l1240 ?_
                refine x_ast (np := 167) (x := 0) (kd := 1) (n := 6) (i := 0) (by decide +kernel) (Or.inl rfl) (by decide +kernel) (by first | decide | omega) (by first | decide | omega) (by decide) l1240 (fun z => absurd z (by decide)) ?_
                have j1253 := jU (e := 0) (v := v1239) 0 j1226 rg_93_0_1_6 (by first | decide | omega) (by first | decide | omega) (by first | decide | omega)
                have f1255 := jF (e := 0) (v := v1239) 0 f1230 rg_93_0_1_6 (by first | decide | omega) (by first | decide | omega) (by decide)
                have f1256 := jF (e := 0) (v := v1239) 0 f1231 rg_93_0_1_6 (by first | decide | omega) (by first | decide | omega) (by decide)
                generalize e1254 : x_up h1225 93 0 v1239 = h1252 at j1253 f1255 f1256 ⊢
                refine x_aload (np := 168) (x := 0) (by decide +kernel) rfl (x_nc_le (by decide)) ?_
                refine x_iload (np := 170) (x := 5) (by decide +kernel) rfl l1240 ?_
                refine x_const (np := 171) (x := 9223372043297226753) (a := 2147483649) (by decide +kernel) (by decide) (by decide) ?_
                refine x_cV (t := 6) (mj := 248) (n := 3) (rc := 12) (ml := 4) (nr := 0) (np := 174) (as := [x_r 75, iv_c v1239, iv_c 2147483649]) (rest := []) (lo1 := [x_r 75, iv_c v1239, iv_c 2147483649, 147573952589676412928]) (by decide +kernel) (by decide) (by decide +kernel) (x_rb_of (by decide +kernel)) rfl rfl (x_wr (by decide) (x_wi l1240 (x_wi (by decide) x_wn))) x_wn (by decide) rfl (c248_75 j1253  (by first | decide | omega) (by first | decide | omega)) (fun h1260 q1259 => ?_)
                obtain ⟨j1261, f1262⟩ := q1259
                have f1265 := Fr.trans f1255 f1262 (by decide)
                have f1266 := Fr.trans f1256 f1262 (by decide)
                refine x_iinc (np := 177) (i := 2) (j := 2147483649) (v := 2147483649) (lo' := [x_r 75, iv_c 2147483649, iv_c 2147483649, iv_c v1158, iv_c 2147483649, iv_c v1239]) (by decide +kernel) (by decide) (by decide) rfl (by decide) (by first | decide | omega) (by first | decide | omega) rfl ?_
                refine x_goto (np := 180) (x := 183) (by decide +kernel) ?_
                refine x_goto (np := 186) (x := 12) (by decide +kernel) ?_
                have q1267 : h1260 75 30 = h1252 75 30 := jK 0 f1262 rg_75_30_0_1 (by first | decide | omega) (by first | decide | omega) (by decide)
                have q1268 : h1252 75 30 = h1225 75 30 := by rw [← e1254]; exact x_up_k (by decide)
                have q1269 : h1225 75 30 = h1161 75 30 := jK 0 f1227 rg_75_30_0_1 (by first | decide | omega) (by first | decide | omega) (by decide)
                have q1270 : h1161 75 30 = h1149 75 30 := jK 0 f1163 rg_75_30_0_1 (by first | decide | omega) (by first | decide | omega) (by decide)
                have q1271 : h1149 75 30 = (1 + (h1116 75 30)) := by rw [← e1151]; exact x_up_at
                exact i1139 (iv_c v1158) (iv_c v1239) h1260 (by first | decide | omega) j1261 f1266 (by first | decide | omega)
              have q1237 : ¬ (2147483648 ≤ (h1161 94 0)) := q1237
              refine x_const (np := 132) (x := 9223372034707292159) (a := 2147483647) (by decide +kernel) (by decide) (by decide) ?_
              refine x_goto (np := 135) (x := 140) (by decide +kernel) ?_
              refine x_istore (np := 142) (x := 5) (lo' := [x_r 75, iv_c 2147483649, iv_c 2147483648, iv_c v1158, iv_c 2147483649, iv_c 2147483647]) (by decide +kernel) (by decide) (Nat.le_of_ble_eq_true rfl) rfl ?_
              refine x_iload (np := 144) (x := 5) (by decide +kernel) rfl (by decide) ?_
              refine x_ifz (k := 2) (tg := 151) (np := 147) (by decide +kernel) (by decide) (by decide) (fun q1272 => ?_) (fun q1273 => ?_)
              · have q1272 : 2147483647 < 2147483648 := q1272
                refine x_const (np := 152) (x := 9223372039002259456) (a := 2147483648) (by decide +kernel) (by decide) (by decide) ?_
                refine x_istore (np := 154) (x := 4) (lo' := [x_r 75, iv_c 2147483649, iv_c 2147483648, iv_c v1158, iv_c 2147483648, iv_c 2147483647]) (by decide +kernel) (by decide) (Nat.le_of_ble_eq_true rfl) rfl ?_
                refine x_iload (np := 156) (x := 4) (by decide +kernel) rfl (by decide) ?_
                refine x_ifz (k := 0) (tg := 180) (np := 159) (by decide +kernel) (by decide) (by decide) (fun q1274 => ?_) (fun q1275 => ?_)
                · have q1274 : 2147483648 = 2147483648 := q1274
                  refine x_iinc (np := 183) (i := 2) (j := 2147483647) (v := 2147483647) (lo' := [x_r 75, iv_c 2147483649, iv_c 2147483647, iv_c v1158, iv_c 2147483648, iv_c 2147483647]) (by decide +kernel) (by decide) (by decide) rfl (by decide) (by first | decide | omega) (by first | decide | omega) rfl ?_
                  refine x_goto (np := 186) (x := 12) (by decide +kernel) ?_
                  have q1276 : h1225 75 30 = h1161 75 30 := jK 0 f1227 rg_75_30_0_1 (by first | decide | omega) (by first | decide | omega) (by decide)
                  have q1277 : h1161 75 30 = h1149 75 30 := jK 0 f1163 rg_75_30_0_1 (by first | decide | omega) (by first | decide | omega) (by decide)
                  have q1278 : h1149 75 30 = (1 + (h1116 75 30)) := by rw [← e1151]; exact x_up_at
                  exact i1140 (iv_c v1158) (iv_c 2147483647) h1225 (by first | decide | omega) j1226 f1231 (by first | decide | omega)
                have q1275 : ¬ (2147483648 = 2147483648) := q1275
                exfalso; omega
              have q1273 : ¬ (2147483647 < 2147483648) := q1273
              exfalso; omega
            have q1172 : ¬ (2147483648 ≠ 2147483649) := q1172
            exfalso; omega
          have q1168 : ¬ (v1158 ≠ 2147483649) := q1168
          refine x_aload (np := 55) (x := 0) (by decide +kernel) rfl (x_nc_le (by decide)) ?_
          have q1279 : h1161 75 34 = h1149 75 34 := jK 0 f1163 rg_75_34_0_1 (by first | decide | omega) (by first | decide | omega) (by decide)
          have q1280 : h1149 75 34 = h1116 75 34 := by rw [← e1151]; exact x_up_i (by first | decide | omega)
          refine x_getC (np := 58) (x := 738) (f := 34) (q := (h1116 75 34)) (by decide +kernel) (by decide) (by decide +kernel) (q1279.trans q1280) (fun l1281 => ?_)
          refine x_ifz (k := 1) (tg := 66) (np := 61) (by decide +kernel) (by decide) l1281 (fun q1282 => ?_) (fun q1283 => ?_)
          · have q1282 : (h1116 75 34) ≠ 2147483648 := q1282
            refine x_aload (np := 67) (x := 0) (by decide +kernel) rfl (x_nc_le (by decide)) ?_
            refine x_dup (np := 68) (x := 0) (by decide +kernel) (by have z := x_nc_le (k := 75) (by decide); unfold x_r; omega) ?_
            have q1284 : h1161 75 34 = h1149 75 34 := jK 0 f1163 rg_75_34_0_1 (by first | decide | omega) (by first | decide | omega) (by decide)
            have q1285 : h1149 75 34 = h1116 75 34 := by rw [← e1151]; exact x_up_i (by first | decide | omega)
            refine x_getC (np := 71) (x := 738) (f := 34) (q := (h1116 75 34)) (by decide +kernel) (by decide) (by decide +kernel) (q1284.trans q1285) (fun l1286 => ?_)
            refine x_const (np := 72) (x := 9223372043297226753) (a := 2147483649) (by decide +kernel) (by decide) (by decide) ?_
            refine x_addA (by rw [tb_b259]; decide +kernel) l1281 (by decide) (fun v1287 l1288 => ?_)
            refine x_putI (np := 76) (x := 738) (f := 34) (by decide +kernel) (by decide +kernel) l1288 (Or.inl (by decide)) ?_
            have j1290 := jU (e := 34) (v := v1287) 0 j1162 rg_75_34_0_1 (by first | decide | omega) (by first | decide | omega) (by first | decide | omega)
            have f1292 := jF (e := 34) (v := v1287) 0 f1165 rg_75_34_0_1 (by first | decide | omega) (by first | decide | omega) (by decide)
            have f1293 := jF (e := 34) (v := v1287) 0 f1166 rg_75_34_0_1 (by first | decide | omega) (by first | decide | omega) (by decide)
            generalize e1291 : x_up h1161 75 34 v1287 = h1289 at j1290 f1292 f1293 ⊢
            refine x_aload (np := 77) (x := 0) (by decide +kernel) rfl (x_nc_le (by decide)) ?_
            have q1294 : h1289 75 33 = h1161 75 33 := by rw [← e1291]; exact x_up_i (by first | decide | omega)
            have q1295 : h1161 75 33 = h1149 75 33 := jK 0 f1163 rg_75_33_0_1 (by first | decide | omega) (by first | decide | omega) (by decide)
            have q1296 : h1149 75 33 = h1116 75 33 := by rw [← e1151]; exact x_up_i (by first | decide | omega)
            have q1297 : h1116 75 33 = h2 75 33 := jK 0 f1118 rg_75_33_0_1 (by first | decide | omega) (by first | decide | omega) (by decide)
            have q1298 : h2 75 33 = h 75 33 := by rw [← e4]; exact x_up_i (by first | decide | omega)
            have b1299 := jB (e := 33) 0 hJ rg_75_33_0_1 (by first | decide | omega) (by first | decide | omega)
            refine x_getC (np := 80) (x := 737) (f := 33) (q := (h 75 33)) (by decide +kernel) (by decide) (by decide +kernel) ((((q1294.trans q1295).trans q1296).trans q1297).trans q1298) (fun l1300 => ?_)
            refine x_ifz (k := 0) (tg := 85) (np := 83) (by decide +kernel) (by decide) l1300 (fun q1301 => ?_) (fun q1302 => ?_)
            · have q1301 : (h 75 33) = 2147483648 := q1301
              refine x_iload (np := 86) (x := 3) (by decide +kernel) rfl l1159 ?_
              refine x_const (np := 87) (x := 9223372043297226753) (a := 2147483649) (by decide +kernel) (by decide) (by decide) ?_
              refine x_icmp (k := 0) (tg := 95) (np := 90) (by decide +kernel) (by decide) l1159 (by decide) (fun q1303 => ?_) (fun q1304 => ?_)
              · have q1303 : v1158 = 2147483649 := q1303
                refine x_aload (np := 96) (x := 0) (by decide +kernel) rfl (x_nc_le (by decide)) ?_
                have q1305 : h1289 75 28 = 94 := by have z := jB (e := 28) 0 j1290 rg_75_28_0_1 (by decide) (by decide); omega
                refine x_getR (np := 99) (x := 732) (f := 28) (q := 94) (by decide +kernel) (by decide) (by decide +kernel) q1305 ?_
                refine x_iload (np := 100) (x := 2) (by decide +kernel) rfl (by decide) ?_
                refine x_const (np := 101) (x := 9223372034707292159) (a := 2147483647) (by decide +kernel) (by decide) (by decide) ?_
                refine x_ast (np := 102) (x := 0) (kd := 1) (n := 6) (i := 0) (by decide +kernel) (Or.inl rfl) (by decide +kernel) (by first | decide | omega) (by first | decide | omega) (by decide) (by decide) (fun z => absurd z (by decide)) ?_
                have j1307 := jU (e := 0) (v := 2147483647) 0 j1290 rg_94_0_1_6 (by first | decide | omega) (by first | decide | omega) (by first | decide | omega)
                have f1309 := jF (e := 0) (v := 2147483647) 0 f1292 rg_94_0_1_6 (by first | decide | omega) (by first | decide | omega) (by decide)
                have f1310 := jF (e := 0) (v := 2147483647) 0 f1293 rg_94_0_1_6 (by first | decide | omega) (by first | decide | omega) (by decide)
                generalize e1308 : x_up h1289 94 0 2147483647 = h1306 at j1307 f1309 f1310 ⊢
                refine x_aload (np := 103) (x := 0) (by decide +kernel) rfl (x_nc_le (by decide)) ?_
                have q1311 : h1306 75 27 = 93 := by have z := jB (e := 27) 0 j1307 rg_75_27_0_1 (by decide) (by decide); omega
                refine x_getR (np := 106) (x := 731) (f := 27) (q := 93) (by decide +kernel) (by decide) (by decide +kernel) q1311 ?_
                refine x_iload (np := 107) (x := 2) (by decide +kernel) rfl (by decide) ?_
                have q1312 : h1306 93 0 = h1289 93 0 := by rw [← e1308]; exact x_up_k (by decide)
                have q1313 : h1289 93 0 = h1161 93 0 := by rw [← e1291]; exact x_up_k (by decide)
                have b1314 := jB (e := 0) 0 j1162 rg_93_0_1_6 (by first | decide | omega) (by first | decide | omega)
                refine x_aldC (np := 108) (x := 0) (n := 6) (i := 0) (q := (h1161 93 0)) (by decide +kernel) (by decide +kernel) (by first | decide | omega) (by first | decide | omega) (by decide) (q1312.trans q1313) (fun l1315 => ?_)
                refine x_ifz (k := 2) (tg := 122) (np := 111) (by decide +kernel) (by decide) l1315 (fun q1316 => ?_) (fun q1317 => ?_)
                · have q1316 : (h1161 93 0) < 2147483648 := q1316
                  refine x_aload (np := 123) (x := 0) (by decide +kernel) rfl (x_nc_le (by decide)) ?_
                  have q1318 : h1306 75 28 = 94 := by have z := jB (e := 28) 0 j1307 rg_75_28_0_1 (by decide) (by decide); omega
                  refine x_getR (np := 126) (x := 732) (f := 28) (q := 94) (by decide +kernel) (by decide) (by decide +kernel) q1318 ?_
                  refine x_iload (np := 127) (x := 2) (by decide +kernel) rfl (by decide) ?_
                  have q1319 : h1306 94 0 = 2147483647 := by rw [← e1308]; exact x_up_at
                  refine x_aldC (np := 128) (x := 0) (n := 6) (i := 0) (q := 2147483647) (by decide +kernel) (by decide +kernel) (by first | decide | omega) (by first | decide | omega) (by decide) q1319 (fun l1320 => ?_)
                  refine x_ifz (k := 3) (tg := 135) (np := 131) (by decide +kernel) (by decide) (by decide) (fun q1321 => ?_) (fun q1322 => ?_)
                  · have q1321 : 2147483648 ≤ 2147483647 := q1321
                    exfalso; omega
                  have q1322 : ¬ (2147483648 ≤ 2147483647) := q1322
                  refine x_const (np := 132) (x := 9223372034707292159) (a := 2147483647) (by decide +kernel) (by decide) (by decide) ?_
                  refine x_goto (np := 135) (x := 140) (by decide +kernel) ?_
                  refine x_istore (np := 142) (x := 5) (lo' := [x_r 75, iv_c 2147483649, iv_c 2147483648, iv_c v1158, iv_c 2147483649, iv_c 2147483647]) (by decide +kernel) (by decide) (Nat.le_of_ble_eq_true rfl) rfl ?_
                  refine x_iload (np := 144) (x := 5) (by decide +kernel) rfl (by decide) ?_
                  refine x_ifz (k := 2) (tg := 151) (np := 147) (by decide +kernel) (by decide) (by decide) (fun q1323 => ?_) (fun q1324 => ?_)
                  · have q1323 : 2147483647 < 2147483648 := q1323
                    refine x_const (np := 152) (x := 9223372039002259456) (a := 2147483648) (by decide +kernel) (by decide) (by decide) ?_
                    refine x_istore (np := 154) (x := 4) (lo' := [x_r 75, iv_c 2147483649, iv_c 2147483648, iv_c v1158, iv_c 2147483648, iv_c 2147483647]) (by decide +kernel) (by decide) (Nat.le_of_ble_eq_true rfl) rfl ?_
                    refine x_iload (np := 156) (x := 4) (by decide +kernel) rfl (by decide) ?_
                    refine x_ifz (k := 0) (tg := 180) (np := 159) (by decide +kernel) (by decide) (by decide) (fun q1325 => ?_) (fun q1326 => ?_)
                    · have q1325 : 2147483648 = 2147483648 := q1325
                      refine x_iinc (np := 183) (i := 2) (j := 2147483647) (v := 2147483647) (lo' := [x_r 75, iv_c 2147483649, iv_c 2147483647, iv_c v1158, iv_c 2147483648, iv_c 2147483647]) (by decide +kernel) (by decide) (by decide) rfl (by decide) (by first | decide | omega) (by first | decide | omega) rfl ?_
                      refine x_goto (np := 186) (x := 12) (by decide +kernel) ?_
                      have q1327 : h1306 75 30 = h1289 75 30 := by rw [← e1308]; exact x_up_k (by decide)
                      have q1328 : h1289 75 30 = h1161 75 30 := by rw [← e1291]; exact x_up_i (by first | decide | omega)
                      have q1329 : h1161 75 30 = h1149 75 30 := jK 0 f1163 rg_75_30_0_1 (by first | decide | omega) (by first | decide | omega) (by decide)
                      have q1330 : h1149 75 30 = (1 + (h1116 75 30)) := by rw [← e1151]; exact x_up_at
                      exact i1140 (iv_c v1158) (iv_c 2147483647) h1306 (by first | decide | omega) j1307 f1310 (by first | decide | omega)
                    have q1326 : ¬ (2147483648 = 2147483648) := q1326
                    exfalso; omega
                  have q1324 : ¬ (2147483647 < 2147483648) := q1324
                  exfalso; omega
                have q1317 : ¬ ((h1161 93 0) < 2147483648) := q1317
                refine x_aload (np := 112) (x := 0) (by decide +kernel) rfl (x_nc_le (by decide)) ?_
                refine x_aload (np := 113) (x := 0) (by decide +kernel) rfl (x_nc_le (by decide)) ?_
                have q1331 : h1306 75 27 = 93 := by have z := jB (e := 27) 0 j1307 rg_75_27_0_1 (by decide) (by decide); omega
                refine x_getR (np := 116) (x := 731) (f := 27) (q := 93) (by decide +kernel) (by decide) (by decide +kernel) q1331 ?_
                refine x_iload (np := 117) (x := 2) (by decide +kernel) rfl (by decide) ?_
                have q1332 : h1306 93 0 = h1289 93 0 := by rw [← e1308]; exact x_up_k (by decide)
                have q1333 : h1289 93 0 = h1161 93 0 := by rw [← e1291]; exact x_up_k (by decide)
                refine x_aldC (np := 118) (x := 0) (n := 6) (i := 0) (q := (h1161 93 0)) (by decide +kernel) (by decide +kernel) (by first | decide | omega) (by first | decide | omega) (by decide) (q1332.trans q1333) (fun l1334 => ?_)
                refine x_const (np := 119) (x := 9223372039002259456) (a := 2147483648) (by decide +kernel) (by decide) (by decide) ?_
                refine x_cV (t := 6) (mj := 248) (n := 3) (rc := 12) (ml := 4) (nr := 0) (np := 122) (as := [x_r 75, iv_c (h1161 93 0), iv_c 2147483648]) (rest := []) (lo1 := [x_r 75, iv_c (h1161 93 0), iv_c 2147483648, 147573952589676412928]) (by decide +kernel) (by decide) (by decide +kernel) (x_rb_of (by decide +kernel)) rfl rfl (x_wr (by decide) (x_wi l1315 (x_wi (by decide) x_wn))) x_wn (by decide) rfl (c248_75 j1307  (by first | decide | omega) (by first | decide | omega)) (fun h1338 q1337 => ?_)
                obtain ⟨j1339, f1340⟩ := q1337
                have f1343 := Fr.trans f1309 f1340 (by decide)
                have f1344 := Fr.trans f1310 f1340 (by decide)
                refine x_aload (np := 123) (x := 0) (by decide +kernel) rfl (x_nc_le (by decide)) ?_
                have q1345 : h1338 75 28 = 94 := by have z := jB (e := 28) 0 j1339 rg_75_28_0_1 (by decide) (by decide); omega
                refine x_getR (np := 126) (x := 732) (f := 28) (q := 94) (by decide +kernel) (by decide) (by decide +kernel) q1345 ?_
                refine x_iload (np := 127) (x := 2) (by decide +kernel) rfl (by decide) ?_
                have q1346 : h1338 94 0 = h1306 94 0 := jK 0 f1340 rg_94_0_1_6 (by first | decide | omega) (by first | decide | omega) (by decide)
                have q1347 : h1306 94 0 = 2147483647 := by rw [← e1308]; exact x_up_at
                refine x_aldC (np := 128) (x := 0) (n := 6) (i := 0) (q := 2147483647) (by decide +kernel) (by decide +kernel) (by first | decide | omega) (by first | decide | omega) (by decide) (q1346.trans q1347) (fun l1348 => ?_)
                refine x_ifz (k := 3) (tg := 135) (np := 131) (by decide +kernel) (by decide) (by decide) (fun q1349 => ?_) (fun q1350 => ?_)
                · have q1349 : 2147483648 ≤ 2147483647 := q1349
                  exfalso; omega
                have q1350 : ¬ (2147483648 ≤ 2147483647) := q1350
                refine x_const (np := 132) (x := 9223372034707292159) (a := 2147483647) (by decide +kernel) (by decide) (by decide) ?_
                refine x_goto (np := 135) (x := 140) (by decide +kernel) ?_
                refine x_istore (np := 142) (x := 5) (lo' := [x_r 75, iv_c 2147483649, iv_c 2147483648, iv_c v1158, iv_c 2147483649, iv_c 2147483647]) (by decide +kernel) (by decide) (Nat.le_of_ble_eq_true rfl) rfl ?_
                refine x_iload (np := 144) (x := 5) (by decide +kernel) rfl (by decide) ?_
                refine x_ifz (k := 2) (tg := 151) (np := 147) (by decide +kernel) (by decide) (by decide) (fun q1351 => ?_) (fun q1352 => ?_)
                · have q1351 : 2147483647 < 2147483648 := q1351
                  refine x_const (np := 152) (x := 9223372039002259456) (a := 2147483648) (by decide +kernel) (by decide) (by decide) ?_
                  refine x_istore (np := 154) (x := 4) (lo' := [x_r 75, iv_c 2147483649, iv_c 2147483648, iv_c v1158, iv_c 2147483648, iv_c 2147483647]) (by decide +kernel) (by decide) (Nat.le_of_ble_eq_true rfl) rfl ?_
                  refine x_iload (np := 156) (x := 4) (by decide +kernel) rfl (by decide) ?_
                  refine x_ifz (k := 0) (tg := 180) (np := 159) (by decide +kernel) (by decide) (by decide) (fun q1353 => ?_) (fun q1354 => ?_)
                  · have q1353 : 2147483648 = 2147483648 := q1353
                    refine x_iinc (np := 183) (i := 2) (j := 2147483647) (v := 2147483647) (lo' := [x_r 75, iv_c 2147483649, iv_c 2147483647, iv_c v1158, iv_c 2147483648, iv_c 2147483647]) (by decide +kernel) (by decide) (by decide) rfl (by decide) (by first | decide | omega) (by first | decide | omega) rfl ?_
                    refine x_goto (np := 186) (x := 12) (by decide +kernel) ?_
                    have q1355 : h1338 75 30 = h1306 75 30 := jK 0 f1340 rg_75_30_0_1 (by first | decide | omega) (by first | decide | omega) (by decide)
                    have q1356 : h1306 75 30 = h1289 75 30 := by rw [← e1308]; exact x_up_k (by decide)
                    have q1357 : h1289 75 30 = h1161 75 30 := by rw [← e1291]; exact x_up_i (by first | decide | omega)
                    have q1358 : h1161 75 30 = h1149 75 30 := jK 0 f1163 rg_75_30_0_1 (by first | decide | omega) (by first | decide | omega) (by decide)
                    have q1359 : h1149 75 30 = (1 + (h1116 75 30)) := by rw [← e1151]; exact x_up_at
                    exact i1140 (iv_c v1158) (iv_c 2147483647) h1338 (by first | decide | omega) j1339 f1344 (by first | decide | omega)
                  have q1354 : ¬ (2147483648 = 2147483648) := q1354
                  exfalso; omega
                have q1352 : ¬ (2147483647 < 2147483648) := q1352
                exfalso; omega
              have q1304 : ¬ (v1158 = 2147483649) := q1304
              exfalso; omega
            have q1302 : ¬ ((h 75 33) = 2147483648) := q1302
            refine x_const (np := 84) (x := 9223372043297226753) (a := 2147483649) (by decide +kernel) (by decide) (by decide) ?_
            have q1360 : h1289 75 30 = h1161 75 30 := by rw [← e1291]; exact x_up_i (by first | decide | omega)
            have q1361 : h1161 75 30 = h1149 75 30 := jK 0 f1163 rg_75_30_0_1 (by first | decide | omega) (by first | decide | omega) (by decide)
            have q1362 : h1149 75 30 = (1 + (h1116 75 30)) := by rw [← e1151]; exact x_up_at
            refine x_retI (np := 85) (x := 0) (by decide +kernel) (by decide) (Or.inr ⟨by decide +kernel, by first | decide | omega, by first | decide | omega⟩) ⟨_, rfl, (by decide), ?_⟩
            exact ⟨j1290, f1292, (by first | decide | omega), (fun z => by first | decide | omega)⟩
          have q1283 : ¬ ((h1116 75 34) ≠ 2147483648) := q1283
          refine x_aload (np := 62) (x := 0) (by decide +kernel) rfl (x_nc_le (by decide)) ?_
          refine x_iload (np := 63) (x := 2) (by decide +kernel) rfl (by decide) ?_
          refine x_cV (t := 6) (mj := 258) (n := 2) (rc := 12) (ml := 4) (nr := 0) (np := 66) (as := [x_r 75, iv_c 2147483648]) (rest := []) (lo1 := [x_r 75, iv_c 2147483648, 147573952589676412928, 147573952589676412928]) (by decide +kernel) (by decide) (by decide +kernel) (x_rb_of (by decide +kernel)) rfl rfl (x_wr (by decide) (x_wi (by decide) x_wn)) x_wn (by decide) rfl (c258_75 j1162  (by first | decide | omega)) (fun h1366 q1365 => ?_)
          obtain ⟨j1367, f1368⟩ := q1365
          have f1371 := Fr.trans f1165 f1368 (by decide)
          have f1372 := Fr.trans f1166 f1368 (by decide)
          refine x_aload (np := 67) (x := 0) (by decide +kernel) rfl (x_nc_le (by decide)) ?_
          refine x_dup (np := 68) (x := 0) (by decide +kernel) (by have z := x_nc_le (k := 75) (by decide); unfold x_r; omega) ?_
          have q1373 : h1366 75 34 = h1161 75 34 := jK 0 f1368 rg_75_34_0_1 (by first | decide | omega) (by first | decide | omega) (by decide)
          have q1374 : h1161 75 34 = h1149 75 34 := jK 0 f1163 rg_75_34_0_1 (by first | decide | omega) (by first | decide | omega) (by decide)
          have q1375 : h1149 75 34 = h1116 75 34 := by rw [← e1151]; exact x_up_i (by first | decide | omega)
          refine x_getC (np := 71) (x := 738) (f := 34) (q := (h1116 75 34)) (by decide +kernel) (by decide) (by decide +kernel) ((q1373.trans q1374).trans q1375) (fun l1376 => ?_)
          refine x_const (np := 72) (x := 9223372043297226753) (a := 2147483649) (by decide +kernel) (by decide) (by decide) ?_
          refine x_iadd (np := 73) (x := 0) (v := (1 + (h1116 75 34))) (by decide +kernel) l1281 (by decide) (by first | decide | omega) (by first | decide | omega) ?_
          refine x_putI (np := 76) (x := 738) (f := 34) (by decide +kernel) (by decide +kernel) (by first | decide | omega) (Or.inl (by decide)) ?_
          have j1378 := jU (e := 34) (v := (1 + (h1116 75 34))) 0 j1367 rg_75_34_0_1 (by first | decide | omega) (by first | decide | omega) (by first | decide | omega)
          have f1380 := jF (e := 34) (v := (1 + (h1116 75 34))) 0 f1371 rg_75_34_0_1 (by first | decide | omega) (by first | decide | omega) (by decide)
          have f1381 := jF (e := 34) (v := (1 + (h1116 75 34))) 0 f1372 rg_75_34_0_1 (by first | decide | omega) (by first | decide | omega) (by decide)
          generalize e1379 : x_up h1366 75 34 (1 + (h1116 75 34)) = h1377 at j1378 f1380 f1381 ⊢
          refine x_aload (np := 77) (x := 0) (by decide +kernel) rfl (x_nc_le (by decide)) ?_
          have q1382 : h1377 75 33 = h1366 75 33 := by rw [← e1379]; exact x_up_i (by first | decide | omega)
          have q1383 : h1366 75 33 = h1161 75 33 := jK 0 f1368 rg_75_33_0_1 (by first | decide | omega) (by first | decide | omega) (by decide)
          have q1384 : h1161 75 33 = h1149 75 33 := jK 0 f1163 rg_75_33_0_1 (by first | decide | omega) (by first | decide | omega) (by decide)
          have q1385 : h1149 75 33 = h1116 75 33 := by rw [← e1151]; exact x_up_i (by first | decide | omega)
          have q1386 : h1116 75 33 = h2 75 33 := jK 0 f1118 rg_75_33_0_1 (by first | decide | omega) (by first | decide | omega) (by decide)
          have q1387 : h2 75 33 = h 75 33 := by rw [← e4]; exact x_up_i (by first | decide | omega)
          have b1388 := jB (e := 33) 0 hJ rg_75_33_0_1 (by first | decide | omega) (by first | decide | omega)
          refine x_getC (np := 80) (x := 737) (f := 33) (q := (h 75 33)) (by decide +kernel) (by decide) (by decide +kernel) (((((q1382.trans q1383).trans q1384).trans q1385).trans q1386).trans q1387) (fun l1389 => ?_)
          refine x_ifz (k := 0) (tg := 85) (np := 83) (by decide +kernel) (by decide) l1389 (fun q1390 => ?_) (fun q1391 => ?_)
          · have q1390 : (h 75 33) = 2147483648 := q1390
            refine x_iload (np := 86) (x := 3) (by decide +kernel) rfl l1159 ?_
            refine x_const (np := 87) (x := 9223372043297226753) (a := 2147483649) (by decide +kernel) (by decide) (by decide) ?_
            refine x_icmp (k := 0) (tg := 95) (np := 90) (by decide +kernel) (by decide) l1159 (by decide) (fun q1392 => ?_) (fun q1393 => ?_)
            · have q1392 : v1158 = 2147483649 := q1392
              refine x_aload (np := 96) (x := 0) (by decide +kernel) rfl (x_nc_le (by decide)) ?_
              have q1394 : h1377 75 28 = 94 := by have z := jB (e := 28) 0 j1378 rg_75_28_0_1 (by decide) (by decide); omega
              refine x_getR (np := 99) (x := 732) (f := 28) (q := 94) (by decide +kernel) (by decide) (by decide +kernel) q1394 ?_
              refine x_iload (np := 100) (x := 2) (by decide +kernel) rfl (by decide) ?_
              refine x_const (np := 101) (x := 9223372034707292159) (a := 2147483647) (by decide +kernel) (by decide) (by decide) ?_
              refine x_ast (np := 102) (x := 0) (kd := 1) (n := 6) (i := 0) (by decide +kernel) (Or.inl rfl) (by decide +kernel) (by first | decide | omega) (by first | decide | omega) (by decide) (by decide) (fun z => absurd z (by decide)) ?_
              have j1396 := jU (e := 0) (v := 2147483647) 0 j1378 rg_94_0_1_6 (by first | decide | omega) (by first | decide | omega) (by first | decide | omega)
              have f1398 := jF (e := 0) (v := 2147483647) 0 f1380 rg_94_0_1_6 (by first | decide | omega) (by first | decide | omega) (by decide)
              have f1399 := jF (e := 0) (v := 2147483647) 0 f1381 rg_94_0_1_6 (by first | decide | omega) (by first | decide | omega) (by decide)
              generalize e1397 : x_up h1377 94 0 2147483647 = h1395 at j1396 f1398 f1399 ⊢
              refine x_aload (np := 103) (x := 0) (by decide +kernel) rfl (x_nc_le (by decide)) ?_
              have q1400 : h1395 75 27 = 93 := by have z := jB (e := 27) 0 j1396 rg_75_27_0_1 (by decide) (by decide); omega
              refine x_getR (np := 106) (x := 731) (f := 27) (q := 93) (by decide +kernel) (by decide) (by decide +kernel) q1400 ?_
              refine x_iload (np := 107) (x := 2) (by decide +kernel) rfl (by decide) ?_
              have q1401 : h1395 93 0 = h1377 93 0 := by rw [← e1397]; exact x_up_k (by decide)
              have q1402 : h1377 93 0 = h1366 93 0 := by rw [← e1379]; exact x_up_k (by decide)
              have q1403 : h1366 93 0 = h1161 93 0 := jK 0 f1368 rg_93_0_1_6 (by first | decide | omega) (by first | decide | omega) (by decide)
              have b1404 := jB (e := 0) 0 j1162 rg_93_0_1_6 (by first | decide | omega) (by first | decide | omega)
              refine x_aldC (np := 108) (x := 0) (n := 6) (i := 0) (q := (h1161 93 0)) (by decide +kernel) (by decide +kernel) (by first | decide | omega) (by first | decide | omega) (by decide) ((q1401.trans q1402).trans q1403) (fun l1405 => ?_)
              refine x_ifz (k := 2) (tg := 122) (np := 111) (by decide +kernel) (by decide) l1405 (fun q1406 => ?_) (fun q1407 => ?_)
              · have q1406 : (h1161 93 0) < 2147483648 := q1406
                refine x_aload (np := 123) (x := 0) (by decide +kernel) rfl (x_nc_le (by decide)) ?_
                have q1408 : h1395 75 28 = 94 := by have z := jB (e := 28) 0 j1396 rg_75_28_0_1 (by decide) (by decide); omega
                refine x_getR (np := 126) (x := 732) (f := 28) (q := 94) (by decide +kernel) (by decide) (by decide +kernel) q1408 ?_
                refine x_iload (np := 127) (x := 2) (by decide +kernel) rfl (by decide) ?_
                have q1409 : h1395 94 0 = 2147483647 := by rw [← e1397]; exact x_up_at
                refine x_aldC (np := 128) (x := 0) (n := 6) (i := 0) (q := 2147483647) (by decide +kernel) (by decide +kernel) (by first | decide | omega) (by first | decide | omega) (by decide) q1409 (fun l1410 => ?_)
                refine x_ifz (k := 3) (tg := 135) (np := 131) (by decide +kernel) (by decide) (by decide) (fun q1411 => ?_) (fun q1412 => ?_)
                · have q1411 : 2147483648 ≤ 2147483647 := q1411
                  exfalso; omega
                have q1412 : ¬ (2147483648 ≤ 2147483647) := q1412
                refine x_const (np := 132) (x := 9223372034707292159) (a := 2147483647) (by decide +kernel) (by decide) (by decide) ?_
                refine x_goto (np := 135) (x := 140) (by decide +kernel) ?_
                refine x_istore (np := 142) (x := 5) (lo' := [x_r 75, iv_c 2147483649, iv_c 2147483648, iv_c v1158, iv_c 2147483649, iv_c 2147483647]) (by decide +kernel) (by decide) (Nat.le_of_ble_eq_true rfl) rfl ?_
                refine x_iload (np := 144) (x := 5) (by decide +kernel) rfl (by decide) ?_
                refine x_ifz (k := 2) (tg := 151) (np := 147) (by decide +kernel) (by decide) (by decide) (fun q1413 => ?_) (fun q1414 => ?_)
                · have q1413 : 2147483647 < 2147483648 := q1413
                  refine x_const (np := 152) (x := 9223372039002259456) (a := 2147483648) (by decide +kernel) (by decide) (by decide) ?_
                  refine x_istore (np := 154) (x := 4) (lo' := [x_r 75, iv_c 2147483649, iv_c 2147483648, iv_c v1158, iv_c 2147483648, iv_c 2147483647]) (by decide +kernel) (by decide) (Nat.le_of_ble_eq_true rfl) rfl ?_
                  refine x_iload (np := 156) (x := 4) (by decide +kernel) rfl (by decide) ?_
                  refine x_ifz (k := 0) (tg := 180) (np := 159) (by decide +kernel) (by decide) (by decide) (fun q1415 => ?_) (fun q1416 => ?_)
                  · have q1415 : 2147483648 = 2147483648 := q1415
                    refine x_iinc (np := 183) (i := 2) (j := 2147483647) (v := 2147483647) (lo' := [x_r 75, iv_c 2147483649, iv_c 2147483647, iv_c v1158, iv_c 2147483648, iv_c 2147483647]) (by decide +kernel) (by decide) (by decide) rfl (by decide) (by first | decide | omega) (by first | decide | omega) rfl ?_
                    refine x_goto (np := 186) (x := 12) (by decide +kernel) ?_
                    have q1417 : h1395 75 30 = h1377 75 30 := by rw [← e1397]; exact x_up_k (by decide)
                    have q1418 : h1377 75 30 = h1366 75 30 := by rw [← e1379]; exact x_up_i (by first | decide | omega)
                    have q1419 : h1366 75 30 = h1161 75 30 := jK 0 f1368 rg_75_30_0_1 (by first | decide | omega) (by first | decide | omega) (by decide)
                    have q1420 : h1161 75 30 = h1149 75 30 := jK 0 f1163 rg_75_30_0_1 (by first | decide | omega) (by first | decide | omega) (by decide)
                    have q1421 : h1149 75 30 = (1 + (h1116 75 30)) := by rw [← e1151]; exact x_up_at
                    exact i1140 (iv_c v1158) (iv_c 2147483647) h1395 (by first | decide | omega) j1396 f1399 (by first | decide | omega)
                  have q1416 : ¬ (2147483648 = 2147483648) := q1416
                  exfalso; omega
                have q1414 : ¬ (2147483647 < 2147483648) := q1414
                exfalso; omega
              have q1407 : ¬ ((h1161 93 0) < 2147483648) := q1407
              refine x_aload (np := 112) (x := 0) (by decide +kernel) rfl (x_nc_le (by decide)) ?_
              refine x_aload (np := 113) (x := 0) (by decide +kernel) rfl (x_nc_le (by decide)) ?_
              have q1422 : h1395 75 27 = 93 := by have z := jB (e := 27) 0 j1396 rg_75_27_0_1 (by decide) (by decide); omega
              refine x_getR (np := 116) (x := 731) (f := 27) (q := 93) (by decide +kernel) (by decide) (by decide +kernel) q1422 ?_
              refine x_iload (np := 117) (x := 2) (by decide +kernel) rfl (by decide) ?_
              have q1423 : h1395 93 0 = h1377 93 0 := by rw [← e1397]; exact x_up_k (by decide)
              have q1424 : h1377 93 0 = h1366 93 0 := by rw [← e1379]; exact x_up_k (by decide)
              have q1425 : h1366 93 0 = h1161 93 0 := jK 0 f1368 rg_93_0_1_6 (by first | decide | omega) (by first | decide | omega) (by decide)
              refine x_aldC (np := 118) (x := 0) (n := 6) (i := 0) (q := (h1161 93 0)) (by decide +kernel) (by decide +kernel) (by first | decide | omega) (by first | decide | omega) (by decide) ((q1423.trans q1424).trans q1425) (fun l1426 => ?_)
              refine x_const (np := 119) (x := 9223372039002259456) (a := 2147483648) (by decide +kernel) (by decide) (by decide) ?_
              refine x_cV (t := 6) (mj := 248) (n := 3) (rc := 12) (ml := 4) (nr := 0) (np := 122) (as := [x_r 75, iv_c (h1161 93 0), iv_c 2147483648]) (rest := []) (lo1 := [x_r 75, iv_c (h1161 93 0), iv_c 2147483648, 147573952589676412928]) (by decide +kernel) (by decide) (by decide +kernel) (x_rb_of (by decide +kernel)) rfl rfl (x_wr (by decide) (x_wi l1405 (x_wi (by decide) x_wn))) x_wn (by decide) rfl (c248_75 j1396  (by first | decide | omega) (by first | decide | omega)) (fun h1430 q1429 => ?_)
              obtain ⟨j1431, f1432⟩ := q1429
              have f1435 := Fr.trans f1398 f1432 (by decide)
              have f1436 := Fr.trans f1399 f1432 (by decide)
              refine x_aload (np := 123) (x := 0) (by decide +kernel) rfl (x_nc_le (by decide)) ?_
              have q1437 : h1430 75 28 = 94 := by have z := jB (e := 28) 0 j1431 rg_75_28_0_1 (by decide) (by decide); omega
              refine x_getR (np := 126) (x := 732) (f := 28) (q := 94) (by decide +kernel) (by decide) (by decide +kernel) q1437 ?_
              refine x_iload (np := 127) (x := 2) (by decide +kernel) rfl (by decide) ?_
              have q1438 : h1430 94 0 = h1395 94 0 := jK 0 f1432 rg_94_0_1_6 (by first | decide | omega) (by first | decide | omega) (by decide)
              have q1439 : h1395 94 0 = 2147483647 := by rw [← e1397]; exact x_up_at
              refine x_aldC (np := 128) (x := 0) (n := 6) (i := 0) (q := 2147483647) (by decide +kernel) (by decide +kernel) (by first | decide | omega) (by first | decide | omega) (by decide) (q1438.trans q1439) (fun l1440 => ?_)
              refine x_ifz (k := 3) (tg := 135) (np := 131) (by decide +kernel) (by decide) (by decide) (fun q1441 => ?_) (fun q1442 => ?_)
              · have q1441 : 2147483648 ≤ 2147483647 := q1441
                exfalso; omega
              have q1442 : ¬ (2147483648 ≤ 2147483647) := q1442
              refine x_const (np := 132) (x := 9223372034707292159) (a := 2147483647) (by decide +kernel) (by decide) (by decide) ?_
              refine x_goto (np := 135) (x := 140) (by decide +kernel) ?_
              refine x_istore (np := 142) (x := 5) (lo' := [x_r 75, iv_c 2147483649, iv_c 2147483648, iv_c v1158, iv_c 2147483649, iv_c 2147483647]) (by decide +kernel) (by decide) (Nat.le_of_ble_eq_true rfl) rfl ?_
              refine x_iload (np := 144) (x := 5) (by decide +kernel) rfl (by decide) ?_
              refine x_ifz (k := 2) (tg := 151) (np := 147) (by decide +kernel) (by decide) (by decide) (fun q1443 => ?_) (fun q1444 => ?_)
              · have q1443 : 2147483647 < 2147483648 := q1443
                refine x_const (np := 152) (x := 9223372039002259456) (a := 2147483648) (by decide +kernel) (by decide) (by decide) ?_
                refine x_istore (np := 154) (x := 4) (lo' := [x_r 75, iv_c 2147483649, iv_c 2147483648, iv_c v1158, iv_c 2147483648, iv_c 2147483647]) (by decide +kernel) (by decide) (Nat.le_of_ble_eq_true rfl) rfl ?_
                refine x_iload (np := 156) (x := 4) (by decide +kernel) rfl (by decide) ?_
                refine x_ifz (k := 0) (tg := 180) (np := 159) (by decide +kernel) (by decide) (by decide) (fun q1445 => ?_) (fun q1446 => ?_)
                · have q1445 : 2147483648 = 2147483648 := q1445
                  refine x_iinc (np := 183) (i := 2) (j := 2147483647) (v := 2147483647) (lo' := [x_r 75, iv_c 2147483649, iv_c 2147483647, iv_c v1158, iv_c 2147483648, iv_c 2147483647]) (by decide +kernel) (by decide) (by decide) rfl (by decide) (by first | decide | omega) (by first | decide | omega) rfl ?_
                  refine x_goto (np := 186) (x := 12) (by decide +kernel) ?_
                  have q1447 : h1430 75 30 = h1395 75 30 := jK 0 f1432 rg_75_30_0_1 (by first | decide | omega) (by first | decide | omega) (by decide)
                  have q1448 : h1395 75 30 = h1377 75 30 := by rw [← e1397]; exact x_up_k (by decide)
                  have q1449 : h1377 75 30 = h1366 75 30 := by rw [← e1379]; exact x_up_i (by first | decide | omega)
                  have q1450 : h1366 75 30 = h1161 75 30 := jK 0 f1368 rg_75_30_0_1 (by first | decide | omega) (by first | decide | omega) (by decide)
                  have q1451 : h1161 75 30 = h1149 75 30 := jK 0 f1163 rg_75_30_0_1 (by first | decide | omega) (by first | decide | omega) (by decide)
                  have q1452 : h1149 75 30 = (1 + (h1116 75 30)) := by rw [← e1151]; exact x_up_at
                  exact i1140 (iv_c v1158) (iv_c 2147483647) h1430 (by first | decide | omega) j1431 f1436 (by first | decide | omega)
                have q1446 : ¬ (2147483648 = 2147483648) := q1446
                exfalso; omega
              have q1444 : ¬ (2147483647 < 2147483648) := q1444
              exfalso; omega
            have q1393 : ¬ (v1158 = 2147483649) := q1393
            exfalso; omega
          have q1391 : ¬ ((h 75 33) = 2147483648) := q1391
          refine x_const (np := 84) (x := 9223372043297226753) (a := 2147483649) (by decide +kernel) (by decide) (by decide) ?_
          have q1453 : h1377 75 30 = h1366 75 30 := by rw [← e1379]; exact x_up_i (by first | decide | omega)
          have q1454 : h1366 75 30 = h1161 75 30 := jK 0 f1368 rg_75_30_0_1 (by first | decide | omega) (by first | decide | omega) (by decide)
          have q1455 : h1161 75 30 = h1149 75 30 := jK 0 f1163 rg_75_30_0_1 (by first | decide | omega) (by first | decide | omega) (by decide)
          have q1456 : h1149 75 30 = (1 + (h1116 75 30)) := by rw [← e1151]; exact x_up_at
          refine x_retI (np := 85) (x := 0) (by decide +kernel) (by decide) (Or.inr ⟨by decide +kernel, by first | decide | omega, by first | decide | omega⟩) ⟨_, rfl, (by decide), ?_⟩
          exact ⟨j1378, f1380, (by first | decide | omega), (fun z => by first | decide | omega)⟩
        have q1157 : ¬ ((1 + (h1116 75 30)) ≤ 2147503648) := q1157
        refine x_const (np := 42) (x := 9223372039002259456) (a := 2147483648) (by decide +kernel) (by decide) (by decide) ?_
        have q1457 : h1149 75 30 = (1 + (h1116 75 30)) := by rw [← e1151]; exact x_up_at
        refine x_retI (np := 43) (x := 0) (by decide +kernel) (by decide) (Or.inr ⟨by decide +kernel, by first | decide | omega, by first | decide | omega⟩) ⟨_, rfl, (by decide), ?_⟩
        exact ⟨j1150, f1152, (by first | decide | omega), (fun z => by first | decide | omega)⟩
      · intro w1120 w1121 h1122 q1458 j1125 f1124 b1123
        have f1459 := Fr.trans f5 f1124 (by decide)
        refine x_iload (np := 13) (x := 2) (by decide +kernel) rfl (by decide) ?_
        refine x_ifz (k := 2) (tg := 186) (np := 16) (by decide +kernel) (by decide) (by decide) (fun q1460 => ?_) (fun q1461 => ?_)
        · have q1460 : 2147483649 < 2147483648 := q1460
          exfalso; omega
        have q1461 : ¬ (2147483649 < 2147483648) := q1461
        refine x_iload (np := 18) (x := 4) (by decide +kernel) rfl (by decide) ?_
        refine x_ifz (k := 0) (tg := 102) (np := 21) (by decide +kernel) (by decide) (by decide) (fun q1462 => ?_) (fun q1463 => ?_)
        · have q1462 : 2147483649 = 2147483648 := q1462
          exfalso; omega
        have q1463 : ¬ (2147483649 = 2147483648) := q1463
        refine x_aload (np := 22) (x := 0) (by decide +kernel) rfl (x_nc_le (by decide)) ?_
        refine x_dup (np := 23) (x := 0) (by decide +kernel) (by have z := x_nc_le (k := 75) (by decide); unfold x_r; omega) ?_
        refine x_getC (np := 26) (x := 734) (f := 30) (q := (h1122 75 30)) (by decide +kernel) (by decide) (by decide +kernel) rfl (fun l1464 => ?_)
        refine x_const (np := 27) (x := 9223372043297226753) (a := 2147483649) (by decide +kernel) (by decide) (by decide) ?_
        refine x_iadd (np := 28) (x := 0) (v := (1 + (h1122 75 30))) (by decide +kernel) l1464 (by decide) (by first | decide | omega) (by first | decide | omega) ?_
        refine x_putI (np := 31) (x := 734) (f := 30) (by decide +kernel) (by decide +kernel) (by first | decide | omega) (Or.inl (by decide)) ?_
        have j1466 := jU (e := 30) (v := (1 + (h1122 75 30))) 0 j1125 rg_75_30_0_1 (by first | decide | omega) (by first | decide | omega) (by first | decide | omega)
        have f1468 := jF (e := 30) (v := (1 + (h1122 75 30))) 0 f1459 rg_75_30_0_1 (by first | decide | omega) (by first | decide | omega) (by decide)
        have f1469 := jF (e := 30) (v := (1 + (h1122 75 30))) 0 f1124 rg_75_30_0_1 (by first | decide | omega) (by first | decide | omega) (by decide)
        generalize e1467 : x_up h1122 75 30 (1 + (h1122 75 30)) = h1465 at j1466 f1468 f1469 ⊢
        refine x_aload (np := 32) (x := 0) (by decide +kernel) rfl (x_nc_le (by decide)) ?_
        have q1470 : h1465 75 30 = (1 + (h1122 75 30)) := by rw [← e1467]; exact x_up_at
        refine x_getC (np := 35) (x := 734) (f := 30) (q := (1 + (h1122 75 30))) (by decide +kernel) (by decide) (by decide +kernel) q1470 (fun l1471 => ?_)
        refine x_const (np := 38) (x := 9223457938348199456) (a := 2147503648) (by decide +kernel) (by decide) (by decide) ?_
        refine x_icmp (k := 5) (tg := 43) (np := 41) (by decide +kernel) (by decide) (by first | decide | omega) (by decide) (fun q1472 => ?_) (fun q1473 => ?_)
        · have q1472 : (1 + (h1122 75 30)) ≤ 2147503648 := q1472
          refine x_aload (np := 44) (x := 0) (by decide +kernel) rfl (x_nc_le (by decide)) ?_
          refine x_iload (np := 45) (x := 2) (by decide +kernel) rfl (by decide) ?_
          refine x_cI (t := 6) (mj := 254) (n := 2) (rc := 12) (ml := 4) (nr := 0) (np := 48) (as := [x_r 75, iv_c 2147483649]) (rest := []) (lo1 := [x_r 75, iv_c 2147483649, 147573952589676412928, 147573952589676412928]) (by decide +kernel) (by decide) (by decide +kernel) (x_rb_of (by decide +kernel)) rfl rfl (x_wr (by decide) (x_wi (by decide) x_wn)) x_wn (by decide) rfl (c254_75 j1466  (by first | decide | omega)) (fun v1474 h1477 l1475 q1476 => ?_)
          obtain ⟨j1478, f1479, b1480⟩ := q1476
          have f1481 := Fr.trans f1468 f1479 (by decide)
          have f1482 := Fr.trans f1469 f1479 (by decide)
          refine x_istore (np := 49) (x := 3) (lo' := [x_r 75, iv_c 2147483649, iv_c 2147483649, iv_c v1474, iv_c 2147483649, w1121]) (by decide +kernel) l1475 (Nat.le_of_ble_eq_true rfl) rfl ?_
          refine x_iload (np := 50) (x := 3) (by decide +kernel) rfl l1475 ?_
          refine x_const (np := 51) (x := 9223372043297226753) (a := 2147483649) (by decide +kernel) (by decide) (by decide) ?_
          refine x_icmp (k := 1) (tg := 85) (np := 54) (by decide +kernel) (by decide) l1475 (by decide) (fun q1483 => ?_) (fun q1484 => ?_)
          · have q1483 : v1474 ≠ 2147483649 := q1483
            refine x_iload (np := 86) (x := 3) (by decide +kernel) rfl l1475 ?_
            refine x_const (np := 87) (x := 9223372043297226753) (a := 2147483649) (by decide +kernel) (by decide) (by decide) ?_
            refine x_icmp (k := 0) (tg := 95) (np := 90) (by decide +kernel) (by decide) l1475 (by decide) (fun q1485 => ?_) (fun q1486 => ?_)
            · have q1485 : v1474 = 2147483649 := q1485
              exfalso; omega
            have q1486 : ¬ (v1474 = 2147483649) := q1486
            refine x_iload (np := 91) (x := 2) (by decide +kernel) rfl (by decide) ?_
            refine x_iload (np := 92) (x := 1) (by decide +kernel) rfl (by decide) ?_
            refine x_icmp (k := 1) (tg := 102) (np := 95) (by decide +kernel) (by decide) (by decide) (by decide) (fun q1487 => ?_) (fun q1488 => ?_)
            · have q1487 : 2147483649 ≠ 2147483649 := q1487
              exfalso; omega
            have q1488 : ¬ (2147483649 ≠ 2147483649) := q1488
            refine x_aload (np := 96) (x := 0) (by decide +kernel) rfl (x_nc_le (by decide)) ?_
            have q1489 : h1477 75 28 = 94 := by have z := jB (e := 28) 0 j1478 rg_75_28_0_1 (by decide) (by decide); omega
            refine x_getR (np := 99) (x := 732) (f := 28) (q := 94) (by decide +kernel) (by decide) (by decide +kernel) q1489 ?_
            refine x_iload (np := 100) (x := 2) (by decide +kernel) rfl (by decide) ?_
            refine x_const (np := 101) (x := 9223372034707292159) (a := 2147483647) (by decide +kernel) (by decide) (by decide) ?_
            refine x_ast (np := 102) (x := 0) (kd := 1) (n := 6) (i := 1) (by decide +kernel) (Or.inl rfl) (by decide +kernel) (by first | decide | omega) (by first | decide | omega) (by decide) (by decide) (fun z => absurd z (by decide)) ?_
            have j1491 := jU (e := 1) (v := 2147483647) 1 j1478 rg_94_0_1_6 (by first | decide | omega) (by first | decide | omega) (by first | decide | omega)
            have f1493 := jF (e := 1) (v := 2147483647) 1 f1481 rg_94_0_1_6 (by first | decide | omega) (by first | decide | omega) (by decide)
            have f1494 := jF (e := 1) (v := 2147483647) 1 f1482 rg_94_0_1_6 (by first | decide | omega) (by first | decide | omega) (by decide)
            generalize e1492 : x_up h1477 94 1 2147483647 = h1490 at j1491 f1493 f1494 ⊢
            refine x_aload (np := 103) (x := 0) (by decide +kernel) rfl (x_nc_le (by decide)) ?_
            have q1495 : h1490 75 27 = 93 := by have z := jB (e := 27) 0 j1491 rg_75_27_0_1 (by decide) (by decide); omega
            refine x_getR (np := 106) (x := 731) (f := 27) (q := 93) (by decide +kernel) (by decide) (by decide +kernel) q1495 ?_
            refine x_iload (np := 107) (x := 2) (by decide +kernel) rfl (by decide) ?_
            have q1496 : h1490 93 1 = h1477 93 1 := by rw [← e1492]; exact x_up_k (by decide)
            have b1497 := jB (e := 1) 1 j1478 rg_93_0_1_6 (by first | decide | omega) (by first | decide | omega)
            refine x_aldC (np := 108) (x := 0) (n := 6) (i := 1) (q := (h1477 93 1)) (by decide +kernel) (by decide +kernel) (by first | decide | omega) (by first | decide | omega) (by decide) q1496 (fun l1498 => ?_)
            refine x_ifz (k := 2) (tg := 122) (np := 111) (by decide +kernel) (by decide) l1498 (fun q1499 => ?_) (fun q1500 => ?_)
            · have q1499 : (h1477 93 1) < 2147483648 := q1499
              refine x_aload (np := 123) (x := 0) (by decide +kernel) rfl (x_nc_le (by decide)) ?_
              have q1501 : h1490 75 28 = 94 := by have z := jB (e := 28) 0 j1491 rg_75_28_0_1 (by decide) (by decide); omega
              refine x_getR (np := 126) (x := 732) (f := 28) (q := 94) (by decide +kernel) (by decide) (by decide +kernel) q1501 ?_
              refine x_iload (np := 127) (x := 2) (by decide +kernel) rfl (by decide) ?_
              have q1502 : h1490 94 1 = 2147483647 := by rw [← e1492]; exact x_up_at
              refine x_aldC (np := 128) (x := 0) (n := 6) (i := 1) (q := 2147483647) (by decide +kernel) (by decide +kernel) (by first | decide | omega) (by first | decide | omega) (by decide) q1502 (fun l1503 => ?_)
              refine x_ifz (k := 3) (tg := 135) (np := 131) (by decide +kernel) (by decide) (by decide) (fun q1504 => ?_) (fun q1505 => ?_)
              · have q1504 : 2147483648 ≤ 2147483647 := q1504
                exfalso; omega
              have q1505 : ¬ (2147483648 ≤ 2147483647) := q1505
              refine x_const (np := 132) (x := 9223372034707292159) (a := 2147483647) (by decide +kernel) (by decide) (by decide) ?_
              refine x_goto (np := 135) (x := 140) (by decide +kernel) ?_
              refine x_istore (np := 142) (x := 5) (lo' := [x_r 75, iv_c 2147483649, iv_c 2147483649, iv_c v1474, iv_c 2147483649, iv_c 2147483647]) (by decide +kernel) (by decide) (Nat.le_of_ble_eq_true rfl) rfl ?_
              refine x_iload (np := 144) (x := 5) (by decide +kernel) rfl (by decide) ?_
              refine x_ifz (k := 2) (tg := 151) (np := 147) (by decide +kernel) (by decide) (by decide) (fun q1506 => ?_) (fun q1507 => ?_)
              · have q1506 : 2147483647 < 2147483648 := q1506
                refine x_const (np := 152) (x := 9223372039002259456) (a := 2147483648) (by decide +kernel) (by decide) (by decide) ?_
                refine x_istore (np := 154) (x := 4) (lo' := [x_r 75, iv_c 2147483649, iv_c 2147483649, iv_c v1474, iv_c 2147483648, iv_c 2147483647]) (by decide +kernel) (by decide) (Nat.le_of_ble_eq_true rfl) rfl ?_
                refine x_iload (np := 156) (x := 4) (by decide +kernel) rfl (by decide) ?_
                refine x_ifz (k := 0) (tg := 180) (np := 159) (by decide +kernel) (by decide) (by decide) (fun q1508 => ?_) (fun q1509 => ?_)
                · have q1508 : 2147483648 = 2147483648 := q1508
                  refine x_iinc (np := 183) (i := 2) (j := 2147483647) (v := 2147483648) (lo' := [x_r 75, iv_c 2147483649, iv_c 2147483648, iv_c v1474, iv_c 2147483648, iv_c 2147483647]) (by decide +kernel) (by decide) (by decide) rfl (by decide) (by first | decide | omega) (by first | decide | omega) rfl ?_
                  refine x_goto (np := 186) (x := 12) (by decide +kernel) ?_
                  have q1510 : h1490 75 30 = h1477 75 30 := by rw [← e1492]; exact x_up_k (by decide)
                  have q1511 : h1477 75 30 = h1465 75 30 := jK 0 f1479 rg_75_30_0_1 (by first | decide | omega) (by first | decide | omega) (by decide)
                  have q1512 : h1465 75 30 = (1 + (h1122 75 30)) := by rw [← e1467]; exact x_up_at
                  exact i1141 (iv_c v1474) (iv_c 2147483647) h1490 (by first | decide | omega) j1491 f1494 (by first | decide | omega)
                have q1509 : ¬ (2147483648 = 2147483648) := q1509
                exfalso; omega
              have q1507 : ¬ (2147483647 < 2147483648) := q1507
              exfalso; omega
            have q1500 : ¬ ((h1477 93 1) < 2147483648) := q1500
            refine x_aload (np := 112) (x := 0) (by decide +kernel) rfl (x_nc_le (by decide)) ?_
            refine x_aload (np := 113) (x := 0) (by decide +kernel) rfl (x_nc_le (by decide)) ?_
            have q1513 : h1490 75 27 = 93 := by have z := jB (e := 27) 0 j1491 rg_75_27_0_1 (by decide) (by decide); omega
            refine x_getR (np := 116) (x := 731) (f := 27) (q := 93) (by decide +kernel) (by decide) (by decide +kernel) q1513 ?_
            refine x_iload (np := 117) (x := 2) (by decide +kernel) rfl (by decide) ?_
            have q1514 : h1490 93 1 = h1477 93 1 := by rw [← e1492]; exact x_up_k (by decide)
            refine x_aldC (np := 118) (x := 0) (n := 6) (i := 1) (q := (h1477 93 1)) (by decide +kernel) (by decide +kernel) (by first | decide | omega) (by first | decide | omega) (by decide) q1514 (fun l1515 => ?_)
            refine x_const (np := 119) (x := 9223372039002259456) (a := 2147483648) (by decide +kernel) (by decide) (by decide) ?_
            refine x_cV (t := 6) (mj := 248) (n := 3) (rc := 12) (ml := 4) (nr := 0) (np := 122) (as := [x_r 75, iv_c (h1477 93 1), iv_c 2147483648]) (rest := []) (lo1 := [x_r 75, iv_c (h1477 93 1), iv_c 2147483648, 147573952589676412928]) (by decide +kernel) (by decide) (by decide +kernel) (x_rb_of (by decide +kernel)) rfl rfl (x_wr (by decide) (x_wi l1498 (x_wi (by decide) x_wn))) x_wn (by decide) rfl (c248_75 j1491  (by first | decide | omega) (by first | decide | omega)) (fun h1519 q1518 => ?_)
            obtain ⟨j1520, f1521⟩ := q1518
            have f1524 := Fr.trans f1493 f1521 (by decide)
            have f1525 := Fr.trans f1494 f1521 (by decide)
            refine x_aload (np := 123) (x := 0) (by decide +kernel) rfl (x_nc_le (by decide)) ?_
            have q1526 : h1519 75 28 = 94 := by have z := jB (e := 28) 0 j1520 rg_75_28_0_1 (by decide) (by decide); omega
            refine x_getR (np := 126) (x := 732) (f := 28) (q := 94) (by decide +kernel) (by decide) (by decide +kernel) q1526 ?_
            refine x_iload (np := 127) (x := 2) (by decide +kernel) rfl (by decide) ?_
            have q1527 : h1519 94 1 = h1490 94 1 := jK 1 f1521 rg_94_0_1_6 (by first | decide | omega) (by first | decide | omega) (by decide)
            have q1528 : h1490 94 1 = 2147483647 := by rw [← e1492]; exact x_up_at
            refine x_aldC (np := 128) (x := 0) (n := 6) (i := 1) (q := 2147483647) (by decide +kernel) (by decide +kernel) (by first | decide | omega) (by first | decide | omega) (by decide) (q1527.trans q1528) (fun l1529 => ?_)
            refine x_ifz (k := 3) (tg := 135) (np := 131) (by decide +kernel) (by decide) (by decide) (fun q1530 => ?_) (fun q1531 => ?_)
            · have q1530 : 2147483648 ≤ 2147483647 := q1530
              exfalso; omega
            have q1531 : ¬ (2147483648 ≤ 2147483647) := q1531
            refine x_const (np := 132) (x := 9223372034707292159) (a := 2147483647) (by decide +kernel) (by decide) (by decide) ?_
            refine x_goto (np := 135) (x := 140) (by decide +kernel) ?_
            refine x_istore (np := 142) (x := 5) (lo' := [x_r 75, iv_c 2147483649, iv_c 2147483649, iv_c v1474, iv_c 2147483649, iv_c 2147483647]) (by decide +kernel) (by decide) (Nat.le_of_ble_eq_true rfl) rfl ?_
            refine x_iload (np := 144) (x := 5) (by decide +kernel) rfl (by decide) ?_
            refine x_ifz (k := 2) (tg := 151) (np := 147) (by decide +kernel) (by decide) (by decide) (fun q1532 => ?_) (fun q1533 => ?_)
            · have q1532 : 2147483647 < 2147483648 := q1532
              refine x_const (np := 152) (x := 9223372039002259456) (a := 2147483648) (by decide +kernel) (by decide) (by decide) ?_
              refine x_istore (np := 154) (x := 4) (lo' := [x_r 75, iv_c 2147483649, iv_c 2147483649, iv_c v1474, iv_c 2147483648, iv_c 2147483647]) (by decide +kernel) (by decide) (Nat.le_of_ble_eq_true rfl) rfl ?_
              refine x_iload (np := 156) (x := 4) (by decide +kernel) rfl (by decide) ?_
              refine x_ifz (k := 0) (tg := 180) (np := 159) (by decide +kernel) (by decide) (by decide) (fun q1534 => ?_) (fun q1535 => ?_)
              · have q1534 : 2147483648 = 2147483648 := q1534
                refine x_iinc (np := 183) (i := 2) (j := 2147483647) (v := 2147483648) (lo' := [x_r 75, iv_c 2147483649, iv_c 2147483648, iv_c v1474, iv_c 2147483648, iv_c 2147483647]) (by decide +kernel) (by decide) (by decide) rfl (by decide) (by first | decide | omega) (by first | decide | omega) rfl ?_
                refine x_goto (np := 186) (x := 12) (by decide +kernel) ?_
                have q1536 : h1519 75 30 = h1490 75 30 := jK 0 f1521 rg_75_30_0_1 (by first | decide | omega) (by first | decide | omega) (by decide)
                have q1537 : h1490 75 30 = h1477 75 30 := by rw [← e1492]; exact x_up_k (by decide)
                have q1538 : h1477 75 30 = h1465 75 30 := jK 0 f1479 rg_75_30_0_1 (by first | decide | omega) (by first | decide | omega) (by decide)
                have q1539 : h1465 75 30 = (1 + (h1122 75 30)) := by rw [← e1467]; exact x_up_at
                exact i1141 (iv_c v1474) (iv_c 2147483647) h1519 (by first | decide | omega) j1520 f1525 (by first | decide | omega)
              have q1535 : ¬ (2147483648 = 2147483648) := q1535
              exfalso; omega
            have q1533 : ¬ (2147483647 < 2147483648) := q1533
            exfalso; omega
          have q1484 : ¬ (v1474 ≠ 2147483649) := q1484
          refine x_aload (np := 55) (x := 0) (by decide +kernel) rfl (x_nc_le (by decide)) ?_
          have q1540 : h1477 75 34 = h1465 75 34 := jK 0 f1479 rg_75_34_0_1 (by first | decide | omega) (by first | decide | omega) (by decide)
          have q1541 : h1465 75 34 = h1122 75 34 := by rw [← e1467]; exact x_up_i (by first | decide | omega)
          refine x_getC (np := 58) (x := 738) (f := 34) (q := (h1122 75 34)) (by decide +kernel) (by decide) (by decide +kernel) (q1540.trans q1541) (fun l1542 => ?_)
          refine x_ifz (k := 1) (tg := 66) (np := 61) (by decide +kernel) (by decide) l1542 (fun q1543 => ?_) (fun q1544 => ?_)
          · have q1543 : (h1122 75 34) ≠ 2147483648 := q1543
            refine x_aload (np := 67) (x := 0) (by decide +kernel) rfl (x_nc_le (by decide)) ?_
            refine x_dup (np := 68) (x := 0) (by decide +kernel) (by have z := x_nc_le (k := 75) (by decide); unfold x_r; omega) ?_
            have q1545 : h1477 75 34 = h1465 75 34 := jK 0 f1479 rg_75_34_0_1 (by first | decide | omega) (by first | decide | omega) (by decide)
            have q1546 : h1465 75 34 = h1122 75 34 := by rw [← e1467]; exact x_up_i (by first | decide | omega)
            refine x_getC (np := 71) (x := 738) (f := 34) (q := (h1122 75 34)) (by decide +kernel) (by decide) (by decide +kernel) (q1545.trans q1546) (fun l1547 => ?_)
            refine x_const (np := 72) (x := 9223372043297226753) (a := 2147483649) (by decide +kernel) (by decide) (by decide) ?_
            refine x_addA (by rw [tb_b259]; decide +kernel) l1542 (by decide) (fun v1548 l1549 => ?_)
            refine x_putI (np := 76) (x := 738) (f := 34) (by decide +kernel) (by decide +kernel) l1549 (Or.inl (by decide)) ?_
            have j1551 := jU (e := 34) (v := v1548) 0 j1478 rg_75_34_0_1 (by first | decide | omega) (by first | decide | omega) (by first | decide | omega)
            have f1553 := jF (e := 34) (v := v1548) 0 f1481 rg_75_34_0_1 (by first | decide | omega) (by first | decide | omega) (by decide)
            have f1554 := jF (e := 34) (v := v1548) 0 f1482 rg_75_34_0_1 (by first | decide | omega) (by first | decide | omega) (by decide)
            generalize e1552 : x_up h1477 75 34 v1548 = h1550 at j1551 f1553 f1554 ⊢
            refine x_aload (np := 77) (x := 0) (by decide +kernel) rfl (x_nc_le (by decide)) ?_
            have q1555 : h1550 75 33 = h1477 75 33 := by rw [← e1552]; exact x_up_i (by first | decide | omega)
            have q1556 : h1477 75 33 = h1465 75 33 := jK 0 f1479 rg_75_33_0_1 (by first | decide | omega) (by first | decide | omega) (by decide)
            have q1557 : h1465 75 33 = h1122 75 33 := by rw [← e1467]; exact x_up_i (by first | decide | omega)
            have q1558 : h1122 75 33 = h2 75 33 := jK 0 f1124 rg_75_33_0_1 (by first | decide | omega) (by first | decide | omega) (by decide)
            have q1559 : h2 75 33 = h 75 33 := by rw [← e4]; exact x_up_i (by first | decide | omega)
            have b1560 := jB (e := 33) 0 hJ rg_75_33_0_1 (by first | decide | omega) (by first | decide | omega)
            refine x_getC (np := 80) (x := 737) (f := 33) (q := (h 75 33)) (by decide +kernel) (by decide) (by decide +kernel) ((((q1555.trans q1556).trans q1557).trans q1558).trans q1559) (fun l1561 => ?_)
            refine x_ifz (k := 0) (tg := 85) (np := 83) (by decide +kernel) (by decide) l1561 (fun q1562 => ?_) (fun q1563 => ?_)
            · have q1562 : (h 75 33) = 2147483648 := q1562
              refine x_iload (np := 86) (x := 3) (by decide +kernel) rfl l1475 ?_
              refine x_const (np := 87) (x := 9223372043297226753) (a := 2147483649) (by decide +kernel) (by decide) (by decide) ?_
              refine x_icmp (k := 0) (tg := 95) (np := 90) (by decide +kernel) (by decide) l1475 (by decide) (fun q1564 => ?_) (fun q1565 => ?_)
              · have q1564 : v1474 = 2147483649 := q1564
                refine x_aload (np := 96) (x := 0) (by decide +kernel) rfl (x_nc_le (by decide)) ?_
                have q1566 : h1550 75 28 = 94 := by have z := jB (e := 28) 0 j1551 rg_75_28_0_1 (by decide) (by decide); omega
                refine x_getR (np := 99) (x := 732) (f := 28) (q := 94) (by decide +kernel) (by decide) (by decide +kernel) q1566 ?_
                refine x_iload (np := 100) (x := 2) (by decide +kernel) rfl (by decide) ?_
                refine x_const (np := 101) (x := 9223372034707292159) (a := 2147483647) (by decide +kernel) (by decide) (by decide) ?_
                refine x_ast (np := 102) (x := 0) (kd := 1) (n := 6) (i := 1) (by decide +kernel) (Or.inl rfl) (by decide +kernel) (by first | decide | omega) (by first | decide | omega) (by decide) (by decide) (fun z => absurd z (by decide)) ?_
                have j1568 := jU (e := 1) (v := 2147483647) 1 j1551 rg_94_0_1_6 (by first | decide | omega) (by first | decide | omega) (by first | decide | omega)
                have f1570 := jF (e := 1) (v := 2147483647) 1 f1553 rg_94_0_1_6 (by first | decide | omega) (by first | decide | omega) (by decide)
                have f1571 := jF (e := 1) (v := 2147483647) 1 f1554 rg_94_0_1_6 (by first | decide | omega) (by first | decide | omega) (by decide)
                generalize e1569 : x_up h1550 94 1 2147483647 = h1567 at j1568 f1570 f1571 ⊢
                refine x_aload (np := 103) (x := 0) (by decide +kernel) rfl (x_nc_le (by decide)) ?_
                have q1572 : h1567 75 27 = 93 := by have z := jB (e := 27) 0 j1568 rg_75_27_0_1 (by decide) (by decide); omega
                refine x_getR (np := 106) (x := 731) (f := 27) (q := 93) (by decide +kernel) (by decide) (by decide +kernel) q1572 ?_
                refine x_iload (np := 107) (x := 2) (by decide +kernel) rfl (by decide) ?_
                have q1573 : h1567 93 1 = h1550 93 1 := by rw [← e1569]; exact x_up_k (by decide)
                have q1574 : h1550 93 1 = h1477 93 1 := by rw [← e1552]; exact x_up_k (by decide)
                have b1575 := jB (e := 1) 1 j1478 rg_93_0_1_6 (by first | decide | omega) (by first | decide | omega)
                refine x_aldC (np := 108) (x := 0) (n := 6) (i := 1) (q := (h1477 93 1)) (by decide +kernel) (by decide +kernel) (by first | decide | omega) (by first | decide | omega) (by decide) (q1573.trans q1574) (fun l1576 => ?_)
                refine x_ifz (k := 2) (tg := 122) (np := 111) (by decide +kernel) (by decide) l1576 (fun q1577 => ?_) (fun q1578 => ?_)
                · have q1577 : (h1477 93 1) < 2147483648 := q1577
                  refine x_aload (np := 123) (x := 0) (by decide +kernel) rfl (x_nc_le (by decide)) ?_
                  have q1579 : h1567 75 28 = 94 := by have z := jB (e := 28) 0 j1568 rg_75_28_0_1 (by decide) (by decide); omega
                  refine x_getR (np := 126) (x := 732) (f := 28) (q := 94) (by decide +kernel) (by decide) (by decide +kernel) q1579 ?_
                  refine x_iload (np := 127) (x := 2) (by decide +kernel) rfl (by decide) ?_
                  have q1580 : h1567 94 1 = 2147483647 := by rw [← e1569]; exact x_up_at
                  refine x_aldC (np := 128) (x := 0) (n := 6) (i := 1) (q := 2147483647) (by decide +kernel) (by decide +kernel) (by first | decide | omega) (by first | decide | omega) (by decide) q1580 (fun l1581 => ?_)
                  refine x_ifz (k := 3) (tg := 135) (np := 131) (by decide +kernel) (by decide) (by decide) (fun q1582 => ?_) (fun q1583 => ?_)
                  · have q1582 : 2147483648 ≤ 2147483647 := q1582
                    exfalso; omega
                  have q1583 : ¬ (2147483648 ≤ 2147483647) := q1583
                  refine x_const (np := 132) (x := 9223372034707292159) (a := 2147483647) (by decide +kernel) (by decide) (by decide) ?_
                  refine x_goto (np := 135) (x := 140) (by decide +kernel) ?_
                  refine x_istore (np := 142) (x := 5) (lo' := [x_r 75, iv_c 2147483649, iv_c 2147483649, iv_c v1474, iv_c 2147483649, iv_c 2147483647]) (by decide +kernel) (by decide) (Nat.le_of_ble_eq_true rfl) rfl ?_
                  refine x_iload (np := 144) (x := 5) (by decide +kernel) rfl (by decide) ?_
                  refine x_ifz (k := 2) (tg := 151) (np := 147) (by decide +kernel) (by decide) (by decide) (fun q1584 => ?_) (fun q1585 => ?_)
                  · have q1584 : 2147483647 < 2147483648 := q1584
                    refine x_const (np := 152) (x := 9223372039002259456) (a := 2147483648) (by decide +kernel) (by decide) (by decide) ?_
                    refine x_istore (np := 154) (x := 4) (lo' := [x_r 75, iv_c 2147483649, iv_c 2147483649, iv_c v1474, iv_c 2147483648, iv_c 2147483647]) (by decide +kernel) (by decide) (Nat.le_of_ble_eq_true rfl) rfl ?_
                    refine x_iload (np := 156) (x := 4) (by decide +kernel) rfl (by decide) ?_
                    refine x_ifz (k := 0) (tg := 180) (np := 159) (by decide +kernel) (by decide) (by decide) (fun q1586 => ?_) (fun q1587 => ?_)
                    · have q1586 : 2147483648 = 2147483648 := q1586
                      refine x_iinc (np := 183) (i := 2) (j := 2147483647) (v := 2147483648) (lo' := [x_r 75, iv_c 2147483649, iv_c 2147483648, iv_c v1474, iv_c 2147483648, iv_c 2147483647]) (by decide +kernel) (by decide) (by decide) rfl (by decide) (by first | decide | omega) (by first | decide | omega) rfl ?_
                      refine x_goto (np := 186) (x := 12) (by decide +kernel) ?_
                      have q1588 : h1567 75 30 = h1550 75 30 := by rw [← e1569]; exact x_up_k (by decide)
                      have q1589 : h1550 75 30 = h1477 75 30 := by rw [← e1552]; exact x_up_i (by first | decide | omega)
                      have q1590 : h1477 75 30 = h1465 75 30 := jK 0 f1479 rg_75_30_0_1 (by first | decide | omega) (by first | decide | omega) (by decide)
                      have q1591 : h1465 75 30 = (1 + (h1122 75 30)) := by rw [← e1467]; exact x_up_at
                      exact i1141 (iv_c v1474) (iv_c 2147483647) h1567 (by first | decide | omega) j1568 f1571 (by first | decide | omega)
                    have q1587 : ¬ (2147483648 = 2147483648) := q1587
                    exfalso; omega
                  have q1585 : ¬ (2147483647 < 2147483648) := q1585
                  exfalso; omega
                have q1578 : ¬ ((h1477 93 1) < 2147483648) := q1578
                refine x_aload (np := 112) (x := 0) (by decide +kernel) rfl (x_nc_le (by decide)) ?_
                refine x_aload (np := 113) (x := 0) (by decide +kernel) rfl (x_nc_le (by decide)) ?_
                have q1592 : h1567 75 27 = 93 := by have z := jB (e := 27) 0 j1568 rg_75_27_0_1 (by decide) (by decide); omega
                refine x_getR (np := 116) (x := 731) (f := 27) (q := 93) (by decide +kernel) (by decide) (by decide +kernel) q1592 ?_
                refine x_iload (np := 117) (x := 2) (by decide +kernel) rfl (by decide) ?_
                have q1593 : h1567 93 1 = h1550 93 1 := by rw [← e1569]; exact x_up_k (by decide)
                have q1594 : h1550 93 1 = h1477 93 1 := by rw [← e1552]; exact x_up_k (by decide)
                refine x_aldC (np := 118) (x := 0) (n := 6) (i := 1) (q := (h1477 93 1)) (by decide +kernel) (by decide +kernel) (by first | decide | omega) (by first | decide | omega) (by decide) (q1593.trans q1594) (fun l1595 => ?_)
                refine x_const (np := 119) (x := 9223372039002259456) (a := 2147483648) (by decide +kernel) (by decide) (by decide) ?_
                refine x_cV (t := 6) (mj := 248) (n := 3) (rc := 12) (ml := 4) (nr := 0) (np := 122) (as := [x_r 75, iv_c (h1477 93 1), iv_c 2147483648]) (rest := []) (lo1 := [x_r 75, iv_c (h1477 93 1), iv_c 2147483648, 147573952589676412928]) (by decide +kernel) (by decide) (by decide +kernel) (x_rb_of (by decide +kernel)) rfl rfl (x_wr (by decide) (x_wi l1576 (x_wi (by decide) x_wn))) x_wn (by decide) rfl (c248_75 j1568  (by first | decide | omega) (by first | decide | omega)) (fun h1599 q1598 => ?_)
                obtain ⟨j1600, f1601⟩ := q1598
                have f1604 := Fr.trans f1570 f1601 (by decide)
                have f1605 := Fr.trans f1571 f1601 (by decide)
                refine x_aload (np := 123) (x := 0) (by decide +kernel) rfl (x_nc_le (by decide)) ?_
                have q1606 : h1599 75 28 = 94 := by have z := jB (e := 28) 0 j1600 rg_75_28_0_1 (by decide) (by decide); omega
                refine x_getR (np := 126) (x := 732) (f := 28) (q := 94) (by decide +kernel) (by decide) (by decide +kernel) q1606 ?_
                refine x_iload (np := 127) (x := 2) (by decide +kernel) rfl (by decide) ?_
                have q1607 : h1599 94 1 = h1567 94 1 := jK 1 f1601 rg_94_0_1_6 (by first | decide | omega) (by first | decide | omega) (by decide)
                have q1608 : h1567 94 1 = 2147483647 := by rw [← e1569]; exact x_up_at
                refine x_aldC (np := 128) (x := 0) (n := 6) (i := 1) (q := 2147483647) (by decide +kernel) (by decide +kernel) (by first | decide | omega) (by first | decide | omega) (by decide) (q1607.trans q1608) (fun l1609 => ?_)
                refine x_ifz (k := 3) (tg := 135) (np := 131) (by decide +kernel) (by decide) (by decide) (fun q1610 => ?_) (fun q1611 => ?_)
                · have q1610 : 2147483648 ≤ 2147483647 := q1610
                  exfalso; omega
                have q1611 : ¬ (2147483648 ≤ 2147483647) := q1611
                refine x_const (np := 132) (x := 9223372034707292159) (a := 2147483647) (by decide +kernel) (by decide) (by decide) ?_
                refine x_goto (np := 135) (x := 140) (by decide +kernel) ?_
                refine x_istore (np := 142) (x := 5) (lo' := [x_r 75, iv_c 2147483649, iv_c 2147483649, iv_c v1474, iv_c 2147483649, iv_c 2147483647]) (by decide +kernel) (by decide) (Nat.le_of_ble_eq_true rfl) rfl ?_
                refine x_iload (np := 144) (x := 5) (by decide +kernel) rfl (by decide) ?_
                refine x_ifz (k := 2) (tg := 151) (np := 147) (by decide +kernel) (by decide) (by decide) (fun q1612 => ?_) (fun q1613 => ?_)
                · have q1612 : 2147483647 < 2147483648 := q1612
                  refine x_const (np := 152) (x := 9223372039002259456) (a := 2147483648) (by decide +kernel) (by decide) (by decide) ?_
                  refine x_istore (np := 154) (x := 4) (lo' := [x_r 75, iv_c 2147483649, iv_c 2147483649, iv_c v1474, iv_c 2147483648, iv_c 2147483647]) (by decide +kernel) (by decide) (Nat.le_of_ble_eq_true rfl) rfl ?_
                  refine x_iload (np := 156) (x := 4) (by decide +kernel) rfl (by decide) ?_
                  refine x_ifz (k := 0) (tg := 180) (np := 159) (by decide +kernel) (by decide) (by decide) (fun q1614 => ?_) (fun q1615 => ?_)
                  · have q1614 : 2147483648 = 2147483648 := q1614
                    refine x_iinc (np := 183) (i := 2) (j := 2147483647) (v := 2147483648) (lo' := [x_r 75, iv_c 2147483649, iv_c 2147483648, iv_c v1474, iv_c 2147483648, iv_c 2147483647]) (by decide +kernel) (by decide) (by decide) rfl (by decide) (by first | decide | omega) (by first | decide | omega) rfl ?_
                    refine x_goto (np := 186) (x := 12) (by decide +kernel) ?_
                    have q1616 : h1599 75 30 = h1567 75 30 := jK 0 f1601 rg_75_30_0_1 (by first | decide | omega) (by first | decide | omega) (by decide)
                    have q1617 : h1567 75 30 = h1550 75 30 := by rw [← e1569]; exact x_up_k (by decide)
                    have q1618 : h1550 75 30 = h1477 75 30 := by rw [← e1552]; exact x_up_i (by first | decide | omega)
                    have q1619 : h1477 75 30 = h1465 75 30 := jK 0 f1479 rg_75_30_0_1 (by first | decide | omega) (by first | decide | omega) (by decide)
                    have q1620 : h1465 75 30 = (1 + (h1122 75 30)) := by rw [← e1467]; exact x_up_at
                    exact i1141 (iv_c v1474) (iv_c 2147483647) h1599 (by first | decide | omega) j1600 f1605 (by first | decide | omega)
                  have q1615 : ¬ (2147483648 = 2147483648) := q1615
                  exfalso; omega
                have q1613 : ¬ (2147483647 < 2147483648) := q1613
                exfalso; omega
              have q1565 : ¬ (v1474 = 2147483649) := q1565
              exfalso; omega
            have q1563 : ¬ ((h 75 33) = 2147483648) := q1563
            refine x_const (np := 84) (x := 9223372043297226753) (a := 2147483649) (by decide +kernel) (by decide) (by decide) ?_
            have q1621 : h1550 75 30 = h1477 75 30 := by rw [← e1552]; exact x_up_i (by first | decide | omega)
            have q1622 : h1477 75 30 = h1465 75 30 := jK 0 f1479 rg_75_30_0_1 (by first | decide | omega) (by first | decide | omega) (by decide)
            have q1623 : h1465 75 30 = (1 + (h1122 75 30)) := by rw [← e1467]; exact x_up_at
            refine x_retI (np := 85) (x := 0) (by decide +kernel) (by decide) (Or.inr ⟨by decide +kernel, by first | decide | omega, by first | decide | omega⟩) ⟨_, rfl, (by decide), ?_⟩
            exact ⟨j1551, f1553, (by first | decide | omega), (fun z => by first | decide | omega)⟩
          have q1544 : ¬ ((h1122 75 34) ≠ 2147483648) := q1544
          refine x_aload (np := 62) (x := 0) (by decide +kernel) rfl (x_nc_le (by decide)) ?_
          refine x_iload (np := 63) (x := 2) (by decide +kernel) rfl (by decide) ?_
          refine x_cV (t := 6) (mj := 258) (n := 2) (rc := 12) (ml := 4) (nr := 0) (np := 66) (as := [x_r 75, iv_c 2147483649]) (rest := []) (lo1 := [x_r 75, iv_c 2147483649, 147573952589676412928, 147573952589676412928]) (by decide +kernel) (by decide) (by decide +kernel) (x_rb_of (by decide +kernel)) rfl rfl (x_wr (by decide) (x_wi (by decide) x_wn)) x_wn (by decide) rfl (c258_75 j1478  (by first | decide | omega)) (fun h1627 q1626 => ?_)
          obtain ⟨j1628, f1629⟩ := q1626
          have f1632 := Fr.trans f1481 f1629 (by decide)
          have f1633 := Fr.trans f1482 f1629 (by decide)
          refine x_aload (np := 67) (x := 0) (by decide +kernel) rfl (x_nc_le (by decide)) ?_
          refine x_dup (np := 68) (x := 0) (by decide +kernel) (by have z := x_nc_le (k := 75) (by decide); unfold x_r; omega) ?_
          have q1634 : h1627 75 34 = h1477 75 34 := jK 0 f1629 rg_75_34_0_1 (by first | decide | omega) (by first | decide | omega) (by decide)
          have q1635 : h1477 75 34 = h1465 75 34 := jK 0 f1479 rg_75_34_0_1 (by first | decide | omega) (by first | decide | omega) (by decide)
          have q1636 : h1465 75 34 = h1122 75 34 := by rw [← e1467]; exact x_up_i (by first | decide | omega)
          refine x_getC (np := 71) (x := 738) (f := 34) (q := (h1122 75 34)) (by decide +kernel) (by decide) (by decide +kernel) ((q1634.trans q1635).trans q1636) (fun l1637 => ?_)
          refine x_const (np := 72) (x := 9223372043297226753) (a := 2147483649) (by decide +kernel) (by decide) (by decide) ?_
          refine x_iadd (np := 73) (x := 0) (v := (1 + (h1122 75 34))) (by decide +kernel) l1542 (by decide) (by first | decide | omega) (by first | decide | omega) ?_
          refine x_putI (np := 76) (x := 738) (f := 34) (by decide +kernel) (by decide +kernel) (by first | decide | omega) (Or.inl (by decide)) ?_
          have j1639 := jU (e := 34) (v := (1 + (h1122 75 34))) 0 j1628 rg_75_34_0_1 (by first | decide | omega) (by first | decide | omega) (by first | decide | omega)
          have f1641 := jF (e := 34) (v := (1 + (h1122 75 34))) 0 f1632 rg_75_34_0_1 (by first | decide | omega) (by first | decide | omega) (by decide)
          have f1642 := jF (e := 34) (v := (1 + (h1122 75 34))) 0 f1633 rg_75_34_0_1 (by first | decide | omega) (by first | decide | omega) (by decide)
          generalize e1640 : x_up h1627 75 34 (1 + (h1122 75 34)) = h1638 at j1639 f1641 f1642 ⊢
          refine x_aload (np := 77) (x := 0) (by decide +kernel) rfl (x_nc_le (by decide)) ?_
          have q1643 : h1638 75 33 = h1627 75 33 := by rw [← e1640]; exact x_up_i (by first | decide | omega)
          have q1644 : h1627 75 33 = h1477 75 33 := jK 0 f1629 rg_75_33_0_1 (by first | decide | omega) (by first | decide | omega) (by decide)
          have q1645 : h1477 75 33 = h1465 75 33 := jK 0 f1479 rg_75_33_0_1 (by first | decide | omega) (by first | decide | omega) (by decide)
          have q1646 : h1465 75 33 = h1122 75 33 := by rw [← e1467]; exact x_up_i (by first | decide | omega)
          have q1647 : h1122 75 33 = h2 75 33 := jK 0 f1124 rg_75_33_0_1 (by first | decide | omega) (by first | decide | omega) (by decide)
          have q1648 : h2 75 33 = h 75 33 := by rw [← e4]; exact x_up_i (by first | decide | omega)
          have b1649 := jB (e := 33) 0 hJ rg_75_33_0_1 (by first | decide | omega) (by first | decide | omega)
          refine x_getC (np := 80) (x := 737) (f := 33) (q := (h 75 33)) (by decide +kernel) (by decide) (by decide +kernel) (((((q1643.trans q1644).trans q1645).trans q1646).trans q1647).trans q1648) (fun l1650 => ?_)
          refine x_ifz (k := 0) (tg := 85) (np := 83) (by decide +kernel) (by decide) l1650 (fun q1651 => ?_) (fun q1652 => ?_)
          · have q1651 : (h 75 33) = 2147483648 := q1651
            refine x_iload (np := 86) (x := 3) (by decide +kernel) rfl l1475 ?_
            refine x_const (np := 87) (x := 9223372043297226753) (a := 2147483649) (by decide +kernel) (by decide) (by decide) ?_
            refine x_icmp (k := 0) (tg := 95) (np := 90) (by decide +kernel) (by decide) l1475 (by decide) (fun q1653 => ?_) (fun q1654 => ?_)
            · have q1653 : v1474 = 2147483649 := q1653
              refine x_aload (np := 96) (x := 0) (by decide +kernel) rfl (x_nc_le (by decide)) ?_
              have q1655 : h1638 75 28 = 94 := by have z := jB (e := 28) 0 j1639 rg_75_28_0_1 (by decide) (by decide); omega
              refine x_getR (np := 99) (x := 732) (f := 28) (q := 94) (by decide +kernel) (by decide) (by decide +kernel) q1655 ?_
              refine x_iload (np := 100) (x := 2) (by decide +kernel) rfl (by decide) ?_
              refine x_const (np := 101) (x := 9223372034707292159) (a := 2147483647) (by decide +kernel) (by decide) (by decide) ?_
              refine x_ast (np := 102) (x := 0) (kd := 1) (n := 6) (i := 1) (by decide +kernel) (Or.inl rfl) (by decide +kernel) (by first | decide | omega) (by first | decide | omega) (by decide) (by decide) (fun z => absurd z (by decide)) ?_
              have j1657 := jU (e := 1) (v := 2147483647) 1 j1639 rg_94_0_1_6 (by first | decide | omega) (by first | decide | omega) (by first | decide | omega)
              have f1659 := jF (e := 1) (v := 2147483647) 1 f1641 rg_94_0_1_6 (by first | decide | omega) (by first | decide | omega) (by decide)
              have f1660 := jF (e := 1) (v := 2147483647) 1 f1642 rg_94_0_1_6 (by first | decide | omega) (by first | decide | omega) (by decide)
              generalize e1658 : x_up h1638 94 1 2147483647 = h1656 at j1657 f1659 f1660 ⊢
              refine x_aload (np := 103) (x := 0) (by decide +kernel) rfl (x_nc_le (by decide)) ?_
              have q1661 : h1656 75 27 = 93 := by have z := jB (e := 27) 0 j1657 rg_75_27_0_1 (by decide) (by decide); omega
              refine x_getR (np := 106) (x := 731) (f := 27) (q := 93) (by decide +kernel) (by decide) (by decide +kernel) q1661 ?_
              refine x_iload (np := 107) (x := 2) (by decide +kernel) rfl (by decide) ?_
              have q1662 : h1656 93 1 = h1638 93 1 := by rw [← e1658]; exact x_up_k (by decide)
              have q1663 : h1638 93 1 = h1627 93 1 := by rw [← e1640]; exact x_up_k (by decide)
              have q1664 : h1627 93 1 = h1477 93 1 := jK 1 f1629 rg_93_0_1_6 (by first | decide | omega) (by first | decide | omega) (by decide)
              have b1665 := jB (e := 1) 1 j1478 rg_93_0_1_6 (by first | decide | omega) (by first | decide | omega)
              refine x_aldC (np := 108) (x := 0) (n := 6) (i := 1) (q := (h1477 93 1)) (by decide +kernel) (by decide +kernel) (by first | decide | omega) (by first | decide | omega) (by decide) ((q1662.trans q1663).trans q1664) (fun l1666 => ?_)
              refine x_ifz (k := 2) (tg := 122) (np := 111) (by decide +kernel) (by decide) l1666 (fun q1667 => ?_) (fun q1668 => ?_)
              · have q1667 : (h1477 93 1) < 2147483648 := q1667
                refine x_aload (np := 123) (x := 0) (by decide +kernel) rfl (x_nc_le (by decide)) ?_
                have q1669 : h1656 75 28 = 94 := by have z := jB (e := 28) 0 j1657 rg_75_28_0_1 (by decide) (by decide); omega
                refine x_getR (np := 126) (x := 732) (f := 28) (q := 94) (by decide +kernel) (by decide) (by decide +kernel) q1669 ?_
                refine x_iload (np := 127) (x := 2) (by decide +kernel) rfl (by decide) ?_
                have q1670 : h1656 94 1 = 2147483647 := by rw [← e1658]; exact x_up_at
                refine x_aldC (np := 128) (x := 0) (n := 6) (i := 1) (q := 2147483647) (by decide +kernel) (by decide +kernel) (by first | decide | omega) (by first | decide | omega) (by decide) q1670 (fun l1671 => ?_)
                refine x_ifz (k := 3) (tg := 135) (np := 131) (by decide +kernel) (by decide) (by decide) (fun q1672 => ?_) (fun q1673 => ?_)
                · have q1672 : 2147483648 ≤ 2147483647 := q1672
                  exfalso; omega
                have q1673 : ¬ (2147483648 ≤ 2147483647) := q1673
                refine x_const (np := 132) (x := 9223372034707292159) (a := 2147483647) (by decide +kernel) (by decide) (by decide) ?_
                refine x_goto (np := 135) (x := 140) (by decide +kernel) ?_
                refine x_istore (np := 142) (x := 5) (lo' := [x_r 75, iv_c 2147483649, iv_c 2147483649, iv_c v1474, iv_c 2147483649, iv_c 2147483647]) (by decide +kernel) (by decide) (Nat.le_of_ble_eq_true rfl) rfl ?_
                refine x_iload (np := 144) (x := 5) (by decide +kernel) rfl (by decide) ?_
                refine x_ifz (k := 2) (tg := 151) (np := 147) (by decide +kernel) (by decide) (by decide) (fun q1674 => ?_) (fun q1675 => ?_)
                · have q1674 : 2147483647 < 2147483648 := q1674
                  refine x_const (np := 152) (x := 9223372039002259456) (a := 2147483648) (by decide +kernel) (by decide) (by decide) ?_
                  refine x_istore (np := 154) (x := 4) (lo' := [x_r 75, iv_c 2147483649, iv_c 2147483649, iv_c v1474, iv_c 2147483648, iv_c 2147483647]) (by decide +kernel) (by decide) (Nat.le_of_ble_eq_true rfl) rfl ?_
                  refine x_iload (np := 156) (x := 4) (by decide +kernel) rfl (by decide) ?_
                  refine x_ifz (k := 0) (tg := 180) (np := 159) (by decide +kernel) (by decide) (by decide) (fun q1676 => ?_) (fun q1677 => ?_)
                  · have q1676 : 2147483648 = 2147483648 := q1676
                    refine x_iinc (np := 183) (i := 2) (j := 2147483647) (v := 2147483648) (lo' := [x_r 75, iv_c 2147483649, iv_c 2147483648, iv_c v1474, iv_c 2147483648, iv_c 2147483647]) (by decide +kernel) (by decide) (by decide) rfl (by decide) (by first | decide | omega) (by first | decide | omega) rfl ?_
                    refine x_goto (np := 186) (x := 12) (by decide +kernel) ?_
                    have q1678 : h1656 75 30 = h1638 75 30 := by rw [← e1658]; exact x_up_k (by decide)
                    have q1679 : h1638 75 30 = h1627 75 30 := by rw [← e1640]; exact x_up_i (by first | decide | omega)
                    have q1680 : h1627 75 30 = h1477 75 30 := jK 0 f1629 rg_75_30_0_1 (by first | decide | omega) (by first | decide | omega) (by decide)
                    have q1681 : h1477 75 30 = h1465 75 30 := jK 0 f1479 rg_75_30_0_1 (by first | decide | omega) (by first | decide | omega) (by decide)
                    have q1682 : h1465 75 30 = (1 + (h1122 75 30)) := by rw [← e1467]; exact x_up_at
                    exact i1141 (iv_c v1474) (iv_c 2147483647) h1656 (by first | decide | omega) j1657 f1660 (by first | decide | omega)
                  have q1677 : ¬ (2147483648 = 2147483648) := q1677
                  exfalso; omega
                have q1675 : ¬ (2147483647 < 2147483648) := q1675
                exfalso; omega
              have q1668 : ¬ ((h1477 93 1) < 2147483648) := q1668
              refine x_aload (np := 112) (x := 0) (by decide +kernel) rfl (x_nc_le (by decide)) ?_
              refine x_aload (np := 113) (x := 0) (by decide +kernel) rfl (x_nc_le (by decide)) ?_
              have q1683 : h1656 75 27 = 93 := by have z := jB (e := 27) 0 j1657 rg_75_27_0_1 (by decide) (by decide); omega
              refine x_getR (np := 116) (x := 731) (f := 27) (q := 93) (by decide +kernel) (by decide) (by decide +kernel) q1683 ?_
              refine x_iload (np := 117) (x := 2) (by decide +kernel) rfl (by decide) ?_
              have q1684 : h1656 93 1 = h1638 93 1 := by rw [← e1658]; exact x_up_k (by decide)
              have q1685 : h1638 93 1 = h1627 93 1 := by rw [← e1640]; exact x_up_k (by decide)
              have q1686 : h1627 93 1 = h1477 93 1 := jK 1 f1629 rg_93_0_1_6 (by first | decide | omega) (by first | decide | omega) (by decide)
              refine x_aldC (np := 118) (x := 0) (n := 6) (i := 1) (q := (h1477 93 1)) (by decide +kernel) (by decide +kernel) (by first | decide | omega) (by first | decide | omega) (by decide) ((q1684.trans q1685).trans q1686) (fun l1687 => ?_)
              refine x_const (np := 119) (x := 9223372039002259456) (a := 2147483648) (by decide +kernel) (by decide) (by decide) ?_
              refine x_cV (t := 6) (mj := 248) (n := 3) (rc := 12) (ml := 4) (nr := 0) (np := 122) (as := [x_r 75, iv_c (h1477 93 1), iv_c 2147483648]) (rest := []) (lo1 := [x_r 75, iv_c (h1477 93 1), iv_c 2147483648, 147573952589676412928]) (by decide +kernel) (by decide) (by decide +kernel) (x_rb_of (by decide +kernel)) rfl rfl (x_wr (by decide) (x_wi l1666 (x_wi (by decide) x_wn))) x_wn (by decide) rfl (c248_75 j1657  (by first | decide | omega) (by first | decide | omega)) (fun h1691 q1690 => ?_)
              obtain ⟨j1692, f1693⟩ := q1690
              have f1696 := Fr.trans f1659 f1693 (by decide)
              have f1697 := Fr.trans f1660 f1693 (by decide)
              refine x_aload (np := 123) (x := 0) (by decide +kernel) rfl (x_nc_le (by decide)) ?_
              have q1698 : h1691 75 28 = 94 := by have z := jB (e := 28) 0 j1692 rg_75_28_0_1 (by decide) (by decide); omega
              refine x_getR (np := 126) (x := 732) (f := 28) (q := 94) (by decide +kernel) (by decide) (by decide +kernel) q1698 ?_
              refine x_iload (np := 127) (x := 2) (by decide +kernel) rfl (by decide) ?_
              have q1699 : h1691 94 1 = h1656 94 1 := jK 1 f1693 rg_94_0_1_6 (by first | decide | omega) (by first | decide | omega) (by decide)
              have q1700 : h1656 94 1 = 2147483647 := by rw [← e1658]; exact x_up_at
              refine x_aldC (np := 128) (x := 0) (n := 6) (i := 1) (q := 2147483647) (by decide +kernel) (by decide +kernel) (by first | decide | omega) (by first | decide | omega) (by decide) (q1699.trans q1700) (fun l1701 => ?_)
              refine x_ifz (k := 3) (tg := 135) (np := 131) (by decide +kernel) (by decide) (by decide) (fun q1702 => ?_) (fun q1703 => ?_)
              · have q1702 : 2147483648 ≤ 2147483647 := q1702
                exfalso; omega
              have q1703 : ¬ (2147483648 ≤ 2147483647) := q1703
              refine x_const (np := 132) (x := 9223372034707292159) (a := 2147483647) (by decide +kernel) (by decide) (by decide) ?_
              refine x_goto (np := 135) (x := 140) (by decide +kernel) ?_
              refine x_istore (np := 142) (x := 5) (lo' := [x_r 75, iv_c 2147483649, iv_c 2147483649, iv_c v1474, iv_c 2147483649, iv_c 2147483647]) (by decide +kernel) (by decide) (Nat.le_of_ble_eq_true rfl) rfl ?_
              refine x_iload (np := 144) (x := 5) (by decide +kernel) rfl (by decide) ?_
              refine x_ifz (k := 2) (tg := 151) (np := 147) (by decide +kernel) (by decide) (by decide) (fun q1704 => ?_) (fun q1705 => ?_)
              · have q1704 : 2147483647 < 2147483648 := q1704
                refine x_const (np := 152) (x := 9223372039002259456) (a := 2147483648) (by decide +kernel) (by decide) (by decide) ?_
                refine x_istore (np := 154) (x := 4) (lo' := [x_r 75, iv_c 2147483649, iv_c 2147483649, iv_c v1474, iv_c 2147483648, iv_c 2147483647]) (by decide +kernel) (by decide) (Nat.le_of_ble_eq_true rfl) rfl ?_
                refine x_iload (np := 156) (x := 4) (by decide +kernel) rfl (by decide) ?_
                refine x_ifz (k := 0) (tg := 180) (np := 159) (by decide +kernel) (by decide) (by decide) (fun q1706 => ?_) (fun q1707 => ?_)
                · have q1706 : 2147483648 = 2147483648 := q1706
                  refine x_iinc (np := 183) (i := 2) (j := 2147483647) (v := 2147483648) (lo' := [x_r 75, iv_c 2147483649, iv_c 2147483648, iv_c v1474, iv_c 2147483648, iv_c 2147483647]) (by decide +kernel) (by decide) (by decide) rfl (by decide) (by first | decide | omega) (by first | decide | omega) rfl ?_
                  refine x_goto (np := 186) (x := 12) (by decide +kernel) ?_
                  have q1708 : h1691 75 30 = h1656 75 30 := jK 0 f1693 rg_75_30_0_1 (by first | decide | omega) (by first | decide | omega) (by decide)
                  have q1709 : h1656 75 30 = h1638 75 30 := by rw [← e1658]; exact x_up_k (by decide)
                  have q1710 : h1638 75 30 = h1627 75 30 := by rw [← e1640]; exact x_up_i (by first | decide | omega)
                  have q1711 : h1627 75 30 = h1477 75 30 := jK 0 f1629 rg_75_30_0_1 (by first | decide | omega) (by first | decide | omega) (by decide)
                  have q1712 : h1477 75 30 = h1465 75 30 := jK 0 f1479 rg_75_30_0_1 (by first | decide | omega) (by first | decide | omega) (by decide)
                  have q1713 : h1465 75 30 = (1 + (h1122 75 30)) := by rw [← e1467]; exact x_up_at
                  exact i1141 (iv_c v1474) (iv_c 2147483647) h1691 (by first | decide | omega) j1692 f1697 (by first | decide | omega)
                have q1707 : ¬ (2147483648 = 2147483648) := q1707
                exfalso; omega
              have q1705 : ¬ (2147483647 < 2147483648) := q1705
              exfalso; omega
            have q1654 : ¬ (v1474 = 2147483649) := q1654
            exfalso; omega
          have q1652 : ¬ ((h 75 33) = 2147483648) := q1652
          refine x_const (np := 84) (x := 9223372043297226753) (a := 2147483649) (by decide +kernel) (by decide) (by decide) ?_
          have q1714 : h1638 75 30 = h1627 75 30 := by rw [← e1640]; exact x_up_i (by first | decide | omega)
          have q1715 : h1627 75 30 = h1477 75 30 := jK 0 f1629 rg_75_30_0_1 (by first | decide | omega) (by first | decide | omega) (by decide)
          have q1716 : h1477 75 30 = h1465 75 30 := jK 0 f1479 rg_75_30_0_1 (by first | decide | omega) (by first | decide | omega) (by decide)
          have q1717 : h1465 75 30 = (1 + (h1122 75 30)) := by rw [← e1467]; exact x_up_at
          refine x_retI (np := 85) (x := 0) (by decide +kernel) (by decide) (Or.inr ⟨by decide +kernel, by first | decide | omega, by first | decide | omega⟩) ⟨_, rfl, (by decide), ?_⟩
          exact ⟨j1639, f1641, (by first | decide | omega), (fun z => by first | decide | omega)⟩
        have q1473 : ¬ ((1 + (h1122 75 30)) ≤ 2147503648) := q1473
        refine x_const (np := 42) (x := 9223372039002259456) (a := 2147483648) (by decide +kernel) (by decide) (by decide) ?_
        have q1718 : h1465 75 30 = (1 + (h1122 75 30)) := by rw [← e1467]; exact x_up_at
        refine x_retI (np := 43) (x := 0) (by decide +kernel) (by decide) (Or.inr ⟨by decide +kernel, by first | decide | omega, by first | decide | omega⟩) ⟨_, rfl, (by decide), ?_⟩
        exact ⟨j1466, f1468, (by first | decide | omega), (fun z => by first | decide | omega)⟩
      · intro w1126 w1127 h1128 q1719 j1131 f1130 b1129
        have f1720 := Fr.trans f5 f1130 (by decide)
        refine x_iload (np := 13) (x := 2) (by decide +kernel) rfl (by decide) ?_
        refine x_ifz (k := 2) (tg := 186) (np := 16) (by decide +kernel) (by decide) (by decide) (fun q1721 => ?_) (fun q1722 => ?_)
        · have q1721 : 2147483647 < 2147483648 := q1721
          refine x_const (np := 187) (x := 9223372043297226753) (a := 2147483649) (by decide +kernel) (by decide) (by decide) ?_
          refine x_retI (np := 188) (x := 0) (by decide +kernel) (by decide) (Or.inr ⟨by decide +kernel, by first | decide | omega, by first | decide | omega⟩) ⟨_, rfl, (by decide), ?_⟩
          exact ⟨j1131, f1720, (by first | decide | omega), (fun z => by first | decide | omega)⟩
        have q1722 : ¬ (2147483647 < 2147483648) := q1722
        exfalso; omega
      · intro w1132 w1133 h1134 q1723 j1137 f1136 b1135
        have f1724 := Fr.trans f5 f1136 (by decide)
        refine x_iload (np := 13) (x := 2) (by decide +kernel) rfl (by decide) ?_
        refine x_ifz (k := 2) (tg := 186) (np := 16) (by decide +kernel) (by decide) (by decide) (fun q1725 => ?_) (fun q1726 => ?_)
        · have q1725 : 2147483648 < 2147483648 := q1725
          exfalso; omega
        have q1726 : ¬ (2147483648 < 2147483648) := q1726
        refine x_iload (np := 18) (x := 4) (by decide +kernel) rfl (by decide) ?_
        refine x_ifz (k := 0) (tg := 102) (np := 21) (by decide +kernel) (by decide) (by decide) (fun q1727 => ?_) (fun q1728 => ?_)
        · have q1727 : 2147483648 = 2147483648 := q1727
          refine x_aload (np := 103) (x := 0) (by decide +kernel) rfl (x_nc_le (by decide)) ?_
          have q1729 : h1134 75 27 = 93 := by have z := jB (e := 27) 0 j1137 rg_75_27_0_1 (by decide) (by decide); omega
          refine x_getR (np := 106) (x := 731) (f := 27) (q := 93) (by decide +kernel) (by decide) (by decide +kernel) q1729 ?_
          refine x_iload (np := 107) (x := 2) (by decide +kernel) rfl (by decide) ?_
          have b1730 := jB (e := 0) 0 j1137 rg_93_0_1_6 (by first | decide | omega) (by first | decide | omega)
          refine x_aldC (np := 108) (x := 0) (n := 6) (i := 0) (q := (h1134 93 0)) (by decide +kernel) (by decide +kernel) (by first | decide | omega) (by first | decide | omega) (by decide) rfl (fun l1731 => ?_)
          refine x_ifz (k := 2) (tg := 122) (np := 111) (by decide +kernel) (by decide) l1731 (fun q1732 => ?_) (fun q1733 => ?_)
          · have q1732 : (h1134 93 0) < 2147483648 := q1732
            refine x_aload (np := 123) (x := 0) (by decide +kernel) rfl (x_nc_le (by decide)) ?_
            have q1734 : h1134 75 28 = 94 := by have z := jB (e := 28) 0 j1137 rg_75_28_0_1 (by decide) (by decide); omega
            refine x_getR (np := 126) (x := 732) (f := 28) (q := 94) (by decide +kernel) (by decide) (by decide +kernel) q1734 ?_
            refine x_iload (np := 127) (x := 2) (by decide +kernel) rfl (by decide) ?_
            have b1735 := jB (e := 0) 0 j1137 rg_94_0_1_6 (by first | decide | omega) (by first | decide | omega)
            refine x_aldC (np := 128) (x := 0) (n := 6) (i := 0) (q := (h1134 94 0)) (by decide +kernel) (by decide +kernel) (by first | decide | omega) (by first | decide | omega) (by decide) rfl (fun l1736 => ?_)
            refine x_ifz (k := 3) (tg := 135) (np := 131) (by decide +kernel) (by decide) l1736 (fun q1737 => ?_) (fun q1738 => ?_)
            · have q1737 : 2147483648 ≤ (h1134 94 0) := q1737
              refine x_aload (np := 136) (x := 0) (by decide +kernel) rfl (x_nc_le (by decide)) ?_
              refine x_iload (np := 137) (x := 2) (by decide +kernel) rfl (by decide) ?_
              refine x_cP (t := 6) (mj := 257) (n := 2) (rc := 12) (ml := 3) (nr := 0) (np := 140) (as := [x_r 75, iv_c 2147483648]) (rest := []) (lo1 := [x_r 75, iv_c 2147483648, 147573952589676412928]) (by decide +kernel) (by decide) (by decide +kernel) (x_rb_of (by decide +kernel)) rfl rfl (x_wr (by decide) (x_wi (by decide) x_wn)) x_wn (by decide) rfl (c257_75_c0 j1137   (by first | decide | omega)) (fun v1739 l1740 q1741 => ?_)
              refine x_istore (np := 142) (x := 5) (lo' := [x_r 75, iv_c 2147483649, iv_c 2147483648, w1132, iv_c 2147483648, iv_c v1739]) (by decide +kernel) l1740 (Nat.le_of_ble_eq_true rfl) rfl ?_
              refine x_iload (np := 144) (x := 5) (by decide +kernel) rfl l1740 ?_
              refine x_ifz (k := 2) (tg := 151) (np := 147) (by decide +kernel) (by decide) l1740 (fun q1742 => ?_) (fun q1743 => ?_)
              · have q1742 : v1739 < 2147483648 := q1742
                refine x_const (np := 152) (x := 9223372039002259456) (a := 2147483648) (by decide +kernel) (by decide) (by decide) ?_
                refine x_istore (np := 154) (x := 4) (lo' := [x_r 75, iv_c 2147483649, iv_c 2147483648, w1132, iv_c 2147483648, iv_c v1739]) (by decide +kernel) (by decide) (Nat.le_of_ble_eq_true rfl) rfl ?_
                refine x_iload (np := 156) (x := 4) (by decide +kernel) rfl (by decide) ?_
                refine x_ifz (k := 0) (tg := 180) (np := 159) (by decide +kernel) (by decide) (by decide) (fun q1744 => ?_) (fun q1745 => ?_)
                · have q1744 : 2147483648 = 2147483648 := q1744
                  refine x_iinc (np := 183) (i := 2) (j := 2147483647) (v := 2147483647) (lo' := [x_r 75, iv_c 2147483649, iv_c 2147483647, w1132, iv_c 2147483648, iv_c v1739]) (by decide +kernel) (by decide) (by decide) rfl (by decide) (by first | decide | omega) (by first | decide | omega) rfl ?_
                  refine x_goto (np := 186) (x := 12) (by decide +kernel) ?_
                  exact i1140 w1132 (iv_c v1739) h1134 (by first | decide | omega) j1137 f1136 (by first | decide | omega)
                have q1745 : ¬ (2147483648 = 2147483648) := q1745
                exfalso; omega
              have q1743 : ¬ (v1739 < 2147483648) := q1743
              refine x_const (np := 148) (x := 9223372043297226753) (a := 2147483649) (by decide +kernel) (by decide) (by decide) ?_
              refine x_goto (np := 151) (x := 152) (by decide +kernel) ?_
              refine x_istore (np := 154) (x := 4) (lo' := [x_r 75, iv_c 2147483649, iv_c 2147483648, w1132, iv_c 2147483649, iv_c v1739]) (by decide +kernel) (by decide) (Nat.le_of_ble_eq_true rfl) rfl ?_
              refine x_iload (np := 156) (x := 4) (by decide +kernel) rfl (by decide) ?_
              refine x_ifz (k := 0) (tg := 180) (np := 159) (by decide +kernel) (by decide) (by decide) (fun q1746 => ?_) (fun q1747 => ?_)
              · have q1746 : 2147483649 = 2147483648 := q1746
                exfalso; omega
              have q1747 : ¬ (2147483649 = 2147483648) := q1747
              refine x_aload (np := 160) (x := 0) (by decide +kernel) rfl (x_nc_le (by decide)) ?_
              have q1748 : h1134 75 27 = 93 := by have z := jB (e := 27) 0 j1137 rg_75_27_0_1 (by decide) (by decide); omega
              refine x_getR (np := 163) (x := 731) (f := 27) (q := 93) (by decide +kernel) (by decide) (by decide +kernel) q1748 ?_
              refine x_iload (np := 164) (x := 2) (by decide +kernel) rfl (by decide) ?_
              refine x_iload (np := 166) (x := 5) (by decide +kernel) rfl l1740 ?_
              refine x_ast (np := 167) (x := 0) (kd := 1) (n := 6) (i := 0) (by decide +kernel) (Or.inl rfl) (by decide +kernel) (by first | decide | omega) (by first | decide | omega) (by decide) l1740 (fun z => absurd z (by decide)) ?_
              have j1750 := jU (e := 0) (v := v1739) 0 j1137 rg_93_0_1_6 (by first | decide | omega) (by first | decide | omega) (by first | decide | omega)
              have f1752 := jF (e := 0) (v := v1739) 0 f1724 rg_93_0_1_6 (by first | decide | omega) (by first | decide | omega) (by decide)
              have f1753 := jF (e := 0) (v := v1739) 0 f1136 rg_93_0_1_6 (by first | decide | omega) (by first | decide | omega) (by decide)
              generalize e1751 : x_up h1134 93 0 v1739 = h1749 at j1750 f1752 f1753 ⊢
              refine x_aload (np := 168) (x := 0) (by decide +kernel) rfl (x_nc_le (by decide)) ?_
              refine x_iload (np := 170) (x := 5) (by decide +kernel) rfl l1740 ?_
              refine x_const (np := 171) (x := 9223372043297226753) (a := 2147483649) (by decide +kernel) (by decide) (by decide) ?_
              refine x_cV (t := 6) (mj := 248) (n := 3) (rc := 12) (ml := 4) (nr := 0) (np := 174) (as := [x_r 75, iv_c v1739, iv_c 2147483649]) (rest := []) (lo1 := [x_r 75, iv_c v1739, iv_c 2147483649, 147573952589676412928]) (by decide +kernel) (by decide) (by decide +kernel) (x_rb_of (by decide +kernel)) rfl rfl (x_wr (by decide) (x_wi l1740 (x_wi (by decide) x_wn))) x_wn (by decide) rfl (c248_75 j1750  (by first | decide | omega) (by first | decide | omega)) (fun h1757 q1756 => ?_)
              obtain ⟨j1758, f1759⟩ := q1756
              have f1762 := Fr.trans f1752 f1759 (by decide)
              have f1763 := Fr.trans f1753 f1759 (by decide)
              refine x_iinc (np := 177) (i := 2) (j := 2147483649) (v := 2147483649) (lo' := [x_r 75, iv_c 2147483649, iv_c 2147483649, w1132, iv_c 2147483649, iv_c v1739]) (by decide +kernel) (by decide) (by decide) rfl (by decide) (by first | decide | omega) (by first | decide | omega) rfl ?_
              refine x_goto (np := 180) (x := 183) (by decide +kernel) ?_
              refine x_goto (np := 186) (x := 12) (by decide +kernel) ?_
              have q1764 : h1757 75 30 = h1749 75 30 := jK 0 f1759 rg_75_30_0_1 (by first | decide | omega) (by first | decide | omega) (by decide)
              have q1765 : h1749 75 30 = h1134 75 30 := by rw [← e1751]; exact x_up_k (by decide)
              exact i1139 w1132 (iv_c v1739) h1757 (by first | decide | omega) j1758 f1763 (by first | decide | omega)
            have q1738 : ¬ (2147483648 ≤ (h1134 94 0)) := q1738
            refine x_const (np := 132) (x := 9223372034707292159) (a := 2147483647) (by decide +kernel) (by decide) (by decide) ?_
            refine x_goto (np := 135) (x := 140) (by decide +kernel) ?_
            refine x_istore (np := 142) (x := 5) (lo' := [x_r 75, iv_c 2147483649, iv_c 2147483648, w1132, iv_c 2147483648, iv_c 2147483647]) (by decide +kernel) (by decide) (Nat.le_of_ble_eq_true rfl) rfl ?_
            refine x_iload (np := 144) (x := 5) (by decide +kernel) rfl (by decide) ?_
            refine x_ifz (k := 2) (tg := 151) (np := 147) (by decide +kernel) (by decide) (by decide) (fun q1766 => ?_) (fun q1767 => ?_)
            · have q1766 : 2147483647 < 2147483648 := q1766
              refine x_const (np := 152) (x := 9223372039002259456) (a := 2147483648) (by decide +kernel) (by decide) (by decide) ?_
              refine x_istore (np := 154) (x := 4) (lo' := [x_r 75, iv_c 2147483649, iv_c 2147483648, w1132, iv_c 2147483648, iv_c 2147483647]) (by decide +kernel) (by decide) (Nat.le_of_ble_eq_true rfl) rfl ?_
              refine x_iload (np := 156) (x := 4) (by decide +kernel) rfl (by decide) ?_
              refine x_ifz (k := 0) (tg := 180) (np := 159) (by decide +kernel) (by decide) (by decide) (fun q1768 => ?_) (fun q1769 => ?_)
              · have q1768 : 2147483648 = 2147483648 := q1768
                refine x_iinc (np := 183) (i := 2) (j := 2147483647) (v := 2147483647) (lo' := [x_r 75, iv_c 2147483649, iv_c 2147483647, w1132, iv_c 2147483648, iv_c 2147483647]) (by decide +kernel) (by decide) (by decide) rfl (by decide) (by first | decide | omega) (by first | decide | omega) rfl ?_
                refine x_goto (np := 186) (x := 12) (by decide +kernel) ?_
                exact i1140 w1132 (iv_c 2147483647) h1134 (by first | decide | omega) j1137 f1136 (by first | decide | omega)
              have q1769 : ¬ (2147483648 = 2147483648) := q1769
              exfalso; omega
            have q1767 : ¬ (2147483647 < 2147483648) := q1767
            exfalso; omega
          have q1733 : ¬ ((h1134 93 0) < 2147483648) := q1733
          refine x_aload (np := 112) (x := 0) (by decide +kernel) rfl (x_nc_le (by decide)) ?_
          refine x_aload (np := 113) (x := 0) (by decide +kernel) rfl (x_nc_le (by decide)) ?_
          have q1770 : h1134 75 27 = 93 := by have z := jB (e := 27) 0 j1137 rg_75_27_0_1 (by decide) (by decide); omega
          refine x_getR (np := 116) (x := 731) (f := 27) (q := 93) (by decide +kernel) (by decide) (by decide +kernel) q1770 ?_
          refine x_iload (np := 117) (x := 2) (by decide +kernel) rfl (by decide) ?_
          refine x_aldC (np := 118) (x := 0) (n := 6) (i := 0) (q := (h1134 93 0)) (by decide +kernel) (by decide +kernel) (by first | decide | omega) (by first | decide | omega) (by decide) rfl (fun l1771 => ?_)
          refine x_const (np := 119) (x := 9223372039002259456) (a := 2147483648) (by decide +kernel) (by decide) (by decide) ?_
          refine x_cV (t := 6) (mj := 248) (n := 3) (rc := 12) (ml := 4) (nr := 0) (np := 122) (as := [x_r 75, iv_c (h1134 93 0), iv_c 2147483648]) (rest := []) (lo1 := [x_r 75, iv_c (h1134 93 0), iv_c 2147483648, 147573952589676412928]) (by decide +kernel) (by decide) (by decide +kernel) (x_rb_of (by decide +kernel)) rfl rfl (x_wr (by decide) (x_wi l1731 (x_wi (by decide) x_wn))) x_wn (by decide) rfl (c248_75 j1137  (by first | decide | omega) (by first | decide | omega)) (fun h1775 q1774 => ?_)
          obtain ⟨j1776, f1777⟩ := q1774
          have f1780 := Fr.trans f1724 f1777 (by decide)
          have f1781 := Fr.trans f1136 f1777 (by decide)
          refine x_aload (np := 123) (x := 0) (by decide +kernel) rfl (x_nc_le (by decide)) ?_
          have q1782 : h1775 75 28 = 94 := by have z := jB (e := 28) 0 j1776 rg_75_28_0_1 (by decide) (by decide); omega
          refine x_getR (np := 126) (x := 732) (f := 28) (q := 94) (by decide +kernel) (by decide) (by decide +kernel) q1782 ?_
          refine x_iload (np := 127) (x := 2) (by decide +kernel) rfl (by decide) ?_
          have q1783 : h1775 94 0 = h1134 94 0 := jK 0 f1777 rg_94_0_1_6 (by first | decide | omega) (by first | decide | omega) (by decide)
          have b1784 := jB (e := 0) 0 j1137 rg_94_0_1_6 (by first | decide | omega) (by first | decide | omega)
          refine x_aldC (np := 128) (x := 0) (n := 6) (i := 0) (q := (h1134 94 0)) (by decide +kernel) (by decide +kernel) (by first | decide | omega) (by first | decide | omega) (by decide) q1783 (fun l1785 => ?_)
          refine x_ifz (k := 3) (tg := 135) (np := 131) (by decide +kernel) (by decide) l1785 (fun q1786 => ?_) (fun q1787 => ?_)
          · have q1786 : 2147483648 ≤ (h1134 94 0) := q1786
            refine x_aload (np := 136) (x := 0) (by decide +kernel) rfl (x_nc_le (by decide)) ?_
            refine x_iload (np := 137) (x := 2) (by decide +kernel) rfl (by decide) ?_
            have q1788 : h1775 94 0 = h1134 94 0 := jK 0 f1777 rg_94_0_1_6 (by first | decide | omega) (by first | decide | omega) (by decide)
            refine x_cP (t := 6) (mj := 257) (n := 2) (rc := 12) (ml := 3) (nr := 0) (np := 140) (as := [x_r 75, iv_c 2147483648]) (rest := []) (lo1 := [x_r 75, iv_c 2147483648, 147573952589676412928]) (by decide +kernel) (by decide) (by decide +kernel) (x_rb_of (by decide +kernel)) rfl rfl (x_wr (by decide) (x_wi (by decide) x_wn)) x_wn (by decide) rfl (c257_75_c0 j1776   (by first | decide | omega)) (fun v1789 l1790 q1791 => ?_)
            refine x_istore (np := 142) (x := 5) (lo' := [x_r 75, iv_c 2147483649, iv_c 2147483648, w1132, iv_c 2147483648, iv_c v1789]) (by decide +kernel) l1790 (Nat.le_of_ble_eq_true rfl) rfl ?_
            refine x_iload (np := 144) (x := 5) (by decide +kernel) rfl l1790 ?_
            refine x_ifz (k := 2) (tg := 151) (np := 147) (by decide +kernel) (by decide) l1790 (fun q1792 => ?_) (fun q1793 => ?_)
            · have q1792 : v1789 < 2147483648 := q1792
              refine x_const (np := 152) (x := 9223372039002259456) (a := 2147483648) (by decide +kernel) (by decide) (by decide) ?_
              refine x_istore (np := 154) (x := 4) (lo' := [x_r 75, iv_c 2147483649, iv_c 2147483648, w1132, iv_c 2147483648, iv_c v1789]) (by decide +kernel) (by decide) (Nat.le_of_ble_eq_true rfl) rfl ?_
              refine x_iload (np := 156) (x := 4) (by decide +kernel) rfl (by decide) ?_
              refine x_ifz (k := 0) (tg := 180) (np := 159) (by decide +kernel) (by decide) (by decide) (fun q1794 => ?_) (fun q1795 => ?_)
              · have q1794 : 2147483648 = 2147483648 := q1794
                refine x_iinc (np := 183) (i := 2) (j := 2147483647) (v := 2147483647) (lo' := [x_r 75, iv_c 2147483649, iv_c 2147483647, w1132, iv_c 2147483648, iv_c v1789]) (by decide +kernel) (by decide) (by decide) rfl (by decide) (by first | decide | omega) (by first | decide | omega) rfl ?_
                refine x_goto (np := 186) (x := 12) (by decide +kernel) ?_
                have q1796 : h1775 75 30 = h1134 75 30 := jK 0 f1777 rg_75_30_0_1 (by first | decide | omega) (by first | decide | omega) (by decide)
                exact i1140 w1132 (iv_c v1789) h1775 (by first | decide | omega) j1776 f1781 (by first | decide | omega)
              have q1795 : ¬ (2147483648 = 2147483648) := q1795
              exfalso; omega
            have q1793 : ¬ (v1789 < 2147483648) := q1793
            refine x_const (np := 148) (x := 9223372043297226753) (a := 2147483649) (by decide +kernel) (by decide) (by decide) ?_
            refine x_goto (np := 151) (x := 152) (by decide +kernel) ?_
            refine x_istore (np := 154) (x := 4) (lo' := [x_r 75, iv_c 2147483649, iv_c 2147483648, w1132, iv_c 2147483649, iv_c v1789]) (by decide +kernel) (by decide) (Nat.le_of_ble_eq_true rfl) rfl ?_
            refine x_iload (np := 156) (x := 4) (by decide +kernel) rfl (by decide) ?_
            refine x_ifz (k := 0) (tg := 180) (np := 159) (by decide +kernel) (by decide) (by decide) (fun q1797 => ?_) (fun q1798 => ?_)
            · have q1797 : 2147483649 = 2147483648 := q1797
              exfalso; omega
            have q1798 : ¬ (2147483649 = 2147483648) := q1798
            refine x_aload (np := 160) (x := 0) (by decide +kernel) rfl (x_nc_le (by decide)) ?_
            have q1799 : h1775 75 27 = 93 := by have z := jB (e := 27) 0 j1776 rg_75_27_0_1 (by decide) (by decide); omega
            refine x_getR (np := 163) (x := 731) (f := 27) (q := 93) (by decide +kernel) (by decide) (by decide +kernel) q1799 ?_
            refine x_iload (np := 164) (x := 2) (by decide +kernel) rfl (by decide) ?_
            refine x_iload (np := 166) (x := 5) (by decide +kernel) rfl l1790 ?_
            refine x_ast (np := 167) (x := 0) (kd := 1) (n := 6) (i := 0) (by decide +kernel) (Or.inl rfl) (by decide +kernel) (by first | decide | omega) (by first | decide | omega) (by decide) l1790 (fun z => absurd z (by decide)) ?_
            have j1801 := jU (e := 0) (v := v1789) 0 j1776 rg_93_0_1_6 (by first | decide | omega) (by first | decide | omega) (by first | decide | omega)
            have f1803 := jF (e := 0) (v := v1789) 0 f1780 rg_93_0_1_6 (by first | decide | omega) (by first | decide | omega) (by decide)
            have f1804 := jF (e := 0) (v := v1789) 0 f1781 rg_93_0_1_6 (by first | decide | omega) (by first | decide | omega) (by decide)
            generalize e1802 : x_up h1775 93 0 v1789 = h1800 at j1801 f1803 f1804 ⊢
            refine x_aload (np := 168) (x := 0) (by decide +kernel) rfl (x_nc_le (by decide)) ?_
            refine x_iload (np := 170) (x := 5) (by decide +kernel) rfl l1790 ?_
            refine x_const (np := 171) (x := 9223372043297226753) (a := 2147483649) (by decide +kernel) (by decide) (by decide) ?_
            refine x_cV (t := 6) (mj := 248) (n := 3) (rc := 12) (ml := 4) (nr := 0) (np := 174) (as := [x_r 75, iv_c v1789, iv_c 2147483649]) (rest := []) (lo1 := [x_r 75, iv_c v1789, iv_c 2147483649, 147573952589676412928]) (by decide +kernel) (by decide) (by decide +kernel) (x_rb_of (by decide +kernel)) rfl rfl (x_wr (by decide) (x_wi l1790 (x_wi (by decide) x_wn))) x_wn (by decide) rfl (c248_75 j1801  (by first | decide | omega) (by first | decide | omega)) (fun h1808 q1807 => ?_)
            obtain ⟨j1809, f1810⟩ := q1807
            have f1813 := Fr.trans f1803 f1810 (by decide)
            have f1814 := Fr.trans f1804 f1810 (by decide)
            refine x_iinc (np := 177) (i := 2) (j := 2147483649) (v := 2147483649) (lo' := [x_r 75, iv_c 2147483649, iv_c 2147483649, w1132, iv_c 2147483649, iv_c v1789]) (by decide +kernel) (by decide) (by decide) rfl (by decide) (by first | decide | omega) (by first | decide | omega) rfl ?_
            refine x_goto (np := 180) (x := 183) (by decide +kernel) ?_
            refine x_goto (np := 186) (x := 12) (by decide +kernel) ?_
            have q1815 : h1808 75 30 = h1800 75 30 := jK 0 f1810 rg_75_30_0_1 (by first | decide | omega) (by first | decide | omega) (by decide)
            have q1816 : h1800 75 30 = h1775 75 30 := by rw [← e1802]; exact x_up_k (by decide)
            have q1817 : h1775 75 30 = h1134 75 30 := jK 0 f1777 rg_75_30_0_1 (by first | decide | omega) (by first | decide | omega) (by decide)
            exact i1139 w1132 (iv_c v1789) h1808 (by first | decide | omega) j1809 f1814 (by first | decide | omega)
          have q1787 : ¬ (2147483648 ≤ (h1134 94 0)) := q1787
          refine x_const (np := 132) (x := 9223372034707292159) (a := 2147483647) (by decide +kernel) (by decide) (by decide) ?_
          refine x_goto (np := 135) (x := 140) (by decide +kernel) ?_
          refine x_istore (np := 142) (x := 5) (lo' := [x_r 75, iv_c 2147483649, iv_c 2147483648, w1132, iv_c 2147483648, iv_c 2147483647]) (by decide +kernel) (by decide) (Nat.le_of_ble_eq_true rfl) rfl ?_
          refine x_iload (np := 144) (x := 5) (by decide +kernel) rfl (by decide) ?_
          refine x_ifz (k := 2) (tg := 151) (np := 147) (by decide +kernel) (by decide) (by decide) (fun q1818 => ?_) (fun q1819 => ?_)
          · have q1818 : 2147483647 < 2147483648 := q1818
            refine x_const (np := 152) (x := 9223372039002259456) (a := 2147483648) (by decide +kernel) (by decide) (by decide) ?_
            refine x_istore (np := 154) (x := 4) (lo' := [x_r 75, iv_c 2147483649, iv_c 2147483648, w1132, iv_c 2147483648, iv_c 2147483647]) (by decide +kernel) (by decide) (Nat.le_of_ble_eq_true rfl) rfl ?_
            refine x_iload (np := 156) (x := 4) (by decide +kernel) rfl (by decide) ?_
            refine x_ifz (k := 0) (tg := 180) (np := 159) (by decide +kernel) (by decide) (by decide) (fun q1820 => ?_) (fun q1821 => ?_)
            · have q1820 : 2147483648 = 2147483648 := q1820
              refine x_iinc (np := 183) (i := 2) (j := 2147483647) (v := 2147483647) (lo' := [x_r 75, iv_c 2147483649, iv_c 2147483647, w1132, iv_c 2147483648, iv_c 2147483647]) (by decide +kernel) (by decide) (by decide) rfl (by decide) (by first | decide | omega) (by first | decide | omega) rfl ?_
              refine x_goto (np := 186) (x := 12) (by decide +kernel) ?_
              have q1822 : h1775 75 30 = h1134 75 30 := jK 0 f1777 rg_75_30_0_1 (by first | decide | omega) (by first | decide | omega) (by decide)
              exact i1140 w1132 (iv_c 2147483647) h1775 (by first | decide | omega) j1776 f1781 (by first | decide | omega)
            have q1821 : ¬ (2147483648 = 2147483648) := q1821
            exfalso; omega
          have q1819 : ¬ (2147483647 < 2147483648) := q1819
          exfalso; omega
        have q1728 : ¬ (2147483648 = 2147483648) := q1728
        exfalso; omega
  have q1823 : h2 75 30 = h 75 30 := by rw [← e4]; exact x_up_i (by first | decide | omega)
  exact (p1112 _).1 (iv_c 2147483648) 147573952589676412928 h2 (Nat.lt_succ_self _) j3 (Fr.refl _ _) (by first | decide | omega)
