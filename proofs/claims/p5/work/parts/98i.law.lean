/-! ===== the law: its loop ===== -/
/-- the table at the begin -/
def h0 (k i : Nat) : Nat := if x_ty k i = 1 then iw_get hp_5 k i - 18446744073709551616 else iw_get hp_5 k i % 4294967296
theorem h0_is : ∀ k, k < 98 → (iv_hk hp_5 k).map (fun q => (q.1, q.2.1)) = some (x_kd k, x_ln k) := by decide +kernel
theorem h0_v : ∀ k, k < 98 → ∀ i, i < x_ln k → iw_get hp_5 k i = x_cd (x_ty k i) (h0 k i) ∧ h0 k i < 4294967296 ∧ j_lo k i ≤ h0 k i ∧ h0 k i ≤ j_hi k i := by decide +kernel
theorem h0_R : xR h0 hp_5 := fun k hk => by
  have e := h0_is k hk
  refine ⟨?_, fun i hi => ⟨(h0_v k hk i hi).1, (h0_v k hk i hi).2.1⟩⟩
  cases hq : iv_hk hp_5 k with
  | none => rw [hq] at e; cases e
  | some q =>
    rw [hq] at e
    have e : some (q.1, q.2.1) = some (x_kd k, x_ln k) := e
    obtain ⟨q1, q2, q3⟩ := q
    cases e
    exact ⟨q3, hq⟩
theorem h0_J : J h0 := ⟨fun k i h1 h2 => (h0_v k h1 i h2).2.2, by unfold j_tw; decide +kernel⟩
theorem h0_I0 : INV h0 := ⟨h0_J, by decide +kernel, fun n hn => absurd hn (by rw [show h0 76 290 - 2147483648 = 0 by decide +kernel]; exact Nat.not_lt_zero _), fun n hn => absurd hn (by rw [show h0 77 290 - 2147483648 = 0 by decide +kernel]; exact Nat.not_lt_zero _), fun z => absurd z (by decide +kernel), by decide +kernel⟩
theorem h0_ty : ∀ u, u < 400 → 2147483648 ≤ h0 79 u ∧ h0 2 u = h0 79 u := by decide +kernel
theorem h0_tv : ∀ i, i < 6 → tv h0 i = h0 76 i := by decide +kernel
theorem h0_I : INV5 h0 := ⟨h0_I0, fun u hu => Or.inl (h0_ty u hu), ⟨by decide +kernel, h0_tv, by decide +kernel, fun z => absurd z (by decide +kernel)⟩, by decide +kernel⟩
theorem lw_in {sc : Nat × Nat} {d j c0 s0 w5 w6 : Nat} {h : xh} {Q : Nat → xh → Prop} (hs : scOK sc) (hQ : Q (iv_c 2147483649) h) (hj : j ≤ 400) (k : j + 6 ≤ sc.1 → X sc 309 (d + 60) Q c0 s0 33 [55340232221128654849, x_r 0, x_r 75, x_r 97, iv_c (2147483648 + j), w5, w6] [] h) : X sc 309 (d + 60) Q c0 s0 23 [55340232221128654849, x_r 0, x_r 75, x_r 97, iv_c (2147483648 + j), w5, w6] [] h := by
  have h384 := hs.1
  refine x_iload (np := 25) (x := 4) (by decide +kernel) rfl (by omega) ?_
  refine x_aloadS (np := 26) (x := 0) (by decide +kernel) rfl ?_
  refine x_alenS hs (np := 27) (x := 0) (by decide +kernel) ?_
  refine x_const (np := 29) (x := 9223372064772063238) (a := 2147483654) (by decide +kernel) (by decide) (by decide) ?_
  refine x_isub (np := 30) (x := 0) (v := (2147483642 + sc.1)) (by decide +kernel) (by omega) (by decide) (by omega) (by omega) ?_
  refine x_icmp (k := 4) (tg := 1375) (np := 33) (by decide +kernel) (by decide) (by omega) (by omega) (fun q => ?_) (fun q => ?_)
  · refine x_const (np := 1376) (x := 9223372043297226753) (a := 2147483649) (by decide +kernel) (by decide) (by decide) ?_
    exact x_retI (np := 1377) (x := 0) (by decide +kernel) (by decide) (Or.inr ⟨by decide +kernel, by decide, by decide⟩) hQ
  · have q : ¬ (2147483642 + sc.1 < 2147483648 + j) := q
    exact k (by omega)
set_option maxHeartbeats 0 in
theorem lw_body {sc : Nat × Nat} {d j c0 s0 w5 w6 : Nat} {h : xh} {Q : Nat → xh → Prop} (hs : scOK sc) (hI : INV5 h) (hj : j + 6 ≤ sc.1) (hc : c0 + 2 ≤ 600000) (hz : s0 + 12 ≤ 7300000) (tl : ∀ c1 s1 v5 v6 h', c1 ≤ c0 + 2 → s1 ≤ s0 + 12 → INV5 h' → X sc 309 (d + 60) Q c1 s1 1369 [55340232221128654849, x_r 0, x_r 75, x_r 97, iv_c (2147483648 + j), v5, v6] [] h') : X sc 309 (d + 60) Q c0 s0 33 [55340232221128654849, x_r 0, x_r 75, x_r 97, iv_c (2147483648 + j), w5, w6] [] h := by
    have h384 := hs.1
    refine x_aloadS (np := 34) (x := 0) (by decide +kernel) rfl ?_
    refine x_iload (np := 36) (x := 4) (by decide +kernel) rfl (by omega) ?_
    refine x_scr (j := j) hs (np := 37) (x := 0) (by decide +kernel) rfl (by omega) (by omega) ?_
    refine x_const (np := 39) (x := 9223372309585199167) (a := 2147483711) (by decide +kernel) (by decide) (by decide) ?_
    refine x_mask (np := 40) (m := 6) (k9 := 64) (by decide +kernel) sv_lt (by decide +kernel) (by decide) (by decide) (by decide) (fun v hv => ?_)
    rcases (show v = 0 ∨ v = 1 ∨ v = 2 ∨ v = 3 ∨ v = 4 ∨ v = 5 ∨ v = 6 ∨ v = 7 ∨ v = 8 ∨ v = 9 ∨ v = 10 ∨ v = 11 ∨ v = 12 ∨ v = 13 ∨ v = 14 ∨ v = 15 ∨ v = 16 ∨ v = 17 ∨ v = 18 ∨ v = 19 ∨ v = 20 ∨ v = 21 ∨ v = 22 ∨ v = 23 ∨ v = 24 ∨ v = 25 ∨ v = 26 ∨ v = 27 ∨ v = 28 ∨ v = 29 ∨ v = 30 ∨ v = 31 ∨ v = 32 ∨ v = 33 ∨ v = 34 ∨ v = 35 ∨ v = 36 ∨ 36 < v by omega) with q | q | q | q | q | q | q | q | q | q | q | q | q | q | q | q | q | q | q | q | q | q | q | q | q | q | q | q | q | q | q | q | q | q | q | q | q | q
    · subst q
      refine x_tsw1 (np := 41) (x := 0) (by decide +kernel) (by decide) (i := 0) (lo9 := 2147483648) (hi9 := 2147483684) (tg := 204) (by decide +kernel) (by decide) (by decide) ?_
      exact lc_0 hs hI hj (by omega) (by omega) tl
    · subst q
      refine x_tsw1 (np := 41) (x := 0) (by decide +kernel) (by decide) (i := 1) (lo9 := 2147483648) (hi9 := 2147483684) (tg := 277) (by decide +kernel) (by decide) (by decide) ?_
      exact lc_1 hs hI hj (by omega) (by omega) tl
    · subst q
      refine x_tsw1 (np := 41) (x := 0) (by decide +kernel) (by decide) (i := 2) (lo9 := 2147483648) (hi9 := 2147483684) (tg := 302) (by decide +kernel) (by decide) (by decide) ?_
      exact lc_2 hs hI hj (by omega) (by omega) tl
    · subst q
      refine x_tsw1 (np := 41) (x := 0) (by decide +kernel) (by decide) (i := 3) (lo9 := 2147483648) (hi9 := 2147483684) (tg := 318) (by decide +kernel) (by decide) (by decide) ?_
      exact lc_3 hs hI hj (by omega) (by omega) tl
    · subst q
      refine x_tsw1 (np := 41) (x := 0) (by decide +kernel) (by decide) (i := 4) (lo9 := 2147483648) (hi9 := 2147483684) (tg := 331) (by decide +kernel) (by decide) (by decide) ?_
      exact lc_4 hs hI hj (by omega) (by omega) tl
    · subst q
      refine x_tsw1 (np := 41) (x := 0) (by decide +kernel) (by decide) (i := 5) (lo9 := 2147483648) (hi9 := 2147483684) (tg := 356) (by decide +kernel) (by decide) (by decide) ?_
      exact lc_5 hs hI hj (by omega) (by omega) tl
    · subst q
      refine x_tsw1 (np := 41) (x := 0) (by decide +kernel) (by decide) (i := 6) (lo9 := 2147483648) (hi9 := 2147483684) (tg := 396) (by decide +kernel) (by decide) (by decide) ?_
      exact lc_6 hs hI hj (by omega) (by omega) tl
    · subst q
      refine x_tsw1 (np := 41) (x := 0) (by decide +kernel) (by decide) (i := 7) (lo9 := 2147483648) (hi9 := 2147483684) (tg := 436) (by decide +kernel) (by decide) (by decide) ?_
      exact lc_7 hs hI hj (by omega) (by omega) tl
    · subst q
      refine x_tsw1 (np := 41) (x := 0) (by decide +kernel) (by decide) (i := 8) (lo9 := 2147483648) (hi9 := 2147483684) (tg := 476) (by decide +kernel) (by decide) (by decide) ?_
      exact lc_8 hs hI hj (by omega) (by omega) tl
    · subst q
      refine x_tsw1 (np := 41) (x := 0) (by decide +kernel) (by decide) (i := 9) (lo9 := 2147483648) (hi9 := 2147483684) (tg := 528) (by decide +kernel) (by decide) (by decide) ?_
      exact lc_9 hs hI hj (by omega) (by omega) tl
    · subst q
      refine x_tsw1 (np := 41) (x := 0) (by decide +kernel) (by decide) (i := 10) (lo9 := 2147483648) (hi9 := 2147483684) (tg := 556) (by decide +kernel) (by decide) (by decide) ?_
      exact lc_10 hs hI hj (by omega) (by omega) tl
    · subst q
      refine x_tsw1 (np := 41) (x := 0) (by decide +kernel) (by decide) (i := 11) (lo9 := 2147483648) (hi9 := 2147483684) (tg := 584) (by decide +kernel) (by decide) (by decide) ?_
      exact lc_11 hs hI hj (by omega) (by omega) tl
    · subst q
      refine x_tsw1 (np := 41) (x := 0) (by decide +kernel) (by decide) (i := 12) (lo9 := 2147483648) (hi9 := 2147483684) (tg := 624) (by decide +kernel) (by decide) (by decide) ?_
      exact lc_12 hs hI hj (by omega) (by omega) tl
    · subst q
      refine x_tsw1 (np := 41) (x := 0) (by decide +kernel) (by decide) (i := 13) (lo9 := 2147483648) (hi9 := 2147483684) (tg := 664) (by decide +kernel) (by decide) (by decide) ?_
      exact lc_13 hs hI hj (by omega) (by omega) tl
    · subst q
      refine x_tsw1 (np := 41) (x := 0) (by decide +kernel) (by decide) (i := 14) (lo9 := 2147483648) (hi9 := 2147483684) (tg := 720) (by decide +kernel) (by decide) (by decide) ?_
      exact lc_14 hs hI hj (by omega) (by omega) tl
    · subst q
      refine x_tsw1 (np := 41) (x := 0) (by decide +kernel) (by decide) (i := 15) (lo9 := 2147483648) (hi9 := 2147483684) (tg := 760) (by decide +kernel) (by decide) (by decide) ?_
      exact lc_15 hs hI hj (by omega) (by omega) tl
    · subst q
      refine x_tsw1 (np := 41) (x := 0) (by decide +kernel) (by decide) (i := 16) (lo9 := 2147483648) (hi9 := 2147483684) (tg := 788) (by decide +kernel) (by decide) (by decide) ?_
      exact lc_16 hs hI hj (by omega) (by omega) tl
    · subst q
      refine x_tsw1 (np := 41) (x := 0) (by decide +kernel) (by decide) (i := 17) (lo9 := 2147483648) (hi9 := 2147483684) (tg := 816) (by decide +kernel) (by decide) (by decide) ?_
      exact lc_17 hs hI hj (by omega) (by omega) tl
    · subst q
      refine x_tsw1 (np := 41) (x := 0) (by decide +kernel) (by decide) (i := 18) (lo9 := 2147483648) (hi9 := 2147483684) (tg := 832) (by decide +kernel) (by decide) (by decide) ?_
      exact lc_18 hs hI hj (by omega) (by omega) tl
    · subst q
      refine x_tsw1 (np := 41) (x := 0) (by decide +kernel) (by decide) (i := 19) (lo9 := 2147483648) (hi9 := 2147483684) (tg := 872) (by decide +kernel) (by decide) (by decide) ?_
      exact lc_19 hs hI hj (by omega) (by omega) tl
    · subst q
      refine x_tsw1 (np := 41) (x := 0) (by decide +kernel) (by decide) (i := 20) (lo9 := 2147483648) (hi9 := 2147483684) (tg := 900) (by decide +kernel) (by decide) (by decide) ?_
      exact lc_20 hs hI hj (by omega) (by omega) tl
    · subst q
      refine x_tsw1 (np := 41) (x := 0) (by decide +kernel) (by decide) (i := 21) (lo9 := 2147483648) (hi9 := 2147483684) (tg := 913) (by decide +kernel) (by decide) (by decide) ?_
      exact lc_21 hs hI hj (by omega) (by omega) tl
    · subst q
      refine x_tsw1 (np := 41) (x := 0) (by decide +kernel) (by decide) (i := 22) (lo9 := 2147483648) (hi9 := 2147483684) (tg := 941) (by decide +kernel) (by decide) (by decide) ?_
      exact lc_22 hs hI hj (by omega) (by omega) tl
    · subst q
      refine x_tsw1 (np := 41) (x := 0) (by decide +kernel) (by decide) (i := 23) (lo9 := 2147483648) (hi9 := 2147483684) (tg := 997) (by decide +kernel) (by decide) (by decide) ?_
      exact lc_23 hs hI hj (by omega) (by omega) tl
    · subst q
      refine x_tsw1 (np := 41) (x := 0) (by decide +kernel) (by decide) (i := 24) (lo9 := 2147483648) (hi9 := 2147483684) (tg := 1010) (by decide +kernel) (by decide) (by decide) ?_
      exact lc_24 hs hI hj (by omega) (by omega) tl
    · subst q
      refine x_tsw1 (np := 41) (x := 0) (by decide +kernel) (by decide) (i := 25) (lo9 := 2147483648) (hi9 := 2147483684) (tg := 1050) (by decide +kernel) (by decide) (by decide) ?_
      exact lc_25 hs hI hj (by omega) (by omega) tl
    · subst q
      refine x_tsw1 (np := 41) (x := 0) (by decide +kernel) (by decide) (i := 26) (lo9 := 2147483648) (hi9 := 2147483684) (tg := 1063) (by decide +kernel) (by decide) (by decide) ?_
      exact lc_26 hs hI hj (by omega) (by omega) tl
    · subst q
      refine x_tsw1 (np := 41) (x := 0) (by decide +kernel) (by decide) (i := 27) (lo9 := 2147483648) (hi9 := 2147483684) (tg := 1103) (by decide +kernel) (by decide) (by decide) ?_
      exact lc_27 hs hI hj (by omega) (by omega) tl
    · subst q
      refine x_tsw1 (np := 41) (x := 0) (by decide +kernel) (by decide) (i := 28) (lo9 := 2147483648) (hi9 := 2147483684) (tg := 1116) (by decide +kernel) (by decide) (by decide) ?_
      exact lc_28 hs hI hj (by omega) (by omega) tl
    · subst q
      refine x_tsw1 (np := 41) (x := 0) (by decide +kernel) (by decide) (i := 29) (lo9 := 2147483648) (hi9 := 2147483684) (tg := 1144) (by decide +kernel) (by decide) (by decide) ?_
      exact lc_29 hs hI hj (by omega) (by omega) tl
    · subst q
      refine x_tsw1 (np := 41) (x := 0) (by decide +kernel) (by decide) (i := 30) (lo9 := 2147483648) (hi9 := 2147483684) (tg := 1184) (by decide +kernel) (by decide) (by decide) ?_
      exact lc_30 hs hI hj (by omega) (by omega) tl
    · subst q
      refine x_tsw1 (np := 41) (x := 0) (by decide +kernel) (by decide) (i := 31) (lo9 := 2147483648) (hi9 := 2147483684) (tg := 1212) (by decide +kernel) (by decide) (by decide) ?_
      exact lc_31 hs hI hj (by omega) (by omega) tl
    · subst q
      refine x_tsw1 (np := 41) (x := 0) (by decide +kernel) (by decide) (i := 32) (lo9 := 2147483648) (hi9 := 2147483684) (tg := 1240) (by decide +kernel) (by decide) (by decide) ?_
      exact lc_32 hs hI hj (by omega) (by omega) tl
    · subst q
      refine x_tsw1 (np := 41) (x := 0) (by decide +kernel) (by decide) (i := 33) (lo9 := 2147483648) (hi9 := 2147483684) (tg := 1280) (by decide +kernel) (by decide) (by decide) ?_
      exact lc_33 hs hI hj (by omega) (by omega) tl
    · subst q
      refine x_tsw1 (np := 41) (x := 0) (by decide +kernel) (by decide) (i := 34) (lo9 := 2147483648) (hi9 := 2147483684) (tg := 1320) (by decide +kernel) (by decide) (by decide) ?_
      exact lc_34 hs hI hj (by omega) (by omega) tl
    · subst q
      refine x_tsw1 (np := 41) (x := 0) (by decide +kernel) (by decide) (i := 35) (lo9 := 2147483648) (hi9 := 2147483684) (tg := 1331) (by decide +kernel) (by decide) (by decide) ?_
      exact lc_35 hs hI hj (by omega) (by omega) tl
    · subst q
      refine x_tsw1 (np := 41) (x := 0) (by decide +kernel) (by decide) (i := 36) (lo9 := 2147483648) (hi9 := 2147483684) (tg := 1344) (by decide +kernel) (by decide) (by decide) ?_
      exact lc_36 hs hI hj (by omega) (by omega) tl
    · refine x_tsw0 (np := 41) (x := 0) (by decide +kernel) (by omega) (lo9 := 2147483648) (hi9 := 2147483684) (tg := 1369) (by decide +kernel) (Or.inr (by omega)) ?_
      exact tl c0 s0 w5 w6 h (by omega) (by omega) hI
theorem lw_loop {sc : Nat × Nat} {d : Nat} {Q : Nat → xh → Prop} (hs : scOK sc) (hQ : ∀ h', Q (iv_c 2147483649) h') : ∀ (n j c0 s0 w5 w6 : Nat) (h : xh), 391 ≤ j + n → j ≤ 390 → INV5 h → c0 + 390 ≤ 600000 + j → s0 + 780 ≤ 7300000 + 2 * j → X sc 309 (d + 60) Q c0 s0 23 [55340232221128654849, x_r 0, x_r 75, x_r 97, iv_c (2147483648 + j), w5, w6] [] h := by
  intro n
  induction n with
  | zero =>
    intro j c0 s0 w5 w6 h hn hj9 hI hc hz
    omega
  | succ n ih =>
    intro j c0 s0 w5 w6 h hn hj9 hI hc hz
    have h384 := hs.1
    refine lw_in hs (hQ h) (by omega) (fun hj => lw_body hs hI hj (by omega) (by omega) (fun c1 s1 v5 v6 h' e1 e2 hI' => ?_))
    refine x_iinc (np := 1372) (i := 4) (j := 2147483654) (v := (2147483648 + (j + 6))) (lo' := [55340232221128654849, x_r 0, x_r 75, x_r 97, iv_c (2147483648 + (j + 6)), v5, v6]) (by decide +kernel) (by decide) (by decide) rfl (by omega) (by omega) (by omega) rfl ?_
    refine x_goto (np := 1375) (x := 23) (by decide +kernel) ?_
    exact ih (j + 6) c1 s1 v5 v6 h' (by omega) (by omega) hI' (by omega) (by omega)
theorem lw_all {sc : Nat × Nat} (hs : scOK sc) : ∃ L', iw_all sc 309 60 (9223372043297226753, L') 0 0 0 [55340232221128654849, 147573952589676412928, 147573952589676412928, 147573952589676412928, 147573952589676412928, 147573952589676412928, 147573952589676412928] [] hp_0 := by
  have z : X sc 309 (0 + 60) (fun v _ => v = 9223372043297226753) 98 11703 23 [55340232221128654849, x_r 0, x_r 75, x_r 97, iv_c (2147483648 + 0), 147573952589676412928, 147573952589676412928] [] h0 := lw_loop (d := 0) (Q := fun v _ => v = 9223372043297226753) hs (fun _ => by decide) 391 0 98 11703 147573952589676412928 147573952589676412928 h0 (by decide) (by decide) h0_I (by decide) (by decide)
  obtain ⟨v, L', h', -, q, g⟩ := z hp_5 h0_R
  have q : v = 9223372043297226753 := q
  subst q
  have e : iv_c (2147483648 + 0) = 9223372039002259456 := by decide
  rw [e] at g
  exact ⟨L', lw_begin g⟩
