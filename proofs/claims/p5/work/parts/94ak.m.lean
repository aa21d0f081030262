/-! ===== methods ===== -/
set_option maxHeartbeats 0 in
/-- LentNamesModel.readAllOf()Z -/
theorem c191_75_D1 {sc : Nat × Nat} {d  : Nat} {h : xh} {tB : Nat → Nat} {tN : Nat} (hJ : J h) (hr0 : (h 75 13) + 5 ≤ (h 75 7)) (hr1 : (h 75 10) = 2147483649) (hT : Tq tB tN h) : X sc 191 (d + 23) (xI fun r h' => J h' ∧ Fr 97517569 h h' ∧ (2147483648 ≤ r ∧ r ≤ 2147483649) ∧ (r = 2147483649 → h' 75 13 + h 75 7 ≤ h' 75 7 + h 75 13) ∧ (r = 2147483649 → h' 75 10 = h 75 10) ∧ (r = 2147483649 → h 75 7 + 0 ≤ h' 75 7) ∧ (r = 2147483649 → h 75 13 ≤ h' 75 13) ∧ Kp h h' (h 75 13 - 2147483648) ∧ (r = 2147483649 → Seg (sg h') (h 75 13 - 2147483648) (h' 75 13 - 2147483648)) ∧ G tB tN (Kd.seq 1) 1 (sk tB tN (h 75 7)) (rs r (sk tB tN (h' 75 7))) ∧ (r = 2147483648 → GF tB tN (Kd.seq 1) 1 (sk tB tN (h 75 7)) (h' 75 9))) 0 0 0 [x_r 75] [] h := by
  have hF := Fr.refl 97517569 h
  have b1 := jB (e := 13) 0 hJ rg_75_13_0_1 (by first | decide | omega) (by first | decide | omega)
  have b2 := jB (e := 7) 0 hJ rg_75_7_0_1 (by first | decide | omega) (by first | decide | omega)
  have b3 := jB (e := 10) 0 hJ rg_75_10_0_1 (by first | decide | omega) (by first | decide | omega)
  refine x_aload (np := 1) (x := 0) (by decide +kernel) rfl (x_nc_le (by decide)) ?_
  refine x_cI (t := 6) (mj := 190) (n := 1) (rc := 12) (ml := 3) (nr := 0) (np := 4) (as := [x_r 75]) (rest := []) (lo1 := [x_r 75, 147573952589676412928, 147573952589676412928]) (by decide +kernel) (by decide) (by decide +kernel) (x_rb_of (by decide +kernel)) rfl rfl (x_wr (by decide) x_wn) x_wn (by decide) rfl (c190_75_D1 hJ  (by first | decide | omega) (by first | decide | omega) hT) (fun v4 h7 l5 q6 => ?_)
  obtain ⟨j8, f9, b10, c11, c12, c13, c14, c15, c16, c17, c18⟩ := q6
  have f19 := Fr.trans hF f9 (by decide)
  have b20 := jB (e := 13) 0 j8 rg_75_13_0_1 (by first | decide | omega) (by first | decide | omega)
  have b21 := jB (e := 7) 0 j8 rg_75_7_0_1 (by first | decide | omega) (by first | decide | omega)
  have b22 := jB (e := 10) 0 j8 rg_75_10_0_1 (by first | decide | omega) (by first | decide | omega)
  refine x_ifz (k := 1) (tg := 9) (np := 7) (by decide +kernel) (by decide) l5 (fun q23 => ?_) (fun q24 => ?_)
  · have q23 : v4 ≠ 2147483648 := q23
    have b25 := c11 (by first | decide | omega)
    have b26 := c12 (by first | decide | omega)
    have b27 := c13 (by first | decide | omega)
    have b28 := c14 (by first | decide | omega)
    have s29 := c16 (by first | decide | omega)
    have p202 : ∀ (n : Nat) (h199 : xh), 4294967296 - h199 75 7 < n → h199 75 13 + h 75 7 ≤ h199 75 7 + h 75 13 → h199 75 10 = h 75 10 → h 75 7 ≤ h199 75 7 → h 75 13 ≤ h199 75 13 → J h199 → Fr 97517569 h7 h199 → Res tB tN (Kd.lp 1) 1 (sk tB tN (h199 75 7)) (Kd.seq 1) 1 (sk tB tN (h 75 7)) → ResF tB tN (Kd.lp 1) 1 (sk tB tN (h199 75 7)) (Kd.seq 1) 1 (sk tB tN (h 75 7)) → Kp h h199 (h 75 13 - 2147483648) → Seg (sg h199) (h 75 13 - 2147483648) (h199 75 13 - 2147483648) → X sc 191 (d + 23) (xI fun r h' => J h' ∧ Fr 97517569 h h' ∧ (2147483648 ≤ r ∧ r ≤ 2147483649) ∧ (r = 2147483649 → h' 75 13 + h 75 7 ≤ h' 75 7 + h 75 13) ∧ (r = 2147483649 → h' 75 10 = h 75 10) ∧ (r = 2147483649 → h 75 7 + 0 ≤ h' 75 7) ∧ (r = 2147483649 → h 75 13 ≤ h' 75 13) ∧ Kp h h' (h 75 13 - 2147483648) ∧ (r = 2147483649 → Seg (sg h') (h 75 13 - 2147483648) (h' 75 13 - 2147483648)) ∧ G tB tN (Kd.seq 1) 1 (sk tB tN (h 75 7)) (rs r (sk tB tN (h' 75 7))) ∧ (r = 2147483648 → GF tB tN (Kd.seq 1) 1 (sk tB tN (h 75 7)) (h' 75 9))) 0 0 9 [x_r 75] [] h199 := by
      intro n
      induction n with
      | zero => intro h199 q211; exact absurd q211 (Nat.not_lt_zero _)
      | succ n i212 =>
        intro h199 q211 b203 b204 b205 b206 j201 f200 m207 m208 m209 m210
        have f213 := Fr.trans f19 f200 (by decide)
        refine x_aload (np := 10) (x := 0) (by decide +kernel) rfl (x_nc_le (by decide)) ?_
        refine x_ldcwB (i := 31) (idx := 257) (tx := "and") (by rw [tb_y191]; exact List.mem_of_getElem? (i := 66) rfl) (by decide) (by rw [tb_b191]; decide +kernel) ?_
        have m218 := Tq.fr hT f9 (by decide) (by decide)
        have m217 := Tq.fr m218 f200 (by decide) (by decide)
        refine x_cI (t := 6) (mj := 171) (n := 2) (rc := 12) (ml := 2) (nr := 0) (np := 16) (as := [x_r 75, x_b (31 + 1)]) (rest := []) (lo1 := [x_r 75, x_b (31 + 1)]) (by decide +kernel) (by decide) (by decide +kernel) (x_rb_of (by decide +kernel)) rfl rfl (x_wr (by decide) (x_wB (by decide) x_wn)) x_wn (by decide) rfl (c171_75_S0 j201  (by decide) m217) (fun v214 h219 l215 q216 => ?_)
        obtain ⟨j220, f221, b222, c223, c224, c225, c226⟩ := q216
        have f227 := Fr.trans f213 f221 (by decide)
        have f228 := Fr.trans f200 f221 (by decide)
        have b229 := jB (e := 7) 0 j201 rg_75_7_0_1 (by first | decide | omega) (by first | decide | omega)
        have b230 := jB (e := 7) 0 j220 rg_75_7_0_1 (by first | decide | omega) (by first | decide | omega)
        refine x_ifz (k := 0) (tg := 38) (np := 19) (by decide +kernel) (by decide) l215 (fun q231 => ?_) (fun q232 => ?_)
        · have q231 : v214 = 2147483648 := q231
          refine x_const (np := 39) (x := 9223372043297226753) (a := 2147483649) (by decide +kernel) (by decide) (by decide) ?_
          have q233 : h219 75 13 = h199 75 13 := jK 0 f221 rg_75_13_0_1 (by first | decide | omega) (by first | decide | omega) (by decide)
          have b234 := jB (e := 13) 0 j201 rg_75_13_0_1 (by first | decide | omega) (by first | decide | omega)
          have q235 : h219 75 10 = h199 75 10 := jK 0 f221 rg_75_10_0_1 (by first | decide | omega) (by first | decide | omega) (by decide)
          have b236 := jB (e := 10) 0 j201 rg_75_10_0_1 (by first | decide | omega) (by first | decide | omega)
          have q237 : h219 75 13 = h199 75 13 := jK 0 f221 rg_75_13_0_1 (by first | decide | omega) (by first | decide | omega) (by decide)
          have k239 : Kp h h199 (h 75 13 - 2147483648) := Kp.less m209 (by first | decide | omega)
          have k238 : Kp h h219 (h 75 13 - 2147483648) := Kp.fr k239 f221 (by first | decide | omega) (by decide)
          have q240 : h219 75 13 = h199 75 13 := jK 0 f221 rg_75_13_0_1 (by first | decide | omega) (by first | decide | omega) (by decide)
          have k241 : Kp h199 h219 (h199 75 13 - 2147483648) := Kp.fr Kp.refl f221 (by first | decide | omega) (by decide)
          have s242 : Seg (sg h219) (h 75 13 - 2147483648) (h219 75 13 - 2147483648) := Seg.cast (Seg.kp m210 k241) (by first | decide | omega) (by first | decide | omega)
          obtain ⟨w243, e244⟩ := Tk.no c225 (by first | decide | omega)
          refine x_retI (np := 40) (x := 0) (by decide +kernel) (by decide) (Or.inr ⟨by decide +kernel, by first | decide | omega, by first | decide | omega⟩) ⟨_, rfl, (by decide), ?_⟩
          exact ⟨j220, f227, (by first | decide | omega), (fun z => by first | decide | omega), (fun z => by first | decide | omega), (fun z => by first | decide | omega), (fun z => by first | decide | omega), k238, (fun _ => s242), (gQ_e (t := 1) m207 w243 rfl (by first | decide | omega) ((Eq.symm e244))), (fun z => absurd z (by first | decide | omega))⟩
        have q232 : ¬ (v214 = 2147483648) := q232
        have b245 := c224 (by first | decide | omega)
        refine x_aload (np := 20) (x := 0) (by decide +kernel) rfl (x_nc_le (by decide)) ?_
        have q246 : h219 75 10 = h199 75 10 := jK 0 f221 rg_75_10_0_1 (by first | decide | omega) (by first | decide | omega) (by decide)
        have b247 := jB (e := 10) 0 j201 rg_75_10_0_1 (by first | decide | omega) (by first | decide | omega)
        have q248 : h219 75 13 = h199 75 13 := jK 0 f221 rg_75_13_0_1 (by first | decide | omega) (by first | decide | omega) (by decide)
        have b249 := jB (e := 13) 0 j201 rg_75_13_0_1 (by first | decide | omega) (by first | decide | omega)
        have q250 : h219 75 10 = h199 75 10 := jK 0 f221 rg_75_10_0_1 (by first | decide | omega) (by first | decide | omega) (by decide)
        have m254 := Tq.fr m217 f221 (by decide) (by decide)
        refine x_cI (t := 6) (mj := 190) (n := 1) (rc := 12) (ml := 3) (nr := 0) (np := 23) (as := [x_r 75]) (rest := []) (lo1 := [x_r 75, 147573952589676412928, 147573952589676412928]) (by decide +kernel) (by decide) (by decide +kernel) (x_rb_of (by decide +kernel)) rfl rfl (x_wr (by decide) x_wn) x_wn (by decide) rfl (c190_75_D1 j220  (by first | decide | omega) (by first | decide | omega) m254) (fun v251 h255 l252 q253 => ?_)
        obtain ⟨j256, f257, b258, c259, c260, c261, c262, c263, c264, c265, c266⟩ := q253
        have f267 := Fr.trans f227 f257 (by decide)
        have f268 := Fr.trans f228 f257 (by decide)
        have q269 : h219 75 13 = h199 75 13 := jK 0 f221 rg_75_13_0_1 (by first | decide | omega) (by first | decide | omega) (by decide)
        have b270 := jB (e := 13) 0 j256 rg_75_13_0_1 (by first | decide | omega) (by first | decide | omega)
        have b271 := jB (e := 7) 0 j256 rg_75_7_0_1 (by first | decide | omega) (by first | decide | omega)
        have q272 : h219 75 10 = h199 75 10 := jK 0 f221 rg_75_10_0_1 (by first | decide | omega) (by first | decide | omega) (by decide)
        have b273 := jB (e := 10) 0 j256 rg_75_10_0_1 (by first | decide | omega) (by first | decide | omega)
        have q274 : h219 75 13 = h199 75 13 := jK 0 f221 rg_75_13_0_1 (by first | decide | omega) (by first | decide | omega) (by decide)
        refine x_ifz (k := 1) (tg := 28) (np := 26) (by decide +kernel) (by decide) l252 (fun q275 => ?_) (fun q276 => ?_)
        · have q275 : v251 ≠ 2147483648 := q275
          have b277 := c259 (by first | decide | omega)
          have b278 := c260 (by first | decide | omega)
          have b279 := c261 (by first | decide | omega)
          have b280 := c262 (by first | decide | omega)
          have s281 := c264 (by first | decide | omega)
          have q282 : h219 75 13 = h199 75 13 := jK 0 f221 rg_75_13_0_1 (by first | decide | omega) (by first | decide | omega) (by decide)
          refine x_aload (np := 29) (x := 0) (by decide +kernel) rfl (x_nc_le (by decide)) ?_
          refine x_const (np := 31) (x := 9223372094836834317) (a := 2147483661) (by decide +kernel) (by decide) (by decide) ?_
          refine x_const (np := 32) (x := 9223372039002259456) (a := 2147483648) (by decide +kernel) (by decide) (by decide) ?_
          refine x_nV (t := 6) (mj := 187) (n := 3) (rc := 12) (ml := 3) (nr := 0) (np := 35) (as := [x_r 75, iv_c 2147483661, iv_c 2147483648]) (rest := []) (lo1 := [x_r 75, iv_c 2147483661, iv_c 2147483648]) (by decide +kernel) (by decide) (by decide +kernel) (x_rb_of (by decide +kernel)) rfl rfl (x_wr (by decide) (x_wi (by decide) (x_wi (by decide) x_wn))) x_wn (by decide) rfl ?_
          refine x_aload (np := 1) (x := 0) (by decide +kernel) rfl (x_nc_le (by decide)) ?_
          have q283 : h255 75 1 = 76 := by have z := jB (e := 1) 0 j256 rg_75_1_0_1 (by decide) (by decide); omega
          refine x_getR (np := 4) (x := 705) (f := 1) (q := 76) (by decide +kernel) (by decide) (by decide +kernel) q283 ?_
          refine x_const (np := 7) (x := 9223376986804585600) (a := 2147484800) (by decide +kernel) (by decide) (by decide) ?_
          refine x_const (np := 8) (x := 9223372047592194050) (a := 2147483650) (by decide +kernel) (by decide) (by decide) ?_
          refine x_aload (np := 9) (x := 0) (by decide +kernel) rfl (x_nc_le (by decide)) ?_
          refine x_getC (np := 12) (x := 717) (f := 13) (q := (h255 75 13)) (by decide +kernel) (by decide) (by decide +kernel) rfl (fun l284 => ?_)
          obtain ⟨u285, q286⟩ : ∃ z, (h255 75 13) = 2147483648 + z := ⟨(h255 75 13) - 2147483648, by first | decide | omega⟩
          refine x_imul (np := 13) (x := 0) (i := 2) (j := u285) (v := (2147483648 + 2 * u285)) (by decide +kernel) (by first | decide | omega) (by first | decide | omega) (by first | decide | omega) (by first | decide | omega) (by decide) l284 ?_
          refine x_iadd (np := 14) (x := 0) (v := (2147484800 + 2 * u285)) (by decide +kernel) (by decide) (by first | decide | omega) (by first | decide | omega) (by first | decide | omega) ?_
          refine x_iload (np := 15) (x := 1) (by decide +kernel) rfl (by decide) ?_
          refine x_ast (np := 16) (x := 0) (kd := 1) (n := 1952) (i := (1152 + 2 * u285)) (by decide +kernel) (Or.inl rfl) (by decide +kernel) (by first | decide | omega) (by first | decide | omega) (by decide) (by decide) (fun z => absurd z (by decide)) ?_
          have j289 := jU (e := (1152 + 2 * u285)) (v := 2147483661) u285 j256 rg_76_1152_2_394 (by first | decide | omega) (by first | decide | omega) (by first | decide | omega)
          have f291 := jF (e := (1152 + 2 * u285)) (v := 2147483661) u285 f267 rg_76_1152_2_394 (by first | decide | omega) (by first | decide | omega) (by decide)
          have f292 := jF (e := (1152 + 2 * u285)) (v := 2147483661) u285 f268 rg_76_1152_2_394 (by first | decide | omega) (by first | decide | omega) (by decide)
          generalize e290 : x_up h255 76 (1152 + 2 * u285) 2147483661 = h288 at j289 f291 f292 ⊢
          refine x_aload (np := 17) (x := 0) (by decide +kernel) rfl (x_nc_le (by decide)) ?_
          have q293 : h288 75 1 = 76 := by have z := jB (e := 1) 0 j289 rg_75_1_0_1 (by decide) (by decide); omega
          refine x_getR (np := 20) (x := 705) (f := 1) (q := 76) (by decide +kernel) (by decide) (by decide +kernel) q293 ?_
          refine x_const (np := 23) (x := 9223376986804585600) (a := 2147484800) (by decide +kernel) (by decide) (by decide) ?_
          refine x_const (np := 24) (x := 9223372047592194050) (a := 2147483650) (by decide +kernel) (by decide) (by decide) ?_
          refine x_aload (np := 25) (x := 0) (by decide +kernel) rfl (x_nc_le (by decide)) ?_
          have q294 : h288 75 13 = h255 75 13 := by rw [← e290]; exact x_up_k (by decide)
          refine x_getC (np := 28) (x := 717) (f := 13) (q := (h255 75 13)) (by decide +kernel) (by decide) (by decide +kernel) q294 (fun l295 => ?_)
          refine x_imul (np := 29) (x := 0) (i := 2) (j := u285) (v := (2147483648 + 2 * u285)) (by decide +kernel) (by first | decide | omega) (by first | decide | omega) (by first | decide | omega) (by first | decide | omega) (by decide) l284 ?_
          refine x_iadd (np := 30) (x := 0) (v := (2147484800 + 2 * u285)) (by decide +kernel) (by decide) (by first | decide | omega) (by first | decide | omega) (by first | decide | omega) ?_
          refine x_const (np := 31) (x := 9223372043297226753) (a := 2147483649) (by decide +kernel) (by decide) (by decide) ?_
          refine x_iadd (np := 32) (x := 0) (v := (2147484801 + 2 * u285)) (by decide +kernel) (by first | decide | omega) (by decide) (by first | decide | omega) (by first | decide | omega) ?_
          refine x_iload (np := 33) (x := 2) (by decide +kernel) rfl (by decide) ?_
          refine x_ast (np := 34) (x := 0) (kd := 1) (n := 1952) (i := (1153 + 2 * u285)) (by decide +kernel) (Or.inl rfl) (by decide +kernel) (by first | decide | omega) (by first | decide | omega) (by decide) (by decide) (fun z => absurd z (by decide)) ?_
          have j298 := jU (e := (1153 + 2 * u285)) (v := 2147483648) u285 j289 rg_76_1153_2_394 (by first | decide | omega) (by first | decide | omega) (by first | decide | omega)
          have f300 := jF (e := (1153 + 2 * u285)) (v := 2147483648) u285 f291 rg_76_1153_2_394 (by first | decide | omega) (by first | decide | omega) (by decide)
          have f301 := jF (e := (1153 + 2 * u285)) (v := 2147483648) u285 f292 rg_76_1153_2_394 (by first | decide | omega) (by first | decide | omega) (by decide)
          generalize e299 : x_up h288 76 (1153 + 2 * u285) 2147483648 = h297 at j298 f300 f301 ⊢
          refine x_aload (np := 35) (x := 0) (by decide +kernel) rfl (x_nc_le (by decide)) ?_
          refine x_dup (np := 36) (x := 0) (by decide +kernel) (by have z := x_nc_le (k := 75) (by decide); unfold x_r; omega) ?_
          have q302 : h297 75 13 = h288 75 13 := by rw [← e299]; exact x_up_k (by decide)
          have q303 : h288 75 13 = h255 75 13 := by rw [← e290]; exact x_up_k (by decide)
          refine x_getC (np := 39) (x := 717) (f := 13) (q := (h255 75 13)) (by decide +kernel) (by decide) (by decide +kernel) (q302.trans q303) (fun l304 => ?_)
          refine x_const (np := 40) (x := 9223372043297226753) (a := 2147483649) (by decide +kernel) (by decide) (by decide) ?_
          refine x_iadd (np := 41) (x := 0) (v := (1 + (h255 75 13))) (by decide +kernel) l284 (by decide) (by first | decide | omega) (by first | decide | omega) ?_
          refine x_putI (np := 44) (x := 717) (f := 13) (by decide +kernel) (by decide +kernel) (by first | decide | omega) (Or.inl (by decide)) ?_
          have j306 := jU (e := 13) (v := (1 + (h255 75 13))) 0 j298 rg_75_13_0_1 (by first | decide | omega) (by first | decide | omega) (by first | decide | omega)
          have f308 := jF (e := 13) (v := (1 + (h255 75 13))) 0 f300 rg_75_13_0_1 (by first | decide | omega) (by first | decide | omega) (by decide)
          have f309 := jF (e := 13) (v := (1 + (h255 75 13))) 0 f301 rg_75_13_0_1 (by first | decide | omega) (by first | decide | omega) (by decide)
          generalize e307 : x_up h297 75 13 (1 + (h255 75 13)) = h305 at j306 f308 f309 ⊢
          refine x_retV (np := 45) (x := 0) (by decide +kernel) (by decide +kernel) ⟨rfl, ?_⟩
          have q310 : h305 75 13 = (1 + (h255 75 13)) := by rw [← e307]; exact x_up_at
          refine x_goto (np := 38) (x := 9) (by decide +kernel) ?_
          have q311 : h305 75 7 = h297 75 7 := by rw [← e307]; exact x_up_i (by first | decide | omega)
          have q312 : h297 75 7 = h288 75 7 := by rw [← e299]; exact x_up_k (by decide)
          have q313 : h288 75 7 = h255 75 7 := by rw [← e290]; exact x_up_k (by decide)
          have q314 : h305 75 7 = h297 75 7 := by rw [← e307]; exact x_up_i (by first | decide | omega)
          have q315 : h297 75 7 = h288 75 7 := by rw [← e299]; exact x_up_k (by decide)
          have q316 : h288 75 7 = h255 75 7 := by rw [← e290]; exact x_up_k (by decide)
          have q317 : h305 75 13 = (1 + (h255 75 13)) := by rw [← e307]; exact x_up_at
          have q318 : h305 75 10 = h297 75 10 := by rw [← e307]; exact x_up_i (by first | decide | omega)
          have q319 : h297 75 10 = h288 75 10 := by rw [← e299]; exact x_up_k (by decide)
          have q320 : h288 75 10 = h255 75 10 := by rw [← e290]; exact x_up_k (by decide)
          obtain ⟨w321, e322⟩ := Tk.yes c225 (by first | decide | omega)
          have q323 : h305 75 7 = h297 75 7 := by rw [← e307]; exact x_up_i (by first | decide | omega)
          have q324 : h297 75 7 = h288 75 7 := by rw [← e299]; exact x_up_k (by decide)
          have q325 : h288 75 7 = h255 75 7 := by rw [← e290]; exact x_up_k (by decide)
          obtain ⟨w326, e327⟩ := Tk.yes c225 (by first | decide | omega)
          have q328 : h305 75 7 = h297 75 7 := by rw [← e307]; exact x_up_i (by first | decide | omega)
          have q329 : h297 75 7 = h288 75 7 := by rw [← e299]; exact x_up_k (by decide)
          have q330 : h288 75 7 = h255 75 7 := by rw [← e290]; exact x_up_k (by decide)
          have k336 : Kp h h199 (h 75 13 - 2147483648) := Kp.less m209 (by first | decide | omega)
          have k335 : Kp h h219 (h 75 13 - 2147483648) := Kp.fr k336 f221 (by first | decide | omega) (by decide)
          have q337 : h219 75 13 = h199 75 13 := jK 0 f221 rg_75_13_0_1 (by first | decide | omega) (by first | decide | omega) (by decide)
          have k334 : Kp h h255 (h 75 13 - 2147483648) := Kp.trans k335 c263 (by first | decide | omega)
          have k333 : Kp h h288 (h 75 13 - 2147483648) := by rw [← e290]; exact Kp.up k334 (by first | decide | omega) (fun i hi => by first | decide | omega)
          have k332 : Kp h h297 (h 75 13 - 2147483648) := by rw [← e299]; exact Kp.up k333 (by first | decide | omega) (fun i hi => by first | decide | omega)
          have k331 : Kp h h305 (h 75 13 - 2147483648) := by rw [← e307]; exact Kp.oth k332 (by decide)
          have q338 : h305 75 13 = (1 + (h255 75 13)) := by rw [← e307]; exact x_up_at
          have q340 : h305 76 (1152 + 2 * u285) = h297 76 (1152 + 2 * u285) := by rw [← e307]; exact x_up_k (by decide)
          have q341 : h297 76 (1152 + 2 * u285) = h288 76 (1152 + 2 * u285) := by rw [← e299]; exact x_up_i (by first | decide | omega)
          have q342 : h288 76 (1152 + 2 * u285) = 2147483661 := by rw [← e290]; exact x_up_at
          have k347 : Kp h199 h219 (h199 75 13 - 2147483648) := Kp.fr Kp.refl f221 (by first | decide | omega) (by decide)
          have q348 : h219 75 13 = h199 75 13 := jK 0 f221 rg_75_13_0_1 (by first | decide | omega) (by first | decide | omega) (by decide)
          have k346 : Kp h199 h255 (h199 75 13 - 2147483648) := Kp.trans k347 c263 (by first | decide | omega)
          have k345 : Kp h199 h288 (h199 75 13 - 2147483648) := by rw [← e290]; exact Kp.up k346 (by first | decide | omega) (fun i hi => by first | decide | omega)
          have k344 : Kp h199 h297 (h199 75 13 - 2147483648) := by rw [← e299]; exact Kp.up k345 (by first | decide | omega) (fun i hi => by first | decide | omega)
          have k343 : Kp h199 h305 (h199 75 13 - 2147483648) := by rw [← e307]; exact Kp.oth k344 (by decide)
          have k351 : Kp h255 h288 (h255 75 13 - 2147483648) := by rw [← e290]; exact Kp.up Kp.refl (by first | decide | omega) (fun i hi => by first | decide | omega)
          have k350 : Kp h255 h297 (h255 75 13 - 2147483648) := by rw [← e299]; exact Kp.up k351 (by first | decide | omega) (fun i hi => by first | decide | omega)
          have k349 : Kp h255 h305 (h255 75 13 - 2147483648) := by rw [← e307]; exact Kp.oth k350 (by decide)
          have s339 : Seg (sg h305) (h 75 13 - 2147483648) (u285 + 1) := Seg.bin (Seg.kp m210 k343) (Seg.cast (a' := (h199 75 13 - 2147483648)) (b' := u285) (Seg.kp s281 k349) (by first | decide | omega) (by first | decide | omega)) (show 2147483656 < h305 76 (1152 + 2 * u285) by first | decide | omega) (show h305 76 (1152 + 2 * u285) ≠ 2147483660 by first | decide | omega)
          have s352 : Seg (sg h305) (h 75 13 - 2147483648) (h305 75 13 - 2147483648) := Seg.cast (Seg.kp s339 Kp.refl) (by first | decide | omega) (by first | decide | omega)
          exact i212  h305 (by first | decide | omega) (by first | decide | omega) (by first | decide | omega) (by first | decide | omega) (by first | decide | omega) j306 f309 (gQ_st (t := 1) m207 w321 rfl e322 c265 rfl (by first | decide | omega) (congrArg (sk tB tN) (show h255 75 7 = h305 75 7 by first | decide | omega))) (fQ_st (t := 1) m208 w326 rfl e327 c265 rfl (by first | decide | omega) (congrArg (sk tB tN) (show h255 75 7 = h305 75 7 by first | decide | omega))) k331 s352
        have q276 : ¬ (v251 ≠ 2147483648) := q276
        refine x_const (np := 27) (x := 9223372039002259456) (a := 2147483648) (by decide +kernel) (by decide) (by decide) ?_
        have k355 : Kp h h199 (h 75 13 - 2147483648) := Kp.less m209 (by first | decide | omega)
        have k354 : Kp h h219 (h 75 13 - 2147483648) := Kp.fr k355 f221 (by first | decide | omega) (by decide)
        have q356 : h219 75 13 = h199 75 13 := jK 0 f221 rg_75_13_0_1 (by first | decide | omega) (by first | decide | omega) (by decide)
        have k353 : Kp h h255 (h 75 13 - 2147483648) := Kp.trans k354 c263 (by first | decide | omega)
        obtain ⟨w357, e358⟩ := Tk.yes c225 (by first | decide | omega)
        obtain ⟨w359, e360⟩ := Tk.yes c225 (by first | decide | omega)
        refine x_retI (np := 28) (x := 0) (by decide +kernel) (by decide) (Or.inr ⟨by decide +kernel, by first | decide | omega, by first | decide | omega⟩) ⟨_, rfl, (by decide), ?_⟩
        exact ⟨j256, f267, (by first | decide | omega), (fun z => by first | decide | omega), (fun z => by first | decide | omega), (fun z => by first | decide | omega), (fun z => by first | decide | omega), k353, (fun z => absurd z (by first | decide | omega)), (gQ_f (t := 1) m207 w357 rfl e358 c265 rfl (by first | decide | omega) (by first | decide | omega)), (fun _ => fQ_f (t := 1) m208 w359 rfl e360 (c266 (by first | decide | omega)) rfl rfl)⟩
    have k361 : Kp h h7 (h 75 13 - 2147483648) := Kp.less c15 (by first | decide | omega)
    have s362 : Seg (sg h7) (h 75 13 - 2147483648) (h7 75 13 - 2147483648) := Seg.cast (Seg.kp s29 Kp.refl) (by first | decide | omega) (by first | decide | omega)
    exact p202 _  h7 (Nat.lt_succ_self _) (by first | decide | omega) (by first | decide | omega) (by first | decide | omega) (by first | decide | omega) j8 (Fr.refl _ _) (gQ_in (t := 1) c17 rfl (by first | decide | omega) rfl) (fQ_in (t := 1) c17 rfl (by first | decide | omega) rfl) k361 s362
  have q24 : ¬ (v4 ≠ 2147483648) := q24
  refine x_const (np := 8) (x := 9223372039002259456) (a := 2147483648) (by decide +kernel) (by decide) (by decide) ?_
  have k363 : Kp h h7 (h 75 13 - 2147483648) := Kp.less c15 (by first | decide | omega)
  refine x_retI (np := 9) (x := 0) (by decide +kernel) (by decide) (Or.inr ⟨by decide +kernel, by first | decide | omega, by first | decide | omega⟩) ⟨_, rfl, (by decide), ?_⟩
  exact ⟨j8, f19, (by first | decide | omega), (fun z => by first | decide | omega), (fun z => by first | decide | omega), (fun z => by first | decide | omega), (fun z => by first | decide | omega), k363, (fun z => absurd z (by first | decide | omega)), (gQ_no (t := 1) c17 rfl (by first | decide | omega) (by first | decide | omega)), (fun _ => fQ_no (t := 1) (c18 (by first | decide | omega)) rfl rfl)⟩
set_option maxHeartbeats 0 in
/-- LentNamesModel.readCond()Z -/
theorem c192_75_D1 {sc : Nat × Nat} {d  : Nat} {h : xh} {tB : Nat → Nat} {tN : Nat} (hJ : J h) (hr0 : (h 75 13) + 5 ≤ (h 75 7)) (hr1 : (h 75 10) = 2147483649) (hT : Tq tB tN h) : X sc 192 (d + 24) (xI fun r h' => J h' ∧ Fr 97517569 h h' ∧ (2147483648 ≤ r ∧ r ≤ 2147483649) ∧ (r = 2147483649 → h' 75 13 + h 75 7 ≤ h' 75 7 + h 75 13) ∧ (r = 2147483649 → h' 75 10 = h 75 10) ∧ (r = 2147483649 → h 75 7 + 0 ≤ h' 75 7) ∧ (r = 2147483649 → h 75 13 ≤ h' 75 13) ∧ Kp h h' (h 75 13 - 2147483648) ∧ (r = 2147483649 → Seg (sg h') (h 75 13 - 2147483648) (h' 75 13 - 2147483648)) ∧ G tB tN (Kd.seq 2) 1 (sk tB tN (h 75 7)) (rs r (sk tB tN (h' 75 7))) ∧ (r = 2147483648 → GF tB tN (Kd.seq 2) 1 (sk tB tN (h 75 7)) (h' 75 9))) 0 0 0 [x_r 75] [] h := by
  have hF := Fr.refl 97517569 h
  have b1 := jB (e := 13) 0 hJ rg_75_13_0_1 (by first | decide | omega) (by first | decide | omega)
  have b2 := jB (e := 7) 0 hJ rg_75_7_0_1 (by first | decide | omega) (by first | decide | omega)
  have b3 := jB (e := 10) 0 hJ rg_75_10_0_1 (by first | decide | omega) (by first | decide | omega)
  refine x_aload (np := 1) (x := 0) (by decide +kernel) rfl (x_nc_le (by decide)) ?_
  refine x_cI (t := 6) (mj := 191) (n := 1) (rc := 12) (ml := 1) (nr := 0) (np := 4) (as := [x_r 75]) (rest := []) (lo1 := [x_r 75]) (by decide +kernel) (by decide) (by decide +kernel) (x_rb_of (by decide +kernel)) rfl rfl (x_wr (by decide) x_wn) x_wn (by decide) rfl (c191_75_D1 hJ  (by first | decide | omega) (by first | decide | omega) hT) (fun v4 h7 l5 q6 => ?_)
  obtain ⟨j8, f9, b10, c11, c12, c13, c14, c15, c16, c17, c18⟩ := q6
  have f19 := Fr.trans hF f9 (by decide)
  have b20 := jB (e := 13) 0 j8 rg_75_13_0_1 (by first | decide | omega) (by first | decide | omega)
  have b21 := jB (e := 7) 0 j8 rg_75_7_0_1 (by first | decide | omega) (by first | decide | omega)
  have b22 := jB (e := 10) 0 j8 rg_75_10_0_1 (by first | decide | omega) (by first | decide | omega)
  refine x_ifz (k := 1) (tg := 9) (np := 7) (by decide +kernel) (by decide) l5 (fun q23 => ?_) (fun q24 => ?_)
  · have q23 : v4 ≠ 2147483648 := q23
    have b25 := c11 (by first | decide | omega)
    have b26 := c12 (by first | decide | omega)
    have b27 := c13 (by first | decide | omega)
    have b28 := c14 (by first | decide | omega)
    have s29 := c16 (by first | decide | omega)
    have p202 : ∀ (n : Nat) (h199 : xh), 4294967296 - h199 75 7 < n → h199 75 13 + h 75 7 ≤ h199 75 7 + h 75 13 → h199 75 10 = h 75 10 → h 75 7 ≤ h199 75 7 → h 75 13 ≤ h199 75 13 → J h199 → Fr 97517569 h7 h199 → Res tB tN (Kd.lp 2) 1 (sk tB tN (h199 75 7)) (Kd.seq 2) 1 (sk tB tN (h 75 7)) → ResF tB tN (Kd.lp 2) 1 (sk tB tN (h199 75 7)) (Kd.seq 2) 1 (sk tB tN (h 75 7)) → Kp h h199 (h 75 13 - 2147483648) → Seg (sg h199) (h 75 13 - 2147483648) (h199 75 13 - 2147483648) → X sc 192 (d + 24) (xI fun r h' => J h' ∧ Fr 97517569 h h' ∧ (2147483648 ≤ r ∧ r ≤ 2147483649) ∧ (r = 2147483649 → h' 75 13 + h 75 7 ≤ h' 75 7 + h 75 13) ∧ (r = 2147483649 → h' 75 10 = h 75 10) ∧ (r = 2147483649 → h 75 7 + 0 ≤ h' 75 7) ∧ (r = 2147483649 → h 75 13 ≤ h' 75 13) ∧ Kp h h' (h 75 13 - 2147483648) ∧ (r = 2147483649 → Seg (sg h') (h 75 13 - 2147483648) (h' 75 13 - 2147483648)) ∧ G tB tN (Kd.seq 2) 1 (sk tB tN (h 75 7)) (rs r (sk tB tN (h' 75 7))) ∧ (r = 2147483648 → GF tB tN (Kd.seq 2) 1 (sk tB tN (h 75 7)) (h' 75 9))) 0 0 9 [x_r 75] [] h199 := by
      intro n
      induction n with
      | zero => intro h199 q211; exact absurd q211 (Nat.not_lt_zero _)
      | succ n i212 =>
        intro h199 q211 b203 b204 b205 b206 j201 f200 m207 m208 m209 m210
        have f213 := Fr.trans f19 f200 (by decide)
        refine x_aload (np := 10) (x := 0) (by decide +kernel) rfl (x_nc_le (by decide)) ?_
        refine x_ldcB (i := 15) (idx := 179) (tx := "or") (by rw [tb_y192]; exact List.mem_of_getElem? (i := 54) rfl) (by decide) (by rw [tb_b192]; decide +kernel) ?_
        have m218 := Tq.fr hT f9 (by decide) (by decide)
        have m217 := Tq.fr m218 f200 (by decide) (by decide)
        refine x_cI (t := 6) (mj := 171) (n := 2) (rc := 12) (ml := 2) (nr := 0) (np := 15) (as := [x_r 75, x_b (15 + 1)]) (rest := []) (lo1 := [x_r 75, x_b (15 + 1)]) (by decide +kernel) (by decide) (by decide +kernel) (x_rb_of (by decide +kernel)) rfl rfl (x_wr (by decide) (x_wB (by decide) x_wn)) x_wn (by decide) rfl (c171_75_S0 j201  (by decide) m217) (fun v214 h219 l215 q216 => ?_)
        obtain ⟨j220, f221, b222, c223, c224, c225, c226⟩ := q216
        have f227 := Fr.trans f213 f221 (by decide)
        have f228 := Fr.trans f200 f221 (by decide)
        have b229 := jB (e := 7) 0 j201 rg_75_7_0_1 (by first | decide | omega) (by first | decide | omega)
        have b230 := jB (e := 7) 0 j220 rg_75_7_0_1 (by first | decide | omega) (by first | decide | omega)
        refine x_ifz (k := 0) (tg := 37) (np := 18) (by decide +kernel) (by decide) l215 (fun q231 => ?_) (fun q232 => ?_)
        · have q231 : v214 = 2147483648 := q231
          refine x_const (np := 38) (x := 9223372043297226753) (a := 2147483649) (by decide +kernel) (by decide) (by decide) ?_
          have q233 : h219 75 13 = h199 75 13 := jK 0 f221 rg_75_13_0_1 (by first | decide | omega) (by first | decide | omega) (by decide)
          have b234 := jB (e := 13) 0 j201 rg_75_13_0_1 (by first | decide | omega) (by first | decide | omega)
          have q235 : h219 75 10 = h199 75 10 := jK 0 f221 rg_75_10_0_1 (by first | decide | omega) (by first | decide | omega) (by decide)
          have b236 := jB (e := 10) 0 j201 rg_75_10_0_1 (by first | decide | omega) (by first | decide | omega)
          have q237 : h219 75 13 = h199 75 13 := jK 0 f221 rg_75_13_0_1 (by first | decide | omega) (by first | decide | omega) (by decide)
          have k239 : Kp h h199 (h 75 13 - 2147483648) := Kp.less m209 (by first | decide | omega)
          have k238 : Kp h h219 (h 75 13 - 2147483648) := Kp.fr k239 f221 (by first | decide | omega) (by decide)
          have q240 : h219 75 13 = h199 75 13 := jK 0 f221 rg_75_13_0_1 (by first | decide | omega) (by first | decide | omega) (by decide)
          have k241 : Kp h199 h219 (h199 75 13 - 2147483648) := Kp.fr Kp.refl f221 (by first | decide | omega) (by decide)
          have s242 : Seg (sg h219) (h 75 13 - 2147483648) (h219 75 13 - 2147483648) := Seg.cast (Seg.kp m210 k241) (by first | decide | omega) (by first | decide | omega)
          obtain ⟨w243, e244⟩ := Tk.no c225 (by first | decide | omega)
          refine x_retI (np := 39) (x := 0) (by decide +kernel) (by decide) (Or.inr ⟨by decide +kernel, by first | decide | omega, by first | decide | omega⟩) ⟨_, rfl, (by decide), ?_⟩
          exact ⟨j220, f227, (by first | decide | omega), (fun z => by first | decide | omega), (fun z => by first | decide | omega), (fun z => by first | decide | omega), (fun z => by first | decide | omega), k238, (fun _ => s242), (gQ_e (t := 2) m207 w243 rfl (by first | decide | omega) ((Eq.symm e244))), (fun z => absurd z (by first | decide | omega))⟩
        have q232 : ¬ (v214 = 2147483648) := q232
        have b245 := c224 (by first | decide | omega)
        refine x_aload (np := 19) (x := 0) (by decide +kernel) rfl (x_nc_le (by decide)) ?_
        have q246 : h219 75 10 = h199 75 10 := jK 0 f221 rg_75_10_0_1 (by first | decide | omega) (by first | decide | omega) (by decide)
        have b247 := jB (e := 10) 0 j201 rg_75_10_0_1 (by first | decide | omega) (by first | decide | omega)
        have q248 : h219 75 13 = h199 75 13 := jK 0 f221 rg_75_13_0_1 (by first | decide | omega) (by first | decide | omega) (by decide)
        have b249 := jB (e := 13) 0 j201 rg_75_13_0_1 (by first | decide | omega) (by first | decide | omega)
        have q250 : h219 75 10 = h199 75 10 := jK 0 f221 rg_75_10_0_1 (by first | decide | omega) (by first | decide | omega) (by decide)
        have m254 := Tq.fr m217 f221 (by decide) (by decide)
        refine x_cI (t := 6) (mj := 191) (n := 1) (rc := 12) (ml := 1) (nr := 0) (np := 22) (as := [x_r 75]) (rest := []) (lo1 := [x_r 75]) (by decide +kernel) (by decide) (by decide +kernel) (x_rb_of (by decide +kernel)) rfl rfl (x_wr (by decide) x_wn) x_wn (by decide) rfl (c191_75_D1 j220  (by first | decide | omega) (by first | decide | omega) m254) (fun v251 h255 l252 q253 => ?_)
        obtain ⟨j256, f257, b258, c259, c260, c261, c262, c263, c264, c265, c266⟩ := q253
        have f267 := Fr.trans f227 f257 (by decide)
        have f268 := Fr.trans f228 f257 (by decide)
        have q269 : h219 75 13 = h199 75 13 := jK 0 f221 rg_75_13_0_1 (by first | decide | omega) (by first | decide | omega) (by decide)
        have b270 := jB (e := 13) 0 j256 rg_75_13_0_1 (by first | decide | omega) (by first | decide | omega)
        have b271 := jB (e := 7) 0 j256 rg_75_7_0_1 (by first | decide | omega) (by first | decide | omega)
        have q272 : h219 75 10 = h199 75 10 := jK 0 f221 rg_75_10_0_1 (by first | decide | omega) (by first | decide | omega) (by decide)
        have b273 := jB (e := 10) 0 j256 rg_75_10_0_1 (by first | decide | omega) (by first | decide | omega)
        have q274 : h219 75 13 = h199 75 13 := jK 0 f221 rg_75_13_0_1 (by first | decide | omega) (by first | decide | omega) (by decide)
        refine x_ifz (k := 1) (tg := 27) (np := 25) (by decide +kernel) (by decide) l252 (fun q275 => ?_) (fun q276 => ?_)
        · have q275 : v251 ≠ 2147483648 := q275
          have b277 := c259 (by first | decide | omega)
          have b278 := c260 (by first | decide | omega)
          have b279 := c261 (by first | decide | omega)
          have b280 := c262 (by first | decide | omega)
          have s281 := c264 (by first | decide | omega)
          have q282 : h219 75 13 = h199 75 13 := jK 0 f221 rg_75_13_0_1 (by first | decide | omega) (by first | decide | omega) (by decide)
          refine x_aload (np := 28) (x := 0) (by decide +kernel) rfl (x_nc_le (by decide)) ?_
          refine x_const (np := 30) (x := 9223372099131801614) (a := 2147483662) (by decide +kernel) (by decide) (by decide) ?_
          refine x_const (np := 31) (x := 9223372039002259456) (a := 2147483648) (by decide +kernel) (by decide) (by decide) ?_
          refine x_nV (t := 6) (mj := 187) (n := 3) (rc := 12) (ml := 3) (nr := 0) (np := 34) (as := [x_r 75, iv_c 2147483662, iv_c 2147483648]) (rest := []) (lo1 := [x_r 75, iv_c 2147483662, iv_c 2147483648]) (by decide +kernel) (by decide) (by decide +kernel) (x_rb_of (by decide +kernel)) rfl rfl (x_wr (by decide) (x_wi (by decide) (x_wi (by decide) x_wn))) x_wn (by decide) rfl ?_
          refine x_aload (np := 1) (x := 0) (by decide +kernel) rfl (x_nc_le (by decide)) ?_
          have q283 : h255 75 1 = 76 := by have z := jB (e := 1) 0 j256 rg_75_1_0_1 (by decide) (by decide); omega
          refine x_getR (np := 4) (x := 705) (f := 1) (q := 76) (by decide +kernel) (by decide) (by decide +kernel) q283 ?_
          refine x_const (np := 7) (x := 9223376986804585600) (a := 2147484800) (by decide +kernel) (by decide) (by decide) ?_
          refine x_const (np := 8) (x := 9223372047592194050) (a := 2147483650) (by decide +kernel) (by decide) (by decide) ?_
          refine x_aload (np := 9) (x := 0) (by decide +kernel) rfl (x_nc_le (by decide)) ?_
          refine x_getC (np := 12) (x := 717) (f := 13) (q := (h255 75 13)) (by decide +kernel) (by decide) (by decide +kernel) rfl (fun l284 => ?_)
          obtain ⟨u285, q286⟩ : ∃ z, (h255 75 13) = 2147483648 + z := ⟨(h255 75 13) - 2147483648, by first | decide | omega⟩
          refine x_imul (np := 13) (x := 0) (i := 2) (j := u285) (v := (2147483648 + 2 * u285)) (by decide +kernel) (by first | decide | omega) (by first | decide | omega) (by first | decide | omega) (by first | decide | omega) (by decide) l284 ?_
          refine x_iadd (np := 14) (x := 0) (v := (2147484800 + 2 * u285)) (by decide +kernel) (by decide) (by first | decide | omega) (by first | decide | omega) (by first | decide | omega) ?_
          refine x_iload (np := 15) (x := 1) (by decide +kernel) rfl (by decide) ?_
          refine x_ast (np := 16) (x := 0) (kd := 1) (n := 1952) (i := (1152 + 2 * u285)) (by decide +kernel) (Or.inl rfl) (by decide +kernel) (by first | decide | omega) (by first | decide | omega) (by decide) (by decide) (fun z => absurd z (by decide)) ?_
          have j289 := jU (e := (1152 + 2 * u285)) (v := 2147483662) u285 j256 rg_76_1152_2_394 (by first | decide | omega) (by first | decide | omega) (by first | decide | omega)
          have f291 := jF (e := (1152 + 2 * u285)) (v := 2147483662) u285 f267 rg_76_1152_2_394 (by first | decide | omega) (by first | decide | omega) (by decide)
          have f292 := jF (e := (1152 + 2 * u285)) (v := 2147483662) u285 f268 rg_76_1152_2_394 (by first | decide | omega) (by first | decide | omega) (by decide)
          generalize e290 : x_up h255 76 (1152 + 2 * u285) 2147483662 = h288 at j289 f291 f292 ⊢
          refine x_aload (np := 17) (x := 0) (by decide +kernel) rfl (x_nc_le (by decide)) ?_
          have q293 : h288 75 1 = 76 := by have z := jB (e := 1) 0 j289 rg_75_1_0_1 (by decide) (by decide); omega
          refine x_getR (np := 20) (x := 705) (f := 1) (q := 76) (by decide +kernel) (by decide) (by decide +kernel) q293 ?_
          refine x_const (np := 23) (x := 9223376986804585600) (a := 2147484800) (by decide +kernel) (by decide) (by decide) ?_
          refine x_const (np := 24) (x := 9223372047592194050) (a := 2147483650) (by decide +kernel) (by decide) (by decide) ?_
          refine x_aload (np := 25) (x := 0) (by decide +kernel) rfl (x_nc_le (by decide)) ?_
          have q294 : h288 75 13 = h255 75 13 := by rw [← e290]; exact x_up_k (by decide)
          refine x_getC (np := 28) (x := 717) (f := 13) (q := (h255 75 13)) (by decide +kernel) (by decide) (by decide +kernel) q294 (fun l295 => ?_)
          refine x_imul (np := 29) (x := 0) (i := 2) (j := u285) (v := (2147483648 + 2 * u285)) (by decide +kernel) (by first | decide | omega) (by first | decide | omega) (by first | decide | omega) (by first | decide | omega) (by decide) l284 ?_
          refine x_iadd (np := 30) (x := 0) (v := (2147484800 + 2 * u285)) (by decide +kernel) (by decide) (by first | decide | omega) (by first | decide | omega) (by first | decide | omega) ?_
          refine x_const (np := 31) (x := 9223372043297226753) (a := 2147483649) (by decide +kernel) (by decide) (by decide) ?_
          refine x_iadd (np := 32) (x := 0) (v := (2147484801 + 2 * u285)) (by decide +kernel) (by first | decide | omega) (by decide) (by first | decide | omega) (by first | decide | omega) ?_
          refine x_iload (np := 33) (x := 2) (by decide +kernel) rfl (by decide) ?_
          refine x_ast (np := 34) (x := 0) (kd := 1) (n := 1952) (i := (1153 + 2 * u285)) (by decide +kernel) (Or.inl rfl) (by decide +kernel) (by first | decide | omega) (by first | decide | omega) (by decide) (by decide) (fun z => absurd z (by decide)) ?_
          have j298 := jU (e := (1153 + 2 * u285)) (v := 2147483648) u285 j289 rg_76_1153_2_394 (by first | decide | omega) (by first | decide | omega) (by first | decide | omega)
          have f300 := jF (e := (1153 + 2 * u285)) (v := 2147483648) u285 f291 rg_76_1153_2_394 (by first | decide | omega) (by first | decide | omega) (by decide)
          have f301 := jF (e := (1153 + 2 * u285)) (v := 2147483648) u285 f292 rg_76_1153_2_394 (by first | decide | omega) (by first | decide | omega) (by decide)
          generalize e299 : x_up h288 76 (1153 + 2 * u285) 2147483648 = h297 at j298 f300 f301 ⊢
          refine x_aload (np := 35) (x := 0) (by decide +kernel) rfl (x_nc_le (by decide)) ?_
          refine x_dup (np := 36) (x := 0) (by decide +kernel) (by have z := x_nc_le (k := 75) (by decide); unfold x_r; omega) ?_
          have q302 : h297 75 13 = h288 75 13 := by rw [← e299]; exact x_up_k (by decide)
          have q303 : h288 75 13 = h255 75 13 := by rw [← e290]; exact x_up_k (by decide)
          refine x_getC (np := 39) (x := 717) (f := 13) (q := (h255 75 13)) (by decide +kernel) (by decide) (by decide +kernel) (q302.trans q303) (fun l304 => ?_)
          refine x_const (np := 40) (x := 9223372043297226753) (a := 2147483649) (by decide +kernel) (by decide) (by decide) ?_
          refine x_iadd (np := 41) (x := 0) (v := (1 + (h255 75 13))) (by decide +kernel) l284 (by decide) (by first | decide | omega) (by first | decide | omega) ?_
          refine x_putI (np := 44) (x := 717) (f := 13) (by decide +kernel) (by decide +kernel) (by first | decide | omega) (Or.inl (by decide)) ?_
          have j306 := jU (e := 13) (v := (1 + (h255 75 13))) 0 j298 rg_75_13_0_1 (by first | decide | omega) (by first | decide | omega) (by first | decide | omega)
          have f308 := jF (e := 13) (v := (1 + (h255 75 13))) 0 f300 rg_75_13_0_1 (by first | decide | omega) (by first | decide | omega) (by decide)
          have f309 := jF (e := 13) (v := (1 + (h255 75 13))) 0 f301 rg_75_13_0_1 (by first | decide | omega) (by first | decide | omega) (by decide)
          generalize e307 : x_up h297 75 13 (1 + (h255 75 13)) = h305 at j306 f308 f309 ⊢
          refine x_retV (np := 45) (x := 0) (by decide +kernel) (by decide +kernel) ⟨rfl, ?_⟩
          have q310 : h305 75 13 = (1 + (h255 75 13)) := by rw [← e307]; exact x_up_at
          refine x_goto (np := 37) (x := 9) (by decide +kernel) ?_
          have q311 : h305 75 7 = h297 75 7 := by rw [← e307]; exact x_up_i (by first | decide | omega)
          have q312 : h297 75 7 = h288 75 7 := by rw [← e299]; exact x_up_k (by decide)
          have q313 : h288 75 7 = h255 75 7 := by rw [← e290]; exact x_up_k (by decide)
          have q314 : h305 75 7 = h297 75 7 := by rw [← e307]; exact x_up_i (by first | decide | omega)
          have q315 : h297 75 7 = h288 75 7 := by rw [← e299]; exact x_up_k (by decide)
          have q316 : h288 75 7 = h255 75 7 := by rw [← e290]; exact x_up_k (by decide)
          have q317 : h305 75 13 = (1 + (h255 75 13)) := by rw [← e307]; exact x_up_at
          have q318 : h305 75 10 = h297 75 10 := by rw [← e307]; exact x_up_i (by first | decide | omega)
          have q319 : h297 75 10 = h288 75 10 := by rw [← e299]; exact x_up_k (by decide)
          have q320 : h288 75 10 = h255 75 10 := by rw [← e290]; exact x_up_k (by decide)
          obtain ⟨w321, e322⟩ := Tk.yes c225 (by first | decide | omega)
          have q323 : h305 75 7 = h297 75 7 := by rw [← e307]; exact x_up_i (by first | decide | omega)
          have q324 : h297 75 7 = h288 75 7 := by rw [← e299]; exact x_up_k (by decide)
          have q325 : h288 75 7 = h255 75 7 := by rw [← e290]; exact x_up_k (by decide)
          obtain ⟨w326, e327⟩ := Tk.yes c225 (by first | decide | omega)
          have q328 : h305 75 7 = h297 75 7 := by rw [← e307]; exact x_up_i (by first | decide | omega)
          have q329 : h297 75 7 = h288 75 7 := by rw [← e299]; exact x_up_k (by decide)
          have q330 : h288 75 7 = h255 75 7 := by rw [← e290]; exact x_up_k (by decide)
          have k336 : Kp h h199 (h 75 13 - 2147483648) := Kp.less m209 (by first | decide | omega)
          have k335 : Kp h h219 (h 75 13 - 2147483648) := Kp.fr k336 f221 (by first | decide | omega) (by decide)
          have q337 : h219 75 13 = h199 75 13 := jK 0 f221 rg_75_13_0_1 (by first | decide | omega) (by first | decide | omega) (by decide)
          have k334 : Kp h h255 (h 75 13 - 2147483648) := Kp.trans k335 c263 (by first | decide | omega)
          have k333 : Kp h h288 (h 75 13 - 2147483648) := by rw [← e290]; exact Kp.up k334 (by first | decide | omega) (fun i hi => by first | decide | omega)
          have k332 : Kp h h297 (h 75 13 - 2147483648) := by rw [← e299]; exact Kp.up k333 (by first | decide | omega) (fun i hi => by first | decide | omega)
          have k331 : Kp h h305 (h 75 13 - 2147483648) := by rw [← e307]; exact Kp.oth k332 (by decide)
          have q338 : h305 75 13 = (1 + (h255 75 13)) := by rw [← e307]; exact x_up_at
          have q340 : h305 76 (1152 + 2 * u285) = h297 76 (1152 + 2 * u285) := by rw [← e307]; exact x_up_k (by decide)
          have q341 : h297 76 (1152 + 2 * u285) = h288 76 (1152 + 2 * u285) := by rw [← e299]; exact x_up_i (by first | decide | omega)
          have q342 : h288 76 (1152 + 2 * u285) = 2147483662 := by rw [← e290]; exact x_up_at
          have k347 : Kp h199 h219 (h199 75 13 - 2147483648) := Kp.fr Kp.refl f221 (by first | decide | omega) (by decide)
          have q348 : h219 75 13 = h199 75 13 := jK 0 f221 rg_75_13_0_1 (by first | decide | omega) (by first | decide | omega) (by decide)
          have k346 : Kp h199 h255 (h199 75 13 - 2147483648) := Kp.trans k347 c263 (by first | decide | omega)
          have k345 : Kp h199 h288 (h199 75 13 - 2147483648) := by rw [← e290]; exact Kp.up k346 (by first | decide | omega) (fun i hi => by first | decide | omega)
          have k344 : Kp h199 h297 (h199 75 13 - 2147483648) := by rw [← e299]; exact Kp.up k345 (by first | decide | omega) (fun i hi => by first | decide | omega)
          have k343 : Kp h199 h305 (h199 75 13 - 2147483648) := by rw [← e307]; exact Kp.oth k344 (by decide)
          have k351 : Kp h255 h288 (h255 75 13 - 2147483648) := by rw [← e290]; exact Kp.up Kp.refl (by first | decide | omega) (fun i hi => by first | decide | omega)
          have k350 : Kp h255 h297 (h255 75 13 - 2147483648) := by rw [← e299]; exact Kp.up k351 (by first | decide | omega) (fun i hi => by first | decide | omega)
          have k349 : Kp h255 h305 (h255 75 13 - 2147483648) := by rw [← e307]; exact Kp.oth k350 (by decide)
          have s339 : Seg (sg h305) (h 75 13 - 2147483648) (u285 + 1) := Seg.bin (Seg.kp m210 k343) (Seg.cast (a' := (h199 75 13 - 2147483648)) (b' := u285) (Seg.kp s281 k349) (by first | decide | omega) (by first | decide | omega)) (show 2147483656 < h305 76 (1152 + 2 * u285) by first | decide | omega) (show h305 76 (1152 + 2 * u285) ≠ 2147483660 by first | decide | omega)
          have s352 : Seg (sg h305) (h 75 13 - 2147483648) (h305 75 13 - 2147483648) := Seg.cast (Seg.kp s339 Kp.refl) (by first | decide | omega) (by first | decide | omega)
          exact i212  h305 (by first | decide | omega) (by first | decide | omega) (by first | decide | omega) (by first | decide | omega) (by first | decide | omega) j306 f309 (gQ_st (t := 2) m207 w321 rfl e322 c265 rfl (by first | decide | omega) (congrArg (sk tB tN) (show h255 75 7 = h305 75 7 by first | decide | omega))) (fQ_st (t := 2) m208 w326 rfl e327 c265 rfl (by first | decide | omega) (congrArg (sk tB tN) (show h255 75 7 = h305 75 7 by first | decide | omega))) k331 s352
        have q276 : ¬ (v251 ≠ 2147483648) := q276
        refine x_const (np := 26) (x := 9223372039002259456) (a := 2147483648) (by decide +kernel) (by decide) (by decide) ?_
        have k355 : Kp h h199 (h 75 13 - 2147483648) := Kp.less m209 (by first | decide | omega)
        have k354 : Kp h h219 (h 75 13 - 2147483648) := Kp.fr k355 f221 (by first | decide | omega) (by decide)
        have q356 : h219 75 13 = h199 75 13 := jK 0 f221 rg_75_13_0_1 (by first | decide | omega) (by first | decide | omega) (by decide)
        have k353 : Kp h h255 (h 75 13 - 2147483648) := Kp.trans k354 c263 (by first | decide | omega)
        obtain ⟨w357, e358⟩ := Tk.yes c225 (by first | decide | omega)
        obtain ⟨w359, e360⟩ := Tk.yes c225 (by first | decide | omega)
        refine x_retI (np := 27) (x := 0) (by decide +kernel) (by decide) (Or.inr ⟨by decide +kernel, by first | decide | omega, by first | decide | omega⟩) ⟨_, rfl, (by decide), ?_⟩
        exact ⟨j256, f267, (by first | decide | omega), (fun z => by first | decide | omega), (fun z => by first | decide | omega), (fun z => by first | decide | omega), (fun z => by first | decide | omega), k353, (fun z => absurd z (by first | decide | omega)), (gQ_f (t := 2) m207 w357 rfl e358 c265 rfl (by first | decide | omega) (by first | decide | omega)), (fun _ => fQ_f (t := 2) m208 w359 rfl e360 (c266 (by first | decide | omega)) rfl rfl)⟩
    have k361 : Kp h h7 (h 75 13 - 2147483648) := Kp.less c15 (by first | decide | omega)
    have s362 : Seg (sg h7) (h 75 13 - 2147483648) (h7 75 13 - 2147483648) := Seg.cast (Seg.kp s29 Kp.refl) (by first | decide | omega) (by first | decide | omega)
    exact p202 _  h7 (Nat.lt_succ_self _) (by first | decide | omega) (by first | decide | omega) (by first | decide | omega) (by first | decide | omega) j8 (Fr.refl _ _) (gQ_in (t := 2) c17 rfl (by first | decide | omega) rfl) (fQ_in (t := 2) c17 rfl (by first | decide | omega) rfl) k361 s362
  have q24 : ¬ (v4 ≠ 2147483648) := q24
  refine x_const (np := 8) (x := 9223372039002259456) (a := 2147483648) (by decide +kernel) (by decide) (by decide) ?_
  have k363 : Kp h h7 (h 75 13 - 2147483648) := Kp.less c15 (by first | decide | omega)
  refine x_retI (np := 9) (x := 0) (by decide +kernel) (by decide) (Or.inr ⟨by decide +kernel, by first | decide | omega, by first | decide | omega⟩) ⟨_, rfl, (by decide), ?_⟩
  exact ⟨j8, f19, (by first | decide | omega), (fun z => by first | decide | omega), (fun z => by first | decide | omega), (fun z => by first | decide | omega), (fun z => by first | decide | omega), k363, (fun z => absurd z (by first | decide | omega)), (gQ_no (t := 2) c17 rfl (by first | decide | omega) (by first | decide | omega)), (fun _ => fQ_no (t := 2) (c18 (by first | decide | omega)) rfl rfl)⟩
set_option maxHeartbeats 0 in
/-- LentNamesModel.readAtom()Z -/
theorem c190_75_D0 {sc : Nat × Nat} {d  : Nat} {h : xh} {tB : Nat → Nat} {tN : Nat} (hJ : J h) (hr0 : (h 75 13) + 5 ≤ (h 75 7)) (hr1 : (h 75 10) = 2147483648) (hT : Tq tB tN h) : X sc 190 (d + 25) (xI fun r h' => J h' ∧ Fr 97517569 h h' ∧ (2147483648 ≤ r ∧ r ≤ 2147483649) ∧ (r = 2147483649 → h' 75 13 + h 75 7 ≤ h' 75 7 + h 75 13) ∧ (r = 2147483649 → h' 75 10 = h 75 10) ∧ (r = 2147483649 → h 75 7 + 0 ≤ h' 75 7) ∧ (r = 2147483649 → h 75 13 ≤ h' 75 13) ∧ Kp h h' (h 75 13 - 2147483648) ∧ (r = 2147483649 → Seg (sg h') (h 75 13 - 2147483648) (h' 75 13 - 2147483648)) ∧ G tB tN Kd.atom 0 (sk tB tN (h 75 7)) (rs r (sk tB tN (h' 75 7))) ∧ (r = 2147483648 → GF tB tN Kd.atom 0 (sk tB tN (h 75 7)) (h' 75 9))) 0 0 0 [x_r 75, 147573952589676412928, 147573952589676412928] [] h := by
  have hF := Fr.refl 97517569 h
  have b1 := jB (e := 13) 0 hJ rg_75_13_0_1 (by first | decide | omega) (by first | decide | omega)
  have b2 := jB (e := 7) 0 hJ rg_75_7_0_1 (by first | decide | omega) (by first | decide | omega)
  have b3 := jB (e := 10) 0 hJ rg_75_10_0_1 (by first | decide | omega) (by first | decide | omega)
  refine x_aload (np := 1) (x := 0) (by decide +kernel) rfl (x_nc_le (by decide)) ?_
  refine x_const (np := 3) (x := 9223372210800951336) (a := 2147483688) (by decide +kernel) (by decide) (by decide) ?_
  refine x_cI (t := 6) (mj := 173) (n := 2) (rc := 12) (ml := 2) (nr := 0) (np := 6) (as := [x_r 75, iv_c 2147483688]) (rest := []) (lo1 := [x_r 75, iv_c 2147483688]) (by decide +kernel) (by decide) (by decide +kernel) (x_rb_of (by decide +kernel)) rfl rfl (x_wr (by decide) (x_wi (by decide) x_wn)) x_wn (by decide) rfl (c173_75 hJ  (by first | decide | omega) hT) (fun v4 h7 l5 q6 => ?_)
  obtain ⟨j8, f9, b10, c11, c12, c13, c14⟩ := q6
  have f15 := Fr.trans hF f9 (by decide)
  have b16 := jB (e := 7) 0 j8 rg_75_7_0_1 (by first | decide | omega) (by first | decide | omega)
  refine x_ifz (k := 0) (tg := 56) (np := 9) (by decide +kernel) (by decide) l5 (fun q17 => ?_) (fun q18 => ?_)
  · have q17 : v4 = 2147483648 := q17
    refine x_aload (np := 57) (x := 0) (by decide +kernel) rfl (x_nc_le (by decide)) ?_
    refine x_ldcB (i := 24) (idx := 245) (tx := "not") (by rw [tb_y190]; exact List.mem_of_getElem? (i := 59) rfl) (by decide) (by rw [tb_b190]; decide +kernel) ?_
    have m22 := Tq.fr hT f9 (by decide) (by decide)
    refine x_cI (t := 6) (mj := 171) (n := 2) (rc := 12) (ml := 2) (nr := 0) (np := 62) (as := [x_r 75, x_b (24 + 1)]) (rest := []) (lo1 := [x_r 75, x_b (24 + 1)]) (by decide +kernel) (by decide) (by decide +kernel) (x_rb_of (by decide +kernel)) rfl rfl (x_wr (by decide) (x_wB (by decide) x_wn)) x_wn (by decide) rfl (c171_75_S0 j8  (by decide) m22) (fun v19 h23 l20 q21 => ?_)
    obtain ⟨j24, f25, b26, c27, c28, c29, c30⟩ := q21
    have f31 := Fr.trans f15 f25 (by decide)
    have b32 := jB (e := 7) 0 j24 rg_75_7_0_1 (by first | decide | omega) (by first | decide | omega)
    refine x_ifz (k := 0) (tg := 114) (np := 65) (by decide +kernel) (by decide) l20 (fun q33 => ?_) (fun q34 => ?_)
    · have q33 : v19 = 2147483648 := q33
      refine x_aload (np := 115) (x := 0) (by decide +kernel) rfl (x_nc_le (by decide)) ?_
      refine x_ldcB (i := 25) (idx := 250) (tx := "own") (by rw [tb_y190]; exact List.mem_of_getElem? (i := 60) rfl) (by decide) (by rw [tb_b190]; decide +kernel) ?_
      have m38 := Tq.fr m22 f25 (by decide) (by decide)
      refine x_cI (t := 6) (mj := 171) (n := 2) (rc := 12) (ml := 2) (nr := 0) (np := 120) (as := [x_r 75, x_b (25 + 1)]) (rest := []) (lo1 := [x_r 75, x_b (25 + 1)]) (by decide +kernel) (by decide) (by decide +kernel) (x_rb_of (by decide +kernel)) rfl rfl (x_wr (by decide) (x_wB (by decide) x_wn)) x_wn (by decide) rfl (c171_75_S0 j24  (by decide) m38) (fun v35 h39 l36 q37 => ?_)
      obtain ⟨j40, f41, b42, c43, c44, c45, c46⟩ := q37
      have f47 := Fr.trans f31 f41 (by decide)
      have b48 := jB (e := 7) 0 j40 rg_75_7_0_1 (by first | decide | omega) (by first | decide | omega)
      refine x_istore (np := 121) (x := 1) (lo' := [x_r 75, iv_c v35, 147573952589676412928]) (by decide +kernel) l36 (Nat.le_of_ble_eq_true rfl) rfl ?_
      refine x_iload (np := 122) (x := 1) (by decide +kernel) rfl l36 ?_
      refine x_ifz (k := 1) (tg := 134) (np := 125) (by decide +kernel) (by decide) l36 (fun q49 => ?_) (fun q50 => ?_)
      · have q49 : v35 ≠ 2147483648 := q49
        have b51 := c44 (by first | decide | omega)
        refine x_aload (np := 135) (x := 0) (by decide +kernel) rfl (x_nc_le (by decide)) ?_
        refine x_iload (np := 136) (x := 1) (by decide +kernel) rfl l36 ?_
        refine x_ifz (k := 0) (tg := 144) (np := 139) (by decide +kernel) (by decide) l36 (fun q52 => ?_) (fun q53 => ?_)
        · have q52 : v35 = 2147483648 := q52
          exfalso; omega
        have q53 : ¬ (v35 = 2147483648) := q53
        refine x_const (np := 141) (x := 9223372064772063238) (a := 2147483654) (by decide +kernel) (by decide) (by decide) ?_
        refine x_goto (np := 144) (x := 146) (by decide +kernel) ?_
        refine x_const (np := 147) (x := 9223372039002259456) (a := 2147483648) (by decide +kernel) (by decide) (by decide) ?_
        refine x_nV (t := 6) (mj := 187) (n := 3) (rc := 12) (ml := 3) (nr := 0) (np := 150) (as := [x_r 75, iv_c 2147483654, iv_c 2147483648]) (rest := []) (lo1 := [x_r 75, iv_c 2147483654, iv_c 2147483648]) (by decide +kernel) (by decide) (by decide +kernel) (x_rb_of (by decide +kernel)) rfl rfl (x_wr (by decide) (x_wi (by decide) (x_wi (by decide) x_wn))) x_wn (by decide) rfl ?_
        refine x_aload (np := 1) (x := 0) (by decide +kernel) rfl (x_nc_le (by decide)) ?_
        have q54 : h39 75 1 = 76 := by have z := jB (e := 1) 0 j40 rg_75_1_0_1 (by decide) (by decide); omega
        refine x_getR (np := 4) (x := 705) (f := 1) (q := 76) (by decide +kernel) (by decide) (by decide +kernel) q54 ?_
        refine x_const (np := 7) (x := 9223376986804585600) (a := 2147484800) (by decide +kernel) (by decide) (by decide) ?_
        refine x_const (np := 8) (x := 9223372047592194050) (a := 2147483650) (by decide +kernel) (by decide) (by decide) ?_
        refine x_aload (np := 9) (x := 0) (by decide +kernel) rfl (x_nc_le (by decide)) ?_
        have q55 : h39 75 13 = h23 75 13 := jK 0 f41 rg_75_13_0_1 (by first | decide | omega) (by first | decide | omega) (by decide)
        have q56 : h23 75 13 = h7 75 13 := jK 0 f25 rg_75_13_0_1 (by first | decide | omega) (by first | decide | omega) (by decide)
        have q57 : h7 75 13 = h 75 13 := jK 0 f9 rg_75_13_0_1 (by first | decide | omega) (by first | decide | omega) (by decide)
        refine x_getC (np := 12) (x := 717) (f := 13) (q := (h 75 13)) (by decide +kernel) (by decide) (by decide +kernel) ((q55.trans q56).trans q57) (fun l58 => ?_)
        obtain ⟨u59, q60⟩ : ∃ z, (h 75 13) = 2147483648 + z := ⟨(h 75 13) - 2147483648, by first | decide | omega⟩
        refine x_imul (np := 13) (x := 0) (i := 2) (j := u59) (v := (2147483648 + 2 * u59)) (by decide +kernel) (by first | decide | omega) (by first | decide | omega) (by first | decide | omega) (by first | decide | omega) (by decide) l58 ?_
        refine x_iadd (np := 14) (x := 0) (v := (2147484800 + 2 * u59)) (by decide +kernel) (by decide) (by first | decide | omega) (by first | decide | omega) (by first | decide | omega) ?_
        refine x_iload (np := 15) (x := 1) (by decide +kernel) rfl (by decide) ?_
        refine x_ast (np := 16) (x := 0) (kd := 1) (n := 1952) (i := (1152 + 2 * u59)) (by decide +kernel) (Or.inl rfl) (by decide +kernel) (by first | decide | omega) (by first | decide | omega) (by decide) (by decide) (fun z => absurd z (by decide)) ?_
        have j63 := jU (e := (1152 + 2 * u59)) (v := 2147483654) u59 j40 rg_76_1152_2_394 (by first | decide | omega) (by first | decide | omega) (by first | decide | omega)
        have f65 := jF (e := (1152 + 2 * u59)) (v := 2147483654) u59 f47 rg_76_1152_2_394 (by first | decide | omega) (by first | decide | omega) (by decide)
        generalize e64 : x_up h39 76 (1152 + 2 * u59) 2147483654 = h62 at j63 f65 ⊢
        refine x_aload (np := 17) (x := 0) (by decide +kernel) rfl (x_nc_le (by decide)) ?_
        have q66 : h62 75 1 = 76 := by have z := jB (e := 1) 0 j63 rg_75_1_0_1 (by decide) (by decide); omega
        refine x_getR (np := 20) (x := 705) (f := 1) (q := 76) (by decide +kernel) (by decide) (by decide +kernel) q66 ?_
        refine x_const (np := 23) (x := 9223376986804585600) (a := 2147484800) (by decide +kernel) (by decide) (by decide) ?_
        refine x_const (np := 24) (x := 9223372047592194050) (a := 2147483650) (by decide +kernel) (by decide) (by decide) ?_
        refine x_aload (np := 25) (x := 0) (by decide +kernel) rfl (x_nc_le (by decide)) ?_
        have q67 : h62 75 13 = h39 75 13 := by rw [← e64]; exact x_up_k (by decide)
        have q68 : h39 75 13 = h23 75 13 := jK 0 f41 rg_75_13_0_1 (by first | decide | omega) (by first | decide | omega) (by decide)
        have q69 : h23 75 13 = h7 75 13 := jK 0 f25 rg_75_13_0_1 (by first | decide | omega) (by first | decide | omega) (by decide)
        have q70 : h7 75 13 = h 75 13 := jK 0 f9 rg_75_13_0_1 (by first | decide | omega) (by first | decide | omega) (by decide)
        refine x_getC (np := 28) (x := 717) (f := 13) (q := (h 75 13)) (by decide +kernel) (by decide) (by decide +kernel) (((q67.trans q68).trans q69).trans q70) (fun l71 => ?_)
        refine x_imul (np := 29) (x := 0) (i := 2) (j := u59) (v := (2147483648 + 2 * u59)) (by decide +kernel) (by first | decide | omega) (by first | decide | omega) (by first | decide | omega) (by first | decide | omega) (by decide) l58 ?_
        refine x_iadd (np := 30) (x := 0) (v := (2147484800 + 2 * u59)) (by decide +kernel) (by decide) (by first | decide | omega) (by first | decide | omega) (by first | decide | omega) ?_
        refine x_const (np := 31) (x := 9223372043297226753) (a := 2147483649) (by decide +kernel) (by decide) (by decide) ?_
        refine x_iadd (np := 32) (x := 0) (v := (2147484801 + 2 * u59)) (by decide +kernel) (by first | decide | omega) (by decide) (by first | decide | omega) (by first | decide | omega) ?_
        refine x_iload (np := 33) (x := 2) (by decide +kernel) rfl (by decide) ?_
        refine x_ast (np := 34) (x := 0) (kd := 1) (n := 1952) (i := (1153 + 2 * u59)) (by decide +kernel) (Or.inl rfl) (by decide +kernel) (by first | decide | omega) (by first | decide | omega) (by decide) (by decide) (fun z => absurd z (by decide)) ?_
        have j74 := jU (e := (1153 + 2 * u59)) (v := 2147483648) u59 j63 rg_76_1153_2_394 (by first | decide | omega) (by first | decide | omega) (by first | decide | omega)
        have f76 := jF (e := (1153 + 2 * u59)) (v := 2147483648) u59 f65 rg_76_1153_2_394 (by first | decide | omega) (by first | decide | omega) (by decide)
        generalize e75 : x_up h62 76 (1153 + 2 * u59) 2147483648 = h73 at j74 f76 ⊢
        refine x_aload (np := 35) (x := 0) (by decide +kernel) rfl (x_nc_le (by decide)) ?_
        refine x_dup (np := 36) (x := 0) (by decide +kernel) (by have z := x_nc_le (k := 75) (by decide); unfold x_r; omega) ?_
        have q77 : h73 75 13 = h62 75 13 := by rw [← e75]; exact x_up_k (by decide)
        have q78 : h62 75 13 = h39 75 13 := by rw [← e64]; exact x_up_k (by decide)
        have q79 : h39 75 13 = h23 75 13 := jK 0 f41 rg_75_13_0_1 (by first | decide | omega) (by first | decide | omega) (by decide)
        have q80 : h23 75 13 = h7 75 13 := jK 0 f25 rg_75_13_0_1 (by first | decide | omega) (by first | decide | omega) (by decide)
        have q81 : h7 75 13 = h 75 13 := jK 0 f9 rg_75_13_0_1 (by first | decide | omega) (by first | decide | omega) (by decide)
        refine x_getC (np := 39) (x := 717) (f := 13) (q := (h 75 13)) (by decide +kernel) (by decide) (by decide +kernel) ((((q77.trans q78).trans q79).trans q80).trans q81) (fun l82 => ?_)
        refine x_const (np := 40) (x := 9223372043297226753) (a := 2147483649) (by decide +kernel) (by decide) (by decide) ?_
        refine x_iadd (np := 41) (x := 0) (v := (1 + (h 75 13))) (by decide +kernel) l58 (by decide) (by first | decide | omega) (by first | decide | omega) ?_
        refine x_putI (np := 44) (x := 717) (f := 13) (by decide +kernel) (by decide +kernel) (by first | decide | omega) (Or.inl (by decide)) ?_
        have j84 := jU (e := 13) (v := (1 + (h 75 13))) 0 j74 rg_75_13_0_1 (by first | decide | omega) (by first | decide | omega) (by first | decide | omega)
        have f86 := jF (e := 13) (v := (1 + (h 75 13))) 0 f76 rg_75_13_0_1 (by first | decide | omega) (by first | decide | omega) (by decide)
        generalize e85 : x_up h73 75 13 (1 + (h 75 13)) = h83 at j84 f86 ⊢
        refine x_retV (np := 45) (x := 0) (by decide +kernel) (by decide +kernel) ⟨rfl, ?_⟩
        have q87 : h83 75 13 = (1 + (h 75 13)) := by rw [← e85]; exact x_up_at
        refine x_const (np := 151) (x := 9223372043297226753) (a := 2147483649) (by decide +kernel) (by decide) (by decide) ?_
        have q88 : h83 75 13 = (1 + (h 75 13)) := by rw [← e85]; exact x_up_at
        have q89 : h83 75 7 = h73 75 7 := by rw [← e85]; exact x_up_i (by first | decide | omega)
        have q90 : h73 75 7 = h62 75 7 := by rw [← e75]; exact x_up_k (by decide)
        have q91 : h62 75 7 = h39 75 7 := by rw [← e64]; exact x_up_k (by decide)
        have q92 : h83 75 10 = h73 75 10 := by rw [← e85]; exact x_up_i (by first | decide | omega)
        have q93 : h73 75 10 = h62 75 10 := by rw [← e75]; exact x_up_k (by decide)
        have q94 : h62 75 10 = h39 75 10 := by rw [← e64]; exact x_up_k (by decide)
        have q95 : h39 75 10 = h23 75 10 := jK 0 f41 rg_75_10_0_1 (by first | decide | omega) (by first | decide | omega) (by decide)
        have q96 : h23 75 10 = h7 75 10 := jK 0 f25 rg_75_10_0_1 (by first | decide | omega) (by first | decide | omega) (by decide)
        have q97 : h7 75 10 = h 75 10 := jK 0 f9 rg_75_10_0_1 (by first | decide | omega) (by first | decide | omega) (by decide)
        have q98 : h83 75 7 = h73 75 7 := by rw [← e85]; exact x_up_i (by first | decide | omega)
        have q99 : h73 75 7 = h62 75 7 := by rw [← e75]; exact x_up_k (by decide)
        have q100 : h62 75 7 = h39 75 7 := by rw [← e64]; exact x_up_k (by decide)
        have q101 : h83 75 13 = (1 + (h 75 13)) := by rw [← e85]; exact x_up_at
        have k107 : Kp h h7 (h 75 13 - 2147483648) := Kp.fr Kp.refl f9 (by first | decide | omega) (by decide)
        have k106 : Kp h h23 (h 75 13 - 2147483648) := Kp.fr k107 f25 (by first | decide | omega) (by decide)
        have k105 : Kp h h39 (h 75 13 - 2147483648) := Kp.fr k106 f41 (by first | decide | omega) (by decide)
        have k104 : Kp h h62 (h 75 13 - 2147483648) := by rw [← e64]; exact Kp.up k105 (by first | decide | omega) (fun i hi => by first | decide | omega)
        have k103 : Kp h h73 (h 75 13 - 2147483648) := by rw [← e75]; exact Kp.up k104 (by first | decide | omega) (fun i hi => by first | decide | omega)
        have k102 : Kp h h83 (h 75 13 - 2147483648) := by rw [← e85]; exact Kp.oth k103 (by decide)
        have q108 : h83 75 13 = (1 + (h 75 13)) := by rw [← e85]; exact x_up_at
        have q110 : h83 76 (1152 + 2 * u59) = h73 76 (1152 + 2 * u59) := by rw [← e85]; exact x_up_k (by decide)
        have q111 : h73 76 (1152 + 2 * u59) = h62 76 (1152 + 2 * u59) := by rw [← e75]; exact x_up_i (by first | decide | omega)
        have q112 : h62 76 (1152 + 2 * u59) = 2147483654 := by rw [← e64]; exact x_up_at
        have s109 : Seg (sg h83) u59 (u59 + 1) := Seg.push (show 2147483648 ≤ h83 76 (1152 + 2 * u59) by first | decide | omega) (show h83 76 (1152 + 2 * u59) ≤ 2147483656 by first | decide | omega)
        have s113 : Seg (sg h83) (h 75 13 - 2147483648) (h83 75 13 - 2147483648) := Seg.cast (Seg.kp s109 Kp.refl) (by first | decide | omega) (by first | decide | omega)
        obtain ⟨w114, e115⟩ := Tk.no c13 (by first | decide | omega)
        obtain ⟨w116, e117⟩ := Tk.no c29 (by first | decide | omega)
        obtain ⟨w118, e119⟩ := Tk.yes c45 (by first | decide | omega)
        have q120 : h83 75 7 = h73 75 7 := by rw [← e85]; exact x_up_i (by first | decide | omega)
        have q121 : h73 75 7 = h62 75 7 := by rw [← e75]; exact x_up_k (by decide)
        have q122 : h62 75 7 = h39 75 7 := by rw [← e64]; exact x_up_k (by decide)
        refine x_retI (np := 152) (x := 0) (by decide +kernel) (by decide) (Or.inr ⟨by decide +kernel, by first | decide | omega, by first | decide | omega⟩) ⟨_, rfl, (by decide), ?_⟩
        exact ⟨j84, f86, (by first | decide | omega), (fun z => by first | decide | omega), (fun z => by first | decide | omega), (fun z => by first | decide | omega), (fun z => by first | decide | omega), k102, (fun _ => s113), (gA_own w118 (Eq.trans e117 e115) e119 (by first | decide | omega) (congrArg (sk tB tN) (show h39 75 7 = h83 75 7 by first | decide | omega))), (fun z => absurd z (by first | decide | omega))⟩
      have q50 : ¬ (v35 ≠ 2147483648) := q50
      refine x_aload (np := 126) (x := 0) (by decide +kernel) rfl (x_nc_le (by decide)) ?_
      refine x_ldcB (i := 26) (idx := 252) (tx := "mine") (by rw [tb_y190]; exact List.mem_of_getElem? (i := 61) rfl) (by decide) (by rw [tb_b190]; decide +kernel) ?_
      have m126 := Tq.fr m38 f41 (by decide) (by decide)
      refine x_cI (t := 6) (mj := 171) (n := 2) (rc := 12) (ml := 2) (nr := 0) (np := 131) (as := [x_r 75, x_b (26 + 1)]) (rest := []) (lo1 := [x_r 75, x_b (26 + 1)]) (by decide +kernel) (by decide) (by decide +kernel) (x_rb_of (by decide +kernel)) rfl rfl (x_wr (by decide) (x_wB (by decide) x_wn)) x_wn (by decide) rfl (c171_75_S0 j40  (by decide) m126) (fun v123 h127 l124 q125 => ?_)
      obtain ⟨j128, f129, b130, c131, c132, c133, c134⟩ := q125
      have f135 := Fr.trans f47 f129 (by decide)
      have b136 := jB (e := 7) 0 j128 rg_75_7_0_1 (by first | decide | omega) (by first | decide | omega)
      refine x_ifz (k := 0) (tg := 152) (np := 134) (by decide +kernel) (by decide) l124 (fun q137 => ?_) (fun q138 => ?_)
      · have q137 : v123 = 2147483648 := q137
        refine x_aload (np := 153) (x := 0) (by decide +kernel) rfl (x_nc_le (by decide)) ?_
        have q139 : h127 75 13 = h39 75 13 := jK 0 f129 rg_75_13_0_1 (by first | decide | omega) (by first | decide | omega) (by decide)
        have q140 : h39 75 13 = h23 75 13 := jK 0 f41 rg_75_13_0_1 (by first | decide | omega) (by first | decide | omega) (by decide)
        have q141 : h23 75 13 = h7 75 13 := jK 0 f25 rg_75_13_0_1 (by first | decide | omega) (by first | decide | omega) (by decide)
        have q142 : h7 75 13 = h 75 13 := jK 0 f9 rg_75_13_0_1 (by first | decide | omega) (by first | decide | omega) (by decide)
        have m146 := Tq.fr m126 f129 (by decide) (by decide)
        refine x_cI (t := 6) (mj := 189) (n := 1) (rc := 12) (ml := 1) (nr := 0) (np := 156) (as := [x_r 75]) (rest := []) (lo1 := [x_r 75]) (by decide +kernel) (by decide) (by decide +kernel) (x_rb_of (by decide +kernel)) rfl rfl (x_wr (by decide) x_wn) x_wn (by decide) rfl (c189_75 j128  (by first | decide | omega) m146) (fun v143 h147 l144 q145 => ?_)
        obtain ⟨j148, f149, b150, c151, c152, c153, c154, c155, c156, c157⟩ := q145
        have f158 := Fr.trans f135 f149 (by decide)
        have q159 : h127 75 13 = h39 75 13 := jK 0 f129 rg_75_13_0_1 (by first | decide | omega) (by first | decide | omega) (by decide)
        have q160 : h39 75 13 = h23 75 13 := jK 0 f41 rg_75_13_0_1 (by first | decide | omega) (by first | decide | omega) (by decide)
        have q161 : h23 75 13 = h7 75 13 := jK 0 f25 rg_75_13_0_1 (by first | decide | omega) (by first | decide | omega) (by decide)
        have q162 : h7 75 13 = h 75 13 := jK 0 f9 rg_75_13_0_1 (by first | decide | omega) (by first | decide | omega) (by decide)
        have b163 := jB (e := 13) 0 j148 rg_75_13_0_1 (by first | decide | omega) (by first | decide | omega)
        have b164 := jB (e := 7) 0 j148 rg_75_7_0_1 (by first | decide | omega) (by first | decide | omega)
        have q165 : h127 75 13 = h39 75 13 := jK 0 f129 rg_75_13_0_1 (by first | decide | omega) (by first | decide | omega) (by decide)
        have q166 : h39 75 13 = h23 75 13 := jK 0 f41 rg_75_13_0_1 (by first | decide | omega) (by first | decide | omega) (by decide)
        have q167 : h23 75 13 = h7 75 13 := jK 0 f25 rg_75_13_0_1 (by first | decide | omega) (by first | decide | omega) (by decide)
        have q168 : h7 75 13 = h 75 13 := jK 0 f9 rg_75_13_0_1 (by first | decide | omega) (by first | decide | omega) (by decide)
        refine x_ifz (k := 1) (tg := 161) (np := 159) (by decide +kernel) (by decide) l144 (fun q169 => ?_) (fun q170 => ?_)
        · have q169 : v143 ≠ 2147483648 := q169
          have b171 := c151 (by first | decide | omega)
          have b172 := c152 (by first | decide | omega)
          have b173 := c153 (by first | decide | omega)
          have s174 := c155 (by first | decide | omega)
          have q175 : h127 75 13 = h39 75 13 := jK 0 f129 rg_75_13_0_1 (by first | decide | omega) (by first | decide | omega) (by decide)
          have q176 : h39 75 13 = h23 75 13 := jK 0 f41 rg_75_13_0_1 (by first | decide | omega) (by first | decide | omega) (by decide)
          have q177 : h23 75 13 = h7 75 13 := jK 0 f25 rg_75_13_0_1 (by first | decide | omega) (by first | decide | omega) (by decide)
          have q178 : h7 75 13 = h 75 13 := jK 0 f9 rg_75_13_0_1 (by first | decide | omega) (by first | decide | omega) (by decide)
          refine x_aload (np := 162) (x := 0) (by decide +kernel) rfl (x_nc_le (by decide)) ?_
          refine x_const (np := 164) (x := 9223372296700297276) (a := 2147483708) (by decide +kernel) (by decide) (by decide) ?_
          have m182 := Tq.fr m146 f149 (by decide) (by decide)
          refine x_cI (t := 6) (mj := 173) (n := 2) (rc := 12) (ml := 2) (nr := 0) (np := 167) (as := [x_r 75, iv_c 2147483708]) (rest := []) (lo1 := [x_r 75, iv_c 2147483708]) (by decide +kernel) (by decide) (by decide +kernel) (x_rb_of (by decide +kernel)) rfl rfl (x_wr (by decide) (x_wi (by decide) x_wn)) x_wn (by decide) rfl (c173_75 j148  (by first | decide | omega) m182) (fun v179 h183 l180 q181 => ?_)
          obtain ⟨j184, f185, b186, c187, c188, c189, c190⟩ := q181
          have f191 := Fr.trans f158 f185 (by decide)
          have b192 := jB (e := 7) 0 j184 rg_75_7_0_1 (by first | decide | omega) (by first | decide | omega)
          refine x_istore (np := 168) (x := 2) (lo' := [x_r 75, iv_c v35, iv_c v179]) (by decide +kernel) l180 (Nat.le_of_ble_eq_true rfl) rfl ?_
          refine x_iload (np := 169) (x := 2) (by decide +kernel) rfl l180 ?_
          refine x_ifz (k := 1) (tg := 181) (np := 172) (by decide +kernel) (by decide) l180 (fun q193 => ?_) (fun q194 => ?_)
          · have q193 : v179 ≠ 2147483648 := q193
            have b195 := c188 (by first | decide | omega)
            refine x_aload (np := 182) (x := 0) (by decide +kernel) rfl (x_nc_le (by decide)) ?_
            have q196 : h183 75 13 = h147 75 13 := jK 0 f185 rg_75_13_0_1 (by first | decide | omega) (by first | decide | omega) (by decide)
            have m200 := Tq.fr m182 f185 (by decide) (by decide)
            refine x_cI (t := 6) (mj := 189) (n := 1) (rc := 12) (ml := 1) (nr := 0) (np := 185) (as := [x_r 75]) (rest := []) (lo1 := [x_r 75]) (by decide +kernel) (by decide) (by decide +kernel) (x_rb_of (by decide +kernel)) rfl rfl (x_wr (by decide) x_wn) x_wn (by decide) rfl (c189_75 j184  (by first | decide | omega) m200) (fun v197 h201 l198 q199 => ?_)
            obtain ⟨j202, f203, b204, c205, c206, c207, c208, c209, c210, c211⟩ := q199
            have f212 := Fr.trans f191 f203 (by decide)
            have q213 : h183 75 13 = h147 75 13 := jK 0 f185 rg_75_13_0_1 (by first | decide | omega) (by first | decide | omega) (by decide)
            have b214 := jB (e := 13) 0 j202 rg_75_13_0_1 (by first | decide | omega) (by first | decide | omega)
            have b215 := jB (e := 7) 0 j202 rg_75_7_0_1 (by first | decide | omega) (by first | decide | omega)
            have q216 : h183 75 13 = h147 75 13 := jK 0 f185 rg_75_13_0_1 (by first | decide | omega) (by first | decide | omega) (by decide)
            refine x_ifz (k := 1) (tg := 190) (np := 188) (by decide +kernel) (by decide) l198 (fun q217 => ?_) (fun q218 => ?_)
            · have q217 : v197 ≠ 2147483648 := q217
              have b219 := c205 (by first | decide | omega)
              have b220 := c206 (by first | decide | omega)
              have b221 := c207 (by first | decide | omega)
              have s222 := c209 (by first | decide | omega)
              have q223 : h183 75 13 = h147 75 13 := jK 0 f185 rg_75_13_0_1 (by first | decide | omega) (by first | decide | omega) (by decide)
              refine x_aload (np := 191) (x := 0) (by decide +kernel) rfl (x_nc_le (by decide)) ?_
              refine x_iload (np := 192) (x := 2) (by decide +kernel) rfl l180 ?_
              refine x_ifz (k := 0) (tg := 200) (np := 195) (by decide +kernel) (by decide) l180 (fun q224 => ?_) (fun q225 => ?_)
              · have q224 : v179 = 2147483648 := q224
                exfalso; omega
              have q225 : ¬ (v179 = 2147483648) := q225
              refine x_const (np := 197) (x := 9223372081951932426) (a := 2147483658) (by decide +kernel) (by decide) (by decide) ?_
              refine x_goto (np := 200) (x := 202) (by decide +kernel) ?_
              refine x_const (np := 203) (x := 9223372039002259456) (a := 2147483648) (by decide +kernel) (by decide) (by decide) ?_
              refine x_nV (t := 6) (mj := 187) (n := 3) (rc := 12) (ml := 3) (nr := 0) (np := 206) (as := [x_r 75, iv_c 2147483658, iv_c 2147483648]) (rest := []) (lo1 := [x_r 75, iv_c 2147483658, iv_c 2147483648]) (by decide +kernel) (by decide) (by decide +kernel) (x_rb_of (by decide +kernel)) rfl rfl (x_wr (by decide) (x_wi (by decide) (x_wi (by decide) x_wn))) x_wn (by decide) rfl ?_
              refine x_aload (np := 1) (x := 0) (by decide +kernel) rfl (x_nc_le (by decide)) ?_
              have q226 : h201 75 1 = 76 := by have z := jB (e := 1) 0 j202 rg_75_1_0_1 (by decide) (by decide); omega
              refine x_getR (np := 4) (x := 705) (f := 1) (q := 76) (by decide +kernel) (by decide) (by decide +kernel) q226 ?_
              refine x_const (np := 7) (x := 9223376986804585600) (a := 2147484800) (by decide +kernel) (by decide) (by decide) ?_
              refine x_const (np := 8) (x := 9223372047592194050) (a := 2147483650) (by decide +kernel) (by decide) (by decide) ?_
              refine x_aload (np := 9) (x := 0) (by decide +kernel) rfl (x_nc_le (by decide)) ?_
              refine x_getC (np := 12) (x := 717) (f := 13) (q := (h201 75 13)) (by decide +kernel) (by decide) (by decide +kernel) rfl (fun l227 => ?_)
              obtain ⟨u228, q229⟩ : ∃ z, (h201 75 13) = 2147483648 + z := ⟨(h201 75 13) - 2147483648, by first | decide | omega⟩
              refine x_imul (np := 13) (x := 0) (i := 2) (j := u228) (v := (2147483648 + 2 * u228)) (by decide +kernel) (by first | decide | omega) (by first | decide | omega) (by first | decide | omega) (by first | decide | omega) (by decide) l227 ?_
              refine x_iadd (np := 14) (x := 0) (v := (2147484800 + 2 * u228)) (by decide +kernel) (by decide) (by first | decide | omega) (by first | decide | omega) (by first | decide | omega) ?_
              refine x_iload (np := 15) (x := 1) (by decide +kernel) rfl (by decide) ?_
              refine x_ast (np := 16) (x := 0) (kd := 1) (n := 1952) (i := (1152 + 2 * u228)) (by decide +kernel) (Or.inl rfl) (by decide +kernel) (by first | decide | omega) (by first | decide | omega) (by decide) (by decide) (fun z => absurd z (by decide)) ?_
              have j232 := jU (e := (1152 + 2 * u228)) (v := 2147483658) u228 j202 rg_76_1152_2_395 (by first | decide | omega) (by first | decide | omega) (by first | decide | omega)
              have f234 := jF (e := (1152 + 2 * u228)) (v := 2147483658) u228 f212 rg_76_1152_2_395 (by first | decide | omega) (by first | decide | omega) (by decide)
              generalize e233 : x_up h201 76 (1152 + 2 * u228) 2147483658 = h231 at j232 f234 ⊢
              refine x_aload (np := 17) (x := 0) (by decide +kernel) rfl (x_nc_le (by decide)) ?_
              have q235 : h231 75 1 = 76 := by have z := jB (e := 1) 0 j232 rg_75_1_0_1 (by decide) (by decide); omega
              refine x_getR (np := 20) (x := 705) (f := 1) (q := 76) (by decide +kernel) (by decide) (by decide +kernel) q235 ?_
              refine x_const (np := 23) (x := 9223376986804585600) (a := 2147484800) (by decide +kernel) (by decide) (by decide) ?_
              refine x_const (np := 24) (x := 9223372047592194050) (a := 2147483650) (by decide +kernel) (by decide) (by decide) ?_
              refine x_aload (np := 25) (x := 0) (by decide +kernel) rfl (x_nc_le (by decide)) ?_
              have q236 : h231 75 13 = h201 75 13 := by rw [← e233]; exact x_up_k (by decide)
              refine x_getC (np := 28) (x := 717) (f := 13) (q := (h201 75 13)) (by decide +kernel) (by decide) (by decide +kernel) q236 (fun l237 => ?_)
              refine x_imul (np := 29) (x := 0) (i := 2) (j := u228) (v := (2147483648 + 2 * u228)) (by decide +kernel) (by first | decide | omega) (by first | decide | omega) (by first | decide | omega) (by first | decide | omega) (by decide) l227 ?_
              refine x_iadd (np := 30) (x := 0) (v := (2147484800 + 2 * u228)) (by decide +kernel) (by decide) (by first | decide | omega) (by first | decide | omega) (by first | decide | omega) ?_
              refine x_const (np := 31) (x := 9223372043297226753) (a := 2147483649) (by decide +kernel) (by decide) (by decide) ?_
              refine x_iadd (np := 32) (x := 0) (v := (2147484801 + 2 * u228)) (by decide +kernel) (by first | decide | omega) (by decide) (by first | decide | omega) (by first | decide | omega) ?_
              refine x_iload (np := 33) (x := 2) (by decide +kernel) rfl (by decide) ?_
              refine x_ast (np := 34) (x := 0) (kd := 1) (n := 1952) (i := (1153 + 2 * u228)) (by decide +kernel) (Or.inl rfl) (by decide +kernel) (by first | decide | omega) (by first | decide | omega) (by decide) (by decide) (fun z => absurd z (by decide)) ?_
              have j240 := jU (e := (1153 + 2 * u228)) (v := 2147483648) u228 j232 rg_76_1153_2_395 (by first | decide | omega) (by first | decide | omega) (by first | decide | omega)
              have f242 := jF (e := (1153 + 2 * u228)) (v := 2147483648) u228 f234 rg_76_1153_2_395 (by first | decide | omega) (by first | decide | omega) (by decide)
              generalize e241 : x_up h231 76 (1153 + 2 * u228) 2147483648 = h239 at j240 f242 ⊢
              refine x_aload (np := 35) (x := 0) (by decide +kernel) rfl (x_nc_le (by decide)) ?_
              refine x_dup (np := 36) (x := 0) (by decide +kernel) (by have z := x_nc_le (k := 75) (by decide); unfold x_r; omega) ?_
              have q243 : h239 75 13 = h231 75 13 := by rw [← e241]; exact x_up_k (by decide)
              have q244 : h231 75 13 = h201 75 13 := by rw [← e233]; exact x_up_k (by decide)
              refine x_getC (np := 39) (x := 717) (f := 13) (q := (h201 75 13)) (by decide +kernel) (by decide) (by decide +kernel) (q243.trans q244) (fun l245 => ?_)
              refine x_const (np := 40) (x := 9223372043297226753) (a := 2147483649) (by decide +kernel) (by decide) (by decide) ?_
              refine x_iadd (np := 41) (x := 0) (v := (1 + (h201 75 13))) (by decide +kernel) l227 (by decide) (by first | decide | omega) (by first | decide | omega) ?_
              refine x_putI (np := 44) (x := 717) (f := 13) (by decide +kernel) (by decide +kernel) (by first | decide | omega) (Or.inl (by decide)) ?_
              have j247 := jU (e := 13) (v := (1 + (h201 75 13))) 0 j240 rg_75_13_0_1 (by first | decide | omega) (by first | decide | omega) (by first | decide | omega)
              have f249 := jF (e := 13) (v := (1 + (h201 75 13))) 0 f242 rg_75_13_0_1 (by first | decide | omega) (by first | decide | omega) (by decide)
              generalize e248 : x_up h239 75 13 (1 + (h201 75 13)) = h246 at j247 f249 ⊢
              refine x_retV (np := 45) (x := 0) (by decide +kernel) (by decide +kernel) ⟨rfl, ?_⟩
              have q250 : h246 75 13 = (1 + (h201 75 13)) := by rw [← e248]; exact x_up_at
              refine x_const (np := 207) (x := 9223372043297226753) (a := 2147483649) (by decide +kernel) (by decide) (by decide) ?_
              have q251 : h246 75 13 = (1 + (h201 75 13)) := by rw [← e248]; exact x_up_at
              have q252 : h246 75 7 = h239 75 7 := by rw [← e248]; exact x_up_i (by first | decide | omega)
              have q253 : h239 75 7 = h231 75 7 := by rw [← e241]; exact x_up_k (by decide)
              have q254 : h231 75 7 = h201 75 7 := by rw [← e233]; exact x_up_k (by decide)
              have q255 : h246 75 10 = h239 75 10 := by rw [← e248]; exact x_up_i (by first | decide | omega)
              have q256 : h239 75 10 = h231 75 10 := by rw [← e241]; exact x_up_k (by decide)
              have q257 : h231 75 10 = h201 75 10 := by rw [← e233]; exact x_up_k (by decide)
              have q258 : h201 75 10 = h183 75 10 := jK 0 f203 rg_75_10_0_1 (by first | decide | omega) (by first | decide | omega) (by decide)
              have q259 : h183 75 10 = h147 75 10 := jK 0 f185 rg_75_10_0_1 (by first | decide | omega) (by first | decide | omega) (by decide)
              have q260 : h147 75 10 = h127 75 10 := jK 0 f149 rg_75_10_0_1 (by first | decide | omega) (by first | decide | omega) (by decide)
              have q261 : h127 75 10 = h39 75 10 := jK 0 f129 rg_75_10_0_1 (by first | decide | omega) (by first | decide | omega) (by decide)
              have q262 : h39 75 10 = h23 75 10 := jK 0 f41 rg_75_10_0_1 (by first | decide | omega) (by first | decide | omega) (by decide)
              have q263 : h23 75 10 = h7 75 10 := jK 0 f25 rg_75_10_0_1 (by first | decide | omega) (by first | decide | omega) (by decide)
              have q264 : h7 75 10 = h 75 10 := jK 0 f9 rg_75_10_0_1 (by first | decide | omega) (by first | decide | omega) (by decide)
              have q265 : h246 75 7 = h239 75 7 := by rw [← e248]; exact x_up_i (by first | decide | omega)
              have q266 : h239 75 7 = h231 75 7 := by rw [← e241]; exact x_up_k (by decide)
              have q267 : h231 75 7 = h201 75 7 := by rw [← e233]; exact x_up_k (by decide)
              have q268 : h246 75 13 = (1 + (h201 75 13)) := by rw [← e248]; exact x_up_at
              have k278 : Kp h h7 (h 75 13 - 2147483648) := Kp.fr Kp.refl f9 (by first | decide | omega) (by decide)
              have k277 : Kp h h23 (h 75 13 - 2147483648) := Kp.fr k278 f25 (by first | decide | omega) (by decide)
              have k276 : Kp h h39 (h 75 13 - 2147483648) := Kp.fr k277 f41 (by first | decide | omega) (by decide)
              have k275 : Kp h h127 (h 75 13 - 2147483648) := Kp.fr k276 f129 (by first | decide | omega) (by decide)
              have q279 : h127 75 13 = h39 75 13 := jK 0 f129 rg_75_13_0_1 (by first | decide | omega) (by first | decide | omega) (by decide)
              have q280 : h39 75 13 = h23 75 13 := jK 0 f41 rg_75_13_0_1 (by first | decide | omega) (by first | decide | omega) (by decide)
              have q281 : h23 75 13 = h7 75 13 := jK 0 f25 rg_75_13_0_1 (by first | decide | omega) (by first | decide | omega) (by decide)
              have q282 : h7 75 13 = h 75 13 := jK 0 f9 rg_75_13_0_1 (by first | decide | omega) (by first | decide | omega) (by decide)
              have k274 : Kp h h147 (h 75 13 - 2147483648) := Kp.trans k275 c154 (by first | decide | omega)
              have k273 : Kp h h183 (h 75 13 - 2147483648) := Kp.fr k274 f185 (by first | decide | omega) (by decide)
              have q283 : h183 75 13 = h147 75 13 := jK 0 f185 rg_75_13_0_1 (by first | decide | omega) (by first | decide | omega) (by decide)
              have k272 : Kp h h201 (h 75 13 - 2147483648) := Kp.trans k273 c208 (by first | decide | omega)
              have k271 : Kp h h231 (h 75 13 - 2147483648) := by rw [← e233]; exact Kp.up k272 (by first | decide | omega) (fun i hi => by first | decide | omega)
              have k270 : Kp h h239 (h 75 13 - 2147483648) := by rw [← e241]; exact Kp.up k271 (by first | decide | omega) (fun i hi => by first | decide | omega)
              have k269 : Kp h h246 (h 75 13 - 2147483648) := by rw [← e248]; exact Kp.oth k270 (by decide)
              have q284 : h246 75 13 = (1 + (h201 75 13)) := by rw [← e248]; exact x_up_at
              have q286 : h246 76 (1152 + 2 * u228) = h239 76 (1152 + 2 * u228) := by rw [← e248]; exact x_up_k (by decide)
              have q287 : h239 76 (1152 + 2 * u228) = h231 76 (1152 + 2 * u228) := by rw [← e241]; exact x_up_i (by first | decide | omega)
              have q288 : h231 76 (1152 + 2 * u228) = 2147483658 := by rw [← e233]; exact x_up_at
              have k293 : Kp h147 h183 (h147 75 13 - 2147483648) := Kp.fr Kp.refl f185 (by first | decide | omega) (by decide)
              have q294 : h183 75 13 = h147 75 13 := jK 0 f185 rg_75_13_0_1 (by first | decide | omega) (by first | decide | omega) (by decide)
              have k292 : Kp h147 h201 (h147 75 13 - 2147483648) := Kp.trans k293 c208 (by first | decide | omega)
              have k291 : Kp h147 h231 (h147 75 13 - 2147483648) := by rw [← e233]; exact Kp.up k292 (by first | decide | omega) (fun i hi => by first | decide | omega)
              have k290 : Kp h147 h239 (h147 75 13 - 2147483648) := by rw [← e241]; exact Kp.up k291 (by first | decide | omega) (fun i hi => by first | decide | omega)
              have k289 : Kp h147 h246 (h147 75 13 - 2147483648) := by rw [← e248]; exact Kp.oth k290 (by decide)
              have k297 : Kp h201 h231 (h201 75 13 - 2147483648) := by rw [← e233]; exact Kp.up Kp.refl (by first | decide | omega) (fun i hi => by first | decide | omega)
              have k296 : Kp h201 h239 (h201 75 13 - 2147483648) := by rw [← e241]; exact Kp.up k297 (by first | decide | omega) (fun i hi => by first | decide | omega)
              have k295 : Kp h201 h246 (h201 75 13 - 2147483648) := by rw [← e248]; exact Kp.oth k296 (by decide)
              have s285 : Seg (sg h246) (h127 75 13 - 2147483648) (u228 + 1) := Seg.bin (Seg.kp s174 k289) (Seg.cast (a' := (h147 75 13 - 2147483648)) (b' := u228) (Seg.kp s222 k295) (by first | decide | omega) (by first | decide | omega)) (show 2147483656 < h246 76 (1152 + 2 * u228) by first | decide | omega) (show h246 76 (1152 + 2 * u228) ≠ 2147483660 by first | decide | omega)
              have s298 : Seg (sg h246) (h 75 13 - 2147483648) (h246 75 13 - 2147483648) := Seg.cast (Seg.kp s285 Kp.refl) (by first | decide | omega) (by first | decide | omega)
              obtain ⟨w299, e300⟩ := Tk.no c13 (by first | decide | omega)
              obtain ⟨w301, e302⟩ := Tk.no c29 (by first | decide | omega)
              obtain ⟨w303, e304⟩ := Tk.no c45 (by first | decide | omega)
              obtain ⟨w305, e306⟩ := Tk.no c133 (by first | decide | omega)
              have w307 : An tB tN (sk tB tN (h 75 7)) := gA_an w301 e300 w299 rfl w303 (Eq.trans e302 e300) w305 (Eq.trans e304 (Eq.trans e302 e300))
              obtain ⟨w308, e309⟩ := Tk.yes c189 (by first | decide | omega)
              have q310 : h246 75 7 = h239 75 7 := by rw [← e248]; exact x_up_i (by first | decide | omega)
              have q311 : h239 75 7 = h231 75 7 := by rw [← e241]; exact x_up_k (by decide)
              have q312 : h231 75 7 = h201 75 7 := by rw [← e233]; exact x_up_k (by decide)
              refine x_retI (np := 208) (x := 0) (by decide +kernel) (by decide) (Or.inr ⟨by decide +kernel, by first | decide | omega, by first | decide | omega⟩) ⟨_, rfl, (by decide), ?_⟩
              exact ⟨j247, f249, (by first | decide | omega), (fun z => by first | decide | omega), (fun z => by first | decide | omega), (fun z => by first | decide | omega), (fun z => by first | decide | omega), k269, (fun _ => s298), (gA_c2 w307 (c156 0) (Eq.trans e306 (Eq.trans e304 (Eq.trans e302 e300))) (by first | decide | omega) (Or.inl w308) rfl e309 (c210 0) rfl (by first | decide | omega) (fun z => (congrArg (sk tB tN) (show h201 75 7 = h246 75 7 by first | decide | omega)))), (fun z => absurd z (by first | decide | omega))⟩
            have q218 : ¬ (v197 ≠ 2147483648) := q218
            refine x_const (np := 189) (x := 9223372039002259456) (a := 2147483648) (by decide +kernel) (by decide) (by decide) ?_
            have q313 : h201 75 10 = h183 75 10 := jK 0 f203 rg_75_10_0_1 (by first | decide | omega) (by first | decide | omega) (by decide)
            have q314 : h183 75 10 = h147 75 10 := jK 0 f185 rg_75_10_0_1 (by first | decide | omega) (by first | decide | omega) (by decide)
            have q315 : h147 75 10 = h127 75 10 := jK 0 f149 rg_75_10_0_1 (by first | decide | omega) (by first | decide | omega) (by decide)
            have q316 : h127 75 10 = h39 75 10 := jK 0 f129 rg_75_10_0_1 (by first | decide | omega) (by first | decide | omega) (by decide)
            have q317 : h39 75 10 = h23 75 10 := jK 0 f41 rg_75_10_0_1 (by first | decide | omega) (by first | decide | omega) (by decide)
            have q318 : h23 75 10 = h7 75 10 := jK 0 f25 rg_75_10_0_1 (by first | decide | omega) (by first | decide | omega) (by decide)
            have q319 : h7 75 10 = h 75 10 := jK 0 f9 rg_75_10_0_1 (by first | decide | omega) (by first | decide | omega) (by decide)
            have k326 : Kp h h7 (h 75 13 - 2147483648) := Kp.fr Kp.refl f9 (by first | decide | omega) (by decide)
            have k325 : Kp h h23 (h 75 13 - 2147483648) := Kp.fr k326 f25 (by first | decide | omega) (by decide)
            have k324 : Kp h h39 (h 75 13 - 2147483648) := Kp.fr k325 f41 (by first | decide | omega) (by decide)
            have k323 : Kp h h127 (h 75 13 - 2147483648) := Kp.fr k324 f129 (by first | decide | omega) (by decide)
            have q327 : h127 75 13 = h39 75 13 := jK 0 f129 rg_75_13_0_1 (by first | decide | omega) (by first | decide | omega) (by decide)
            have q328 : h39 75 13 = h23 75 13 := jK 0 f41 rg_75_13_0_1 (by first | decide | omega) (by first | decide | omega) (by decide)
            have q329 : h23 75 13 = h7 75 13 := jK 0 f25 rg_75_13_0_1 (by first | decide | omega) (by first | decide | omega) (by decide)
            have q330 : h7 75 13 = h 75 13 := jK 0 f9 rg_75_13_0_1 (by first | decide | omega) (by first | decide | omega) (by decide)
            have k322 : Kp h h147 (h 75 13 - 2147483648) := Kp.trans k323 c154 (by first | decide | omega)
            have k321 : Kp h h183 (h 75 13 - 2147483648) := Kp.fr k322 f185 (by first | decide | omega) (by decide)
            have q331 : h183 75 13 = h147 75 13 := jK 0 f185 rg_75_13_0_1 (by first | decide | omega) (by first | decide | omega) (by decide)
            have k320 : Kp h h201 (h 75 13 - 2147483648) := Kp.trans k321 c208 (by first | decide | omega)
            obtain ⟨w332, e333⟩ := Tk.no c13 (by first | decide | omega)
            obtain ⟨w334, e335⟩ := Tk.no c29 (by first | decide | omega)
            obtain ⟨w336, e337⟩ := Tk.no c45 (by first | decide | omega)
            obtain ⟨w338, e339⟩ := Tk.no c133 (by first | decide | omega)
            have w340 : An tB tN (sk tB tN (h 75 7)) := gA_an w334 e333 w332 rfl w336 (Eq.trans e335 e333) w338 (Eq.trans e337 (Eq.trans e335 e333))
            obtain ⟨w341, e342⟩ := Tk.yes c189 (by first | decide | omega)
            obtain ⟨w343, e344⟩ := Tk.no c13 (by first | decide | omega)
            obtain ⟨w345, e346⟩ := Tk.no c29 (by first | decide | omega)
            obtain ⟨w347, e348⟩ := Tk.no c45 (by first | decide | omega)
            obtain ⟨w349, e350⟩ := Tk.no c133 (by first | decide | omega)
            have w351 : An tB tN (sk tB tN (h 75 7)) := gA_an w345 e344 w343 rfl w347 (Eq.trans e346 e344) w349 (Eq.trans e348 (Eq.trans e346 e344))
            obtain ⟨w352, e353⟩ := Tk.yes c189 (by first | decide | omega)
            refine x_retI (np := 190) (x := 0) (by decide +kernel) (by decide) (Or.inr ⟨by decide +kernel, by first | decide | omega, by first | decide | omega⟩) ⟨_, rfl, (by decide), ?_⟩
            exact ⟨j202, f212, (by first | decide | omega), (fun z => by first | decide | omega), (fun z => by first | decide | omega), (fun z => by first | decide | omega), (fun z => by first | decide | omega), k320, (fun z => absurd z (by first | decide | omega)), (gA_c2 w340 (c156 0) (Eq.trans e339 (Eq.trans e337 (Eq.trans e335 e333))) (by first | decide | omega) (Or.inl w341) rfl e342 (c210 0) rfl (by first | decide | omega) (fun z => absurd z (by first | decide | omega))), (fun _ => fA_c2 w351 (c156 0) (Eq.trans e350 (Eq.trans e348 (Eq.trans e346 e344))) (by first | decide | omega) (Or.inl w352) rfl e353 (c211 (by first | decide | omega) 0) rfl rfl)⟩
          have q194 : ¬ (v179 ≠ 2147483648) := q194
          refine x_aload (np := 173) (x := 0) (by decide +kernel) rfl (x_nc_le (by decide)) ?_
          refine x_const (np := 175) (x := 9223372305290231870) (a := 2147483710) (by decide +kernel) (by decide) (by decide) ?_
          have m357 := Tq.fr m182 f185 (by decide) (by decide)
          refine x_cI (t := 6) (mj := 173) (n := 2) (rc := 12) (ml := 2) (nr := 0) (np := 178) (as := [x_r 75, iv_c 2147483710]) (rest := []) (lo1 := [x_r 75, iv_c 2147483710]) (by decide +kernel) (by decide) (by decide +kernel) (x_rb_of (by decide +kernel)) rfl rfl (x_wr (by decide) (x_wi (by decide) x_wn)) x_wn (by decide) rfl (c173_75 j184  (by first | decide | omega) m357) (fun v354 h358 l355 q356 => ?_)
          obtain ⟨j359, f360, b361, c362, c363, c364, c365⟩ := q356
          have f366 := Fr.trans f191 f360 (by decide)
          have b367 := jB (e := 7) 0 j359 rg_75_7_0_1 (by first | decide | omega) (by first | decide | omega)
          refine x_ifz (k := 0) (tg := 188) (np := 181) (by decide +kernel) (by decide) l355 (fun q368 => ?_) (fun q369 => ?_)
          · have q368 : v354 = 2147483648 := q368
            refine x_const (np := 189) (x := 9223372039002259456) (a := 2147483648) (by decide +kernel) (by decide) (by decide) ?_
            have q370 : h358 75 13 = h183 75 13 := jK 0 f360 rg_75_13_0_1 (by first | decide | omega) (by first | decide | omega) (by decide)
            have q371 : h183 75 13 = h147 75 13 := jK 0 f185 rg_75_13_0_1 (by first | decide | omega) (by first | decide | omega) (by decide)
            have q372 : h358 75 10 = h183 75 10 := jK 0 f360 rg_75_10_0_1 (by first | decide | omega) (by first | decide | omega) (by decide)
            have q373 : h183 75 10 = h147 75 10 := jK 0 f185 rg_75_10_0_1 (by first | decide | omega) (by first | decide | omega) (by decide)
            have q374 : h147 75 10 = h127 75 10 := jK 0 f149 rg_75_10_0_1 (by first | decide | omega) (by first | decide | omega) (by decide)
            have q375 : h127 75 10 = h39 75 10 := jK 0 f129 rg_75_10_0_1 (by first | decide | omega) (by first | decide | omega) (by decide)
            have q376 : h39 75 10 = h23 75 10 := jK 0 f41 rg_75_10_0_1 (by first | decide | omega) (by first | decide | omega) (by decide)
            have q377 : h23 75 10 = h7 75 10 := jK 0 f25 rg_75_10_0_1 (by first | decide | omega) (by first | decide | omega) (by decide)
            have q378 : h7 75 10 = h 75 10 := jK 0 f9 rg_75_10_0_1 (by first | decide | omega) (by first | decide | omega) (by decide)
            have q379 : h358 75 13 = h183 75 13 := jK 0 f360 rg_75_13_0_1 (by first | decide | omega) (by first | decide | omega) (by decide)
            have q380 : h183 75 13 = h147 75 13 := jK 0 f185 rg_75_13_0_1 (by first | decide | omega) (by first | decide | omega) (by decide)
            have k387 : Kp h h7 (h 75 13 - 2147483648) := Kp.fr Kp.refl f9 (by first | decide | omega) (by decide)
            have k386 : Kp h h23 (h 75 13 - 2147483648) := Kp.fr k387 f25 (by first | decide | omega) (by decide)
            have k385 : Kp h h39 (h 75 13 - 2147483648) := Kp.fr k386 f41 (by first | decide | omega) (by decide)
            have k384 : Kp h h127 (h 75 13 - 2147483648) := Kp.fr k385 f129 (by first | decide | omega) (by decide)
            have q388 : h127 75 13 = h39 75 13 := jK 0 f129 rg_75_13_0_1 (by first | decide | omega) (by first | decide | omega) (by decide)
            have q389 : h39 75 13 = h23 75 13 := jK 0 f41 rg_75_13_0_1 (by first | decide | omega) (by first | decide | omega) (by decide)
            have q390 : h23 75 13 = h7 75 13 := jK 0 f25 rg_75_13_0_1 (by first | decide | omega) (by first | decide | omega) (by decide)
            have q391 : h7 75 13 = h 75 13 := jK 0 f9 rg_75_13_0_1 (by first | decide | omega) (by first | decide | omega) (by decide)
            have k383 : Kp h h147 (h 75 13 - 2147483648) := Kp.trans k384 c154 (by first | decide | omega)
            have k382 : Kp h h183 (h 75 13 - 2147483648) := Kp.fr k383 f185 (by first | decide | omega) (by decide)
            have k381 : Kp h h358 (h 75 13 - 2147483648) := Kp.fr k382 f360 (by first | decide | omega) (by decide)
            obtain ⟨w392, e393⟩ := Tk.no c13 (by first | decide | omega)
            obtain ⟨w394, e395⟩ := Tk.no c29 (by first | decide | omega)
            obtain ⟨w396, e397⟩ := Tk.no c45 (by first | decide | omega)
            obtain ⟨w398, e399⟩ := Tk.no c133 (by first | decide | omega)
            have w400 : An tB tN (sk tB tN (h 75 7)) := gA_an w394 e393 w392 rfl w396 (Eq.trans e395 e393) w398 (Eq.trans e397 (Eq.trans e395 e393))
            obtain ⟨w401, e402⟩ := Tk.no c189 (by first | decide | omega)
            obtain ⟨w403, e404⟩ := Tk.no c364 (by first | decide | omega)
            obtain ⟨w405, e406⟩ := Tk.no c13 (by first | decide | omega)
            obtain ⟨w407, e408⟩ := Tk.no c29 (by first | decide | omega)
            obtain ⟨w409, e410⟩ := Tk.no c45 (by first | decide | omega)
            obtain ⟨w411, e412⟩ := Tk.no c133 (by first | decide | omega)
            have w413 : An tB tN (sk tB tN (h 75 7)) := gA_an w407 e406 w405 rfl w409 (Eq.trans e408 e406) w411 (Eq.trans e410 (Eq.trans e408 e406))
            obtain ⟨w414, e415⟩ := Tk.no c189 (by first | decide | omega)
            obtain ⟨w416, e417⟩ := Tk.no c364 (by first | decide | omega)
            refine x_retI (np := 190) (x := 0) (by decide +kernel) (by decide) (Or.inr ⟨by decide +kernel, by first | decide | omega, by first | decide | omega⟩) ⟨_, rfl, (by decide), ?_⟩
            exact ⟨j359, f366, (by first | decide | omega), (fun z => by first | decide | omega), (fun z => by first | decide | omega), (fun z => by first | decide | omega), (fun z => by first | decide | omega), k381, (fun z => absurd z (by first | decide | omega)), (gA_c1 w400 (c156 0) (Eq.trans e399 (Eq.trans e397 (Eq.trans e395 e393))) (by first | decide | omega) w401 rfl w403 (Eq.trans rfl (Eq.trans e402 rfl)) (by first | decide | omega)), (fun _ => fA_c1 w413 (c156 0) (Eq.trans e412 (Eq.trans e410 (Eq.trans e408 e406))) (by first | decide | omega) w414 rfl w416 (Eq.trans rfl (Eq.trans e415 rfl)) c365)⟩
          have q369 : ¬ (v354 = 2147483648) := q369
          have b418 := c363 (by first | decide | omega)
          refine x_aload (np := 182) (x := 0) (by decide +kernel) rfl (x_nc_le (by decide)) ?_
          have q419 : h358 75 13 = h183 75 13 := jK 0 f360 rg_75_13_0_1 (by first | decide | omega) (by first | decide | omega) (by decide)
          have q420 : h183 75 13 = h147 75 13 := jK 0 f185 rg_75_13_0_1 (by first | decide | omega) (by first | decide | omega) (by decide)
          have m424 := Tq.fr m357 f360 (by decide) (by decide)
          refine x_cI (t := 6) (mj := 189) (n := 1) (rc := 12) (ml := 1) (nr := 0) (np := 185) (as := [x_r 75]) (rest := []) (lo1 := [x_r 75]) (by decide +kernel) (by decide) (by decide +kernel) (x_rb_of (by decide +kernel)) rfl rfl (x_wr (by decide) x_wn) x_wn (by decide) rfl (c189_75 j359  (by first | decide | omega) m424) (fun v421 h425 l422 q423 => ?_)
          obtain ⟨j426, f427, b428, c429, c430, c431, c432, c433, c434, c435⟩ := q423
          have f436 := Fr.trans f366 f427 (by decide)
          have q437 : h358 75 13 = h183 75 13 := jK 0 f360 rg_75_13_0_1 (by first | decide | omega) (by first | decide | omega) (by decide)
          have q438 : h183 75 13 = h147 75 13 := jK 0 f185 rg_75_13_0_1 (by first | decide | omega) (by first | decide | omega) (by decide)
          have b439 := jB (e := 13) 0 j426 rg_75_13_0_1 (by first | decide | omega) (by first | decide | omega)
          have b440 := jB (e := 7) 0 j426 rg_75_7_0_1 (by first | decide | omega) (by first | decide | omega)
          have q441 : h358 75 13 = h183 75 13 := jK 0 f360 rg_75_13_0_1 (by first | decide | omega) (by first | decide | omega) (by decide)
          have q442 : h183 75 13 = h147 75 13 := jK 0 f185 rg_75_13_0_1 (by first | decide | omega) (by first | decide | omega) (by decide)
          refine x_ifz (k := 1) (tg := 190) (np := 188) (by decide +kernel) (by decide) l422 (fun q443 => ?_) (fun q444 => ?_)
          · have q443 : v421 ≠ 2147483648 := q443
            have b445 := c429 (by first | decide | omega)
            have b446 := c430 (by first | decide | omega)
            have b447 := c431 (by first | decide | omega)
            have s448 := c433 (by first | decide | omega)
            have q449 : h358 75 13 = h183 75 13 := jK 0 f360 rg_75_13_0_1 (by first | decide | omega) (by first | decide | omega) (by decide)
            have q450 : h183 75 13 = h147 75 13 := jK 0 f185 rg_75_13_0_1 (by first | decide | omega) (by first | decide | omega) (by decide)
            refine x_aload (np := 191) (x := 0) (by decide +kernel) rfl (x_nc_le (by decide)) ?_
            refine x_iload (np := 192) (x := 2) (by decide +kernel) rfl l180 ?_
            refine x_ifz (k := 0) (tg := 200) (np := 195) (by decide +kernel) (by decide) l180 (fun q451 => ?_) (fun q452 => ?_)
            · have q451 : v179 = 2147483648 := q451
              refine x_const (np := 202) (x := 9223372086246899723) (a := 2147483659) (by decide +kernel) (by decide) (by decide) ?_
              refine x_const (np := 203) (x := 9223372039002259456) (a := 2147483648) (by decide +kernel) (by decide) (by decide) ?_
              refine x_nV (t := 6) (mj := 187) (n := 3) (rc := 12) (ml := 3) (nr := 0) (np := 206) (as := [x_r 75, iv_c 2147483659, iv_c 2147483648]) (rest := []) (lo1 := [x_r 75, iv_c 2147483659, iv_c 2147483648]) (by decide +kernel) (by decide) (by decide +kernel) (x_rb_of (by decide +kernel)) rfl rfl (x_wr (by decide) (x_wi (by decide) (x_wi (by decide) x_wn))) x_wn (by decide) rfl ?_
              refine x_aload (np := 1) (x := 0) (by decide +kernel) rfl (x_nc_le (by decide)) ?_
              have q453 : h425 75 1 = 76 := by have z := jB (e := 1) 0 j426 rg_75_1_0_1 (by decide) (by decide); omega
              refine x_getR (np := 4) (x := 705) (f := 1) (q := 76) (by decide +kernel) (by decide) (by decide +kernel) q453 ?_
              refine x_const (np := 7) (x := 9223376986804585600) (a := 2147484800) (by decide +kernel) (by decide) (by decide) ?_
              refine x_const (np := 8) (x := 9223372047592194050) (a := 2147483650) (by decide +kernel) (by decide) (by decide) ?_
              refine x_aload (np := 9) (x := 0) (by decide +kernel) rfl (x_nc_le (by decide)) ?_
              refine x_getC (np := 12) (x := 717) (f := 13) (q := (h425 75 13)) (by decide +kernel) (by decide) (by decide +kernel) rfl (fun l454 => ?_)
              obtain ⟨u455, q456⟩ : ∃ z, (h425 75 13) = 2147483648 + z := ⟨(h425 75 13) - 2147483648, by first | decide | omega⟩
              refine x_imul (np := 13) (x := 0) (i := 2) (j := u455) (v := (2147483648 + 2 * u455)) (by decide +kernel) (by first | decide | omega) (by first | decide | omega) (by first | decide | omega) (by first | decide | omega) (by decide) l454 ?_
              refine x_iadd (np := 14) (x := 0) (v := (2147484800 + 2 * u455)) (by decide +kernel) (by decide) (by first | decide | omega) (by first | decide | omega) (by first | decide | omega) ?_
              refine x_iload (np := 15) (x := 1) (by decide +kernel) rfl (by decide) ?_
              refine x_ast (np := 16) (x := 0) (kd := 1) (n := 1952) (i := (1152 + 2 * u455)) (by decide +kernel) (Or.inl rfl) (by decide +kernel) (by first | decide | omega) (by first | decide | omega) (by decide) (by decide) (fun z => absurd z (by decide)) ?_
              have j459 := jU (e := (1152 + 2 * u455)) (v := 2147483659) u455 j426 rg_76_1152_2_395 (by first | decide | omega) (by first | decide | omega) (by first | decide | omega)
              have f461 := jF (e := (1152 + 2 * u455)) (v := 2147483659) u455 f436 rg_76_1152_2_395 (by first | decide | omega) (by first | decide | omega) (by decide)
              generalize e460 : x_up h425 76 (1152 + 2 * u455) 2147483659 = h458 at j459 f461 ⊢
              refine x_aload (np := 17) (x := 0) (by decide +kernel) rfl (x_nc_le (by decide)) ?_
              have q462 : h458 75 1 = 76 := by have z := jB (e := 1) 0 j459 rg_75_1_0_1 (by decide) (by decide); omega
              refine x_getR (np := 20) (x := 705) (f := 1) (q := 76) (by decide +kernel) (by decide) (by decide +kernel) q462 ?_
              refine x_const (np := 23) (x := 9223376986804585600) (a := 2147484800) (by decide +kernel) (by decide) (by decide) ?_
              refine x_const (np := 24) (x := 9223372047592194050) (a := 2147483650) (by decide +kernel) (by decide) (by decide) ?_
              refine x_aload (np := 25) (x := 0) (by decide +kernel) rfl (x_nc_le (by decide)) ?_
              have q463 : h458 75 13 = h425 75 13 := by rw [← e460]; exact x_up_k (by decide)
              refine x_getC (np := 28) (x := 717) (f := 13) (q := (h425 75 13)) (by decide +kernel) (by decide) (by decide +kernel) q463 (fun l464 => ?_)
              refine x_imul (np := 29) (x := 0) (i := 2) (j := u455) (v := (2147483648 + 2 * u455)) (by decide +kernel) (by first | decide | omega) (by first | decide | omega) (by first | decide | omega) (by first | decide | omega) (by decide) l454 ?_
              refine x_iadd (np := 30) (x := 0) (v := (2147484800 + 2 * u455)) (by decide +kernel) (by decide) (by first | decide | omega) (by first | decide | omega) (by first | decide | omega) ?_
              refine x_const (np := 31) (x := 9223372043297226753) (a := 2147483649) (by decide +kernel) (by decide) (by decide) ?_
              refine x_iadd (np := 32) (x := 0) (v := (2147484801 + 2 * u455)) (by decide +kernel) (by first | decide | omega) (by decide) (by first | decide | omega) (by first | decide | omega) ?_
              refine x_iload (np := 33) (x := 2) (by decide +kernel) rfl (by decide) ?_
              refine x_ast (np := 34) (x := 0) (kd := 1) (n := 1952) (i := (1153 + 2 * u455)) (by decide +kernel) (Or.inl rfl) (by decide +kernel) (by first | decide | omega) (by first | decide | omega) (by decide) (by decide) (fun z => absurd z (by decide)) ?_
              have j467 := jU (e := (1153 + 2 * u455)) (v := 2147483648) u455 j459 rg_76_1153_2_395 (by first | decide | omega) (by first | decide | omega) (by first | decide | omega)
              have f469 := jF (e := (1153 + 2 * u455)) (v := 2147483648) u455 f461 rg_76_1153_2_395 (by first | decide | omega) (by first | decide | omega) (by decide)
              generalize e468 : x_up h458 76 (1153 + 2 * u455) 2147483648 = h466 at j467 f469 ⊢
              refine x_aload (np := 35) (x := 0) (by decide +kernel) rfl (x_nc_le (by decide)) ?_
              refine x_dup (np := 36) (x := 0) (by decide +kernel) (by have z := x_nc_le (k := 75) (by decide); unfold x_r; omega) ?_
              have q470 : h466 75 13 = h458 75 13 := by rw [← e468]; exact x_up_k (by decide)
              have q471 : h458 75 13 = h425 75 13 := by rw [← e460]; exact x_up_k (by decide)
              refine x_getC (np := 39) (x := 717) (f := 13) (q := (h425 75 13)) (by decide +kernel) (by decide) (by decide +kernel) (q470.trans q471) (fun l472 => ?_)
              refine x_const (np := 40) (x := 9223372043297226753) (a := 2147483649) (by decide +kernel) (by decide) (by decide) ?_
              refine x_iadd (np := 41) (x := 0) (v := (1 + (h425 75 13))) (by decide +kernel) l454 (by decide) (by first | decide | omega) (by first | decide | omega) ?_
              refine x_putI (np := 44) (x := 717) (f := 13) (by decide +kernel) (by decide +kernel) (by first | decide | omega) (Or.inl (by decide)) ?_
              have j474 := jU (e := 13) (v := (1 + (h425 75 13))) 0 j467 rg_75_13_0_1 (by first | decide | omega) (by first | decide | omega) (by first | decide | omega)
              have f476 := jF (e := 13) (v := (1 + (h425 75 13))) 0 f469 rg_75_13_0_1 (by first | decide | omega) (by first | decide | omega) (by decide)
              generalize e475 : x_up h466 75 13 (1 + (h425 75 13)) = h473 at j474 f476 ⊢
              refine x_retV (np := 45) (x := 0) (by decide +kernel) (by decide +kernel) ⟨rfl, ?_⟩
              have q477 : h473 75 13 = (1 + (h425 75 13)) := by rw [← e475]; exact x_up_at
              refine x_const (np := 207) (x := 9223372043297226753) (a := 2147483649) (by decide +kernel) (by decide) (by decide) ?_
              have q478 : h473 75 13 = (1 + (h425 75 13)) := by rw [← e475]; exact x_up_at
              have q479 : h473 75 7 = h466 75 7 := by rw [← e475]; exact x_up_i (by first | decide | omega)
              have q480 : h466 75 7 = h458 75 7 := by rw [← e468]; exact x_up_k (by decide)
              have q481 : h458 75 7 = h425 75 7 := by rw [← e460]; exact x_up_k (by decide)
              have q482 : h473 75 10 = h466 75 10 := by rw [← e475]; exact x_up_i (by first | decide | omega)
              have q483 : h466 75 10 = h458 75 10 := by rw [← e468]; exact x_up_k (by decide)
              have q484 : h458 75 10 = h425 75 10 := by rw [← e460]; exact x_up_k (by decide)
              have q485 : h425 75 10 = h358 75 10 := jK 0 f427 rg_75_10_0_1 (by first | decide | omega) (by first | decide | omega) (by decide)
              have q486 : h358 75 10 = h183 75 10 := jK 0 f360 rg_75_10_0_1 (by first | decide | omega) (by first | decide | omega) (by decide)
              have q487 : h183 75 10 = h147 75 10 := jK 0 f185 rg_75_10_0_1 (by first | decide | omega) (by first | decide | omega) (by decide)
              have q488 : h147 75 10 = h127 75 10 := jK 0 f149 rg_75_10_0_1 (by first | decide | omega) (by first | decide | omega) (by decide)
              have q489 : h127 75 10 = h39 75 10 := jK 0 f129 rg_75_10_0_1 (by first | decide | omega) (by first | decide | omega) (by decide)
              have q490 : h39 75 10 = h23 75 10 := jK 0 f41 rg_75_10_0_1 (by first | decide | omega) (by first | decide | omega) (by decide)
              have q491 : h23 75 10 = h7 75 10 := jK 0 f25 rg_75_10_0_1 (by first | decide | omega) (by first | decide | omega) (by decide)
              have q492 : h7 75 10 = h 75 10 := jK 0 f9 rg_75_10_0_1 (by first | decide | omega) (by first | decide | omega) (by decide)
              have q493 : h473 75 7 = h466 75 7 := by rw [← e475]; exact x_up_i (by first | decide | omega)
              have q494 : h466 75 7 = h458 75 7 := by rw [← e468]; exact x_up_k (by decide)
              have q495 : h458 75 7 = h425 75 7 := by rw [← e460]; exact x_up_k (by decide)
              have q496 : h473 75 13 = (1 + (h425 75 13)) := by rw [← e475]; exact x_up_at
              have k507 : Kp h h7 (h 75 13 - 2147483648) := Kp.fr Kp.refl f9 (by first | decide | omega) (by decide)
              have k506 : Kp h h23 (h 75 13 - 2147483648) := Kp.fr k507 f25 (by first | decide | omega) (by decide)
              have k505 : Kp h h39 (h 75 13 - 2147483648) := Kp.fr k506 f41 (by first | decide | omega) (by decide)
              have k504 : Kp h h127 (h 75 13 - 2147483648) := Kp.fr k505 f129 (by first | decide | omega) (by decide)
              have q508 : h127 75 13 = h39 75 13 := jK 0 f129 rg_75_13_0_1 (by first | decide | omega) (by first | decide | omega) (by decide)
              have q509 : h39 75 13 = h23 75 13 := jK 0 f41 rg_75_13_0_1 (by first | decide | omega) (by first | decide | omega) (by decide)
              have q510 : h23 75 13 = h7 75 13 := jK 0 f25 rg_75_13_0_1 (by first | decide | omega) (by first | decide | omega) (by decide)
              have q511 : h7 75 13 = h 75 13 := jK 0 f9 rg_75_13_0_1 (by first | decide | omega) (by first | decide | omega) (by decide)
              have k503 : Kp h h147 (h 75 13 - 2147483648) := Kp.trans k504 c154 (by first | decide | omega)
              have k502 : Kp h h183 (h 75 13 - 2147483648) := Kp.fr k503 f185 (by first | decide | omega) (by decide)
              have k501 : Kp h h358 (h 75 13 - 2147483648) := Kp.fr k502 f360 (by first | decide | omega) (by decide)
              have q512 : h358 75 13 = h183 75 13 := jK 0 f360 rg_75_13_0_1 (by first | decide | omega) (by first | decide | omega) (by decide)
              have q513 : h183 75 13 = h147 75 13 := jK 0 f185 rg_75_13_0_1 (by first | decide | omega) (by first | decide | omega) (by decide)
              have k500 : Kp h h425 (h 75 13 - 2147483648) := Kp.trans k501 c432 (by first | decide | omega)
              have k499 : Kp h h458 (h 75 13 - 2147483648) := by rw [← e460]; exact Kp.up k500 (by first | decide | omega) (fun i hi => by first | decide | omega)
              have k498 : Kp h h466 (h 75 13 - 2147483648) := by rw [← e468]; exact Kp.up k499 (by first | decide | omega) (fun i hi => by first | decide | omega)
              have k497 : Kp h h473 (h 75 13 - 2147483648) := by rw [← e475]; exact Kp.oth k498 (by decide)
              have q514 : h473 75 13 = (1 + (h425 75 13)) := by rw [← e475]; exact x_up_at
              have q516 : h473 76 (1152 + 2 * u455) = h466 76 (1152 + 2 * u455) := by rw [← e475]; exact x_up_k (by decide)
              have q517 : h466 76 (1152 + 2 * u455) = h458 76 (1152 + 2 * u455) := by rw [← e468]; exact x_up_i (by first | decide | omega)
              have q518 : h458 76 (1152 + 2 * u455) = 2147483659 := by rw [← e460]; exact x_up_at
              have k524 : Kp h147 h183 (h147 75 13 - 2147483648) := Kp.fr Kp.refl f185 (by first | decide | omega) (by decide)
              have k523 : Kp h147 h358 (h147 75 13 - 2147483648) := Kp.fr k524 f360 (by first | decide | omega) (by decide)
              have q525 : h358 75 13 = h183 75 13 := jK 0 f360 rg_75_13_0_1 (by first | decide | omega) (by first | decide | omega) (by decide)
              have q526 : h183 75 13 = h147 75 13 := jK 0 f185 rg_75_13_0_1 (by first | decide | omega) (by first | decide | omega) (by decide)
              have k522 : Kp h147 h425 (h147 75 13 - 2147483648) := Kp.trans k523 c432 (by first | decide | omega)
              have k521 : Kp h147 h458 (h147 75 13 - 2147483648) := by rw [← e460]; exact Kp.up k522 (by first | decide | omega) (fun i hi => by first | decide | omega)
              have k520 : Kp h147 h466 (h147 75 13 - 2147483648) := by rw [← e468]; exact Kp.up k521 (by first | decide | omega) (fun i hi => by first | decide | omega)
              have k519 : Kp h147 h473 (h147 75 13 - 2147483648) := by rw [← e475]; exact Kp.oth k520 (by decide)
              have k529 : Kp h425 h458 (h425 75 13 - 2147483648) := by rw [← e460]; exact Kp.up Kp.refl (by first | decide | omega) (fun i hi => by first | decide | omega)
              have k528 : Kp h425 h466 (h425 75 13 - 2147483648) := by rw [← e468]; exact Kp.up k529 (by first | decide | omega) (fun i hi => by first | decide | omega)
              have k527 : Kp h425 h473 (h425 75 13 - 2147483648) := by rw [← e475]; exact Kp.oth k528 (by decide)
              have s515 : Seg (sg h473) (h127 75 13 - 2147483648) (u455 + 1) := Seg.bin (Seg.kp s174 k519) (Seg.cast (a' := (h147 75 13 - 2147483648)) (b' := u455) (Seg.kp s448 k527) (by first | decide | omega) (by first | decide | omega)) (show 2147483656 < h473 76 (1152 + 2 * u455) by first | decide | omega) (show h473 76 (1152 + 2 * u455) ≠ 2147483660 by first | decide | omega)
              have s530 : Seg (sg h473) (h 75 13 - 2147483648) (h473 75 13 - 2147483648) := Seg.cast (Seg.kp s515 Kp.refl) (by first | decide | omega) (by first | decide | omega)
              obtain ⟨w531, e532⟩ := Tk.no c13 (by first | decide | omega)
              obtain ⟨w533, e534⟩ := Tk.no c29 (by first | decide | omega)
              obtain ⟨w535, e536⟩ := Tk.no c45 (by first | decide | omega)
              obtain ⟨w537, e538⟩ := Tk.no c133 (by first | decide | omega)
              have w539 : An tB tN (sk tB tN (h 75 7)) := gA_an w533 e532 w531 rfl w535 (Eq.trans e534 e532) w537 (Eq.trans e536 (Eq.trans e534 e532))
              obtain ⟨w540, e541⟩ := Tk.no c189 (by first | decide | omega)
              obtain ⟨w542, e543⟩ := Tk.yes c364 (by first | decide | omega)
              have q544 : h473 75 7 = h466 75 7 := by rw [← e475]; exact x_up_i (by first | decide | omega)
              have q545 : h466 75 7 = h458 75 7 := by rw [← e468]; exact x_up_k (by decide)
              have q546 : h458 75 7 = h425 75 7 := by rw [← e460]; exact x_up_k (by decide)
              refine x_retI (np := 208) (x := 0) (by decide +kernel) (by decide) (Or.inr ⟨by decide +kernel, by first | decide | omega, by first | decide | omega⟩) ⟨_, rfl, (by decide), ?_⟩
              exact ⟨j474, f476, (by first | decide | omega), (fun z => by first | decide | omega), (fun z => by first | decide | omega), (fun z => by first | decide | omega), (fun z => by first | decide | omega), k497, (fun _ => s530), (gA_c2 w539 (c156 0) (Eq.trans e538 (Eq.trans e536 (Eq.trans e534 e532))) (by first | decide | omega) (Or.inr w542) (Eq.trans rfl (Eq.trans e541 rfl)) e543 (c434 0) rfl (by first | decide | omega) (fun z => (congrArg (sk tB tN) (show h425 75 7 = h473 75 7 by first | decide | omega)))), (fun z => absurd z (by first | decide | omega))⟩
            have q452 : ¬ (v179 = 2147483648) := q452
            exfalso; omega
          have q444 : ¬ (v421 ≠ 2147483648) := q444
          refine x_const (np := 189) (x := 9223372039002259456) (a := 2147483648) (by decide +kernel) (by decide) (by decide) ?_
          have q547 : h425 75 10 = h358 75 10 := jK 0 f427 rg_75_10_0_1 (by first | decide | omega) (by first | decide | omega) (by decide)
          have q548 : h358 75 10 = h183 75 10 := jK 0 f360 rg_75_10_0_1 (by first | decide | omega) (by first | decide | omega) (by decide)
          have q549 : h183 75 10 = h147 75 10 := jK 0 f185 rg_75_10_0_1 (by first | decide | omega) (by first | decide | omega) (by decide)
          have q550 : h147 75 10 = h127 75 10 := jK 0 f149 rg_75_10_0_1 (by first | decide | omega) (by first | decide | omega) (by decide)
          have q551 : h127 75 10 = h39 75 10 := jK 0 f129 rg_75_10_0_1 (by first | decide | omega) (by first | decide | omega) (by decide)
          have q552 : h39 75 10 = h23 75 10 := jK 0 f41 rg_75_10_0_1 (by first | decide | omega) (by first | decide | omega) (by decide)
          have q553 : h23 75 10 = h7 75 10 := jK 0 f25 rg_75_10_0_1 (by first | decide | omega) (by first | decide | omega) (by decide)
          have q554 : h7 75 10 = h 75 10 := jK 0 f9 rg_75_10_0_1 (by first | decide | omega) (by first | decide | omega) (by decide)
          have k562 : Kp h h7 (h 75 13 - 2147483648) := Kp.fr Kp.refl f9 (by first | decide | omega) (by decide)
          have k561 : Kp h h23 (h 75 13 - 2147483648) := Kp.fr k562 f25 (by first | decide | omega) (by decide)
          have k560 : Kp h h39 (h 75 13 - 2147483648) := Kp.fr k561 f41 (by first | decide | omega) (by decide)
          have k559 : Kp h h127 (h 75 13 - 2147483648) := Kp.fr k560 f129 (by first | decide | omega) (by decide)
          have q563 : h127 75 13 = h39 75 13 := jK 0 f129 rg_75_13_0_1 (by first | decide | omega) (by first | decide | omega) (by decide)
          have q564 : h39 75 13 = h23 75 13 := jK 0 f41 rg_75_13_0_1 (by first | decide | omega) (by first | decide | omega) (by decide)
          have q565 : h23 75 13 = h7 75 13 := jK 0 f25 rg_75_13_0_1 (by first | decide | omega) (by first | decide | omega) (by decide)
          have q566 : h7 75 13 = h 75 13 := jK 0 f9 rg_75_13_0_1 (by first | decide | omega) (by first | decide | omega) (by decide)
          have k558 : Kp h h147 (h 75 13 - 2147483648) := Kp.trans k559 c154 (by first | decide | omega)
          have k557 : Kp h h183 (h 75 13 - 2147483648) := Kp.fr k558 f185 (by first | decide | omega) (by decide)
          have k556 : Kp h h358 (h 75 13 - 2147483648) := Kp.fr k557 f360 (by first | decide | omega) (by decide)
          have q567 : h358 75 13 = h183 75 13 := jK 0 f360 rg_75_13_0_1 (by first | decide | omega) (by first | decide | omega) (by decide)
          have q568 : h183 75 13 = h147 75 13 := jK 0 f185 rg_75_13_0_1 (by first | decide | omega) (by first | decide | omega) (by decide)
          have k555 : Kp h h425 (h 75 13 - 2147483648) := Kp.trans k556 c432 (by first | decide | omega)
          obtain ⟨w569, e570⟩ := Tk.no c13 (by first | decide | omega)
          obtain ⟨w571, e572⟩ := Tk.no c29 (by first | decide | omega)
          obtain ⟨w573, e574⟩ := Tk.no c45 (by first | decide | omega)
          obtain ⟨w575, e576⟩ := Tk.no c133 (by first | decide | omega)
          have w577 : An tB tN (sk tB tN (h 75 7)) := gA_an w571 e570 w569 rfl w573 (Eq.trans e572 e570) w575 (Eq.trans e574 (Eq.trans e572 e570))
          obtain ⟨w578, e579⟩ := Tk.no c189 (by first | decide | omega)
          obtain ⟨w580, e581⟩ := Tk.yes c364 (by first | decide | omega)
          obtain ⟨w582, e583⟩ := Tk.no c13 (by first | decide | omega)
          obtain ⟨w584, e585⟩ := Tk.no c29 (by first | decide | omega)
          obtain ⟨w586, e587⟩ := Tk.no c45 (by first | decide | omega)
          obtain ⟨w588, e589⟩ := Tk.no c133 (by first | decide | omega)
          have w590 : An tB tN (sk tB tN (h 75 7)) := gA_an w584 e583 w582 rfl w586 (Eq.trans e585 e583) w588 (Eq.trans e587 (Eq.trans e585 e583))
          obtain ⟨w591, e592⟩ := Tk.no c189 (by first | decide | omega)
          obtain ⟨w593, e594⟩ := Tk.yes c364 (by first | decide | omega)
          refine x_retI (np := 190) (x := 0) (by decide +kernel) (by decide) (Or.inr ⟨by decide +kernel, by first | decide | omega, by first | decide | omega⟩) ⟨_, rfl, (by decide), ?_⟩
          exact ⟨j426, f436, (by first | decide | omega), (fun z => by first | decide | omega), (fun z => by first | decide | omega), (fun z => by first | decide | omega), (fun z => by first | decide | omega), k555, (fun z => absurd z (by first | decide | omega)), (gA_c2 w577 (c156 0) (Eq.trans e576 (Eq.trans e574 (Eq.trans e572 e570))) (by first | decide | omega) (Or.inr w580) (Eq.trans rfl (Eq.trans e579 rfl)) e581 (c434 0) rfl (by first | decide | omega) (fun z => absurd z (by first | decide | omega))), (fun _ => fA_c2 w590 (c156 0) (Eq.trans e589 (Eq.trans e587 (Eq.trans e585 e583))) (by first | decide | omega) (Or.inr w593) (Eq.trans rfl (Eq.trans e592 rfl)) e594 (c435 (by first | decide | omega) 0) rfl rfl)⟩
        have q170 : ¬ (v143 ≠ 2147483648) := q170
        refine x_const (np := 160) (x := 9223372039002259456) (a := 2147483648) (by decide +kernel) (by decide) (by decide) ?_
        have q595 : h147 75 10 = h127 75 10 := jK 0 f149 rg_75_10_0_1 (by first | decide | omega) (by first | decide | omega) (by decide)
        have q596 : h127 75 10 = h39 75 10 := jK 0 f129 rg_75_10_0_1 (by first | decide | omega) (by first | decide | omega) (by decide)
        have q597 : h39 75 10 = h23 75 10 := jK 0 f41 rg_75_10_0_1 (by first | decide | omega) (by first | decide | omega) (by decide)
        have q598 : h23 75 10 = h7 75 10 := jK 0 f25 rg_75_10_0_1 (by first | decide | omega) (by first | decide | omega) (by decide)
        have q599 : h7 75 10 = h 75 10 := jK 0 f9 rg_75_10_0_1 (by first | decide | omega) (by first | decide | omega) (by decide)
        have k604 : Kp h h7 (h 75 13 - 2147483648) := Kp.fr Kp.refl f9 (by first | decide | omega) (by decide)
        have k603 : Kp h h23 (h 75 13 - 2147483648) := Kp.fr k604 f25 (by first | decide | omega) (by decide)
        have k602 : Kp h h39 (h 75 13 - 2147483648) := Kp.fr k603 f41 (by first | decide | omega) (by decide)
        have k601 : Kp h h127 (h 75 13 - 2147483648) := Kp.fr k602 f129 (by first | decide | omega) (by decide)
        have q605 : h127 75 13 = h39 75 13 := jK 0 f129 rg_75_13_0_1 (by first | decide | omega) (by first | decide | omega) (by decide)
        have q606 : h39 75 13 = h23 75 13 := jK 0 f41 rg_75_13_0_1 (by first | decide | omega) (by first | decide | omega) (by decide)
        have q607 : h23 75 13 = h7 75 13 := jK 0 f25 rg_75_13_0_1 (by first | decide | omega) (by first | decide | omega) (by decide)
        have q608 : h7 75 13 = h 75 13 := jK 0 f9 rg_75_13_0_1 (by first | decide | omega) (by first | decide | omega) (by decide)
        have k600 : Kp h h147 (h 75 13 - 2147483648) := Kp.trans k601 c154 (by first | decide | omega)
        obtain ⟨w609, e610⟩ := Tk.no c13 (by first | decide | omega)
        obtain ⟨w611, e612⟩ := Tk.no c29 (by first | decide | omega)
        obtain ⟨w613, e614⟩ := Tk.no c45 (by first | decide | omega)
        obtain ⟨w615, e616⟩ := Tk.no c133 (by first | decide | omega)
        have w617 : An tB tN (sk tB tN (h 75 7)) := gA_an w611 e610 w609 rfl w613 (Eq.trans e612 e610) w615 (Eq.trans e614 (Eq.trans e612 e610))
        obtain ⟨w618, e619⟩ := Tk.no c13 (by first | decide | omega)
        obtain ⟨w620, e621⟩ := Tk.no c29 (by first | decide | omega)
        obtain ⟨w622, e623⟩ := Tk.no c45 (by first | decide | omega)
        obtain ⟨w624, e625⟩ := Tk.no c133 (by first | decide | omega)
        have w626 : An tB tN (sk tB tN (h 75 7)) := gA_an w620 e619 w618 rfl w622 (Eq.trans e621 e619) w624 (Eq.trans e623 (Eq.trans e621 e619))
        refine x_retI (np := 161) (x := 0) (by decide +kernel) (by decide) (Or.inr ⟨by decide +kernel, by first | decide | omega, by first | decide | omega⟩) ⟨_, rfl, (by decide), ?_⟩
        exact ⟨j148, f158, (by first | decide | omega), (fun z => by first | decide | omega), (fun z => by first | decide | omega), (fun z => by first | decide | omega), (fun z => by first | decide | omega), k600, (fun z => absurd z (by first | decide | omega)), (gA_c0 w617 (c156 0) (Eq.trans e616 (Eq.trans e614 (Eq.trans e612 e610))) (by first | decide | omega) (by first | decide | omega)), (fun _ => fA_c0 w626 (c157 (by first | decide | omega) 0) (Eq.trans e625 (Eq.trans e623 (Eq.trans e621 e619))) rfl)⟩
      have q138 : ¬ (v123 = 2147483648) := q138
      have b627 := c132 (by first | decide | omega)
      refine x_aload (np := 135) (x := 0) (by decide +kernel) rfl (x_nc_le (by decide)) ?_
      refine x_iload (np := 136) (x := 1) (by decide +kernel) rfl l36 ?_
      refine x_ifz (k := 0) (tg := 144) (np := 139) (by decide +kernel) (by decide) l36 (fun q628 => ?_) (fun q629 => ?_)
      · have q628 : v35 = 2147483648 := q628
        refine x_const (np := 146) (x := 9223372069067030535) (a := 2147483655) (by decide +kernel) (by decide) (by decide) ?_
        refine x_const (np := 147) (x := 9223372039002259456) (a := 2147483648) (by decide +kernel) (by decide) (by decide) ?_
        refine x_nV (t := 6) (mj := 187) (n := 3) (rc := 12) (ml := 3) (nr := 0) (np := 150) (as := [x_r 75, iv_c 2147483655, iv_c 2147483648]) (rest := []) (lo1 := [x_r 75, iv_c 2147483655, iv_c 2147483648]) (by decide +kernel) (by decide) (by decide +kernel) (x_rb_of (by decide +kernel)) rfl rfl (x_wr (by decide) (x_wi (by decide) (x_wi (by decide) x_wn))) x_wn (by decide) rfl ?_
        refine x_aload (np := 1) (x := 0) (by decide +kernel) rfl (x_nc_le (by decide)) ?_
        have q630 : h127 75 1 = 76 := by have z := jB (e := 1) 0 j128 rg_75_1_0_1 (by decide) (by decide); omega
        refine x_getR (np := 4) (x := 705) (f := 1) (q := 76) (by decide +kernel) (by decide) (by decide +kernel) q630 ?_
        refine x_const (np := 7) (x := 9223376986804585600) (a := 2147484800) (by decide +kernel) (by decide) (by decide) ?_
        refine x_const (np := 8) (x := 9223372047592194050) (a := 2147483650) (by decide +kernel) (by decide) (by decide) ?_
        refine x_aload (np := 9) (x := 0) (by decide +kernel) rfl (x_nc_le (by decide)) ?_
        have q631 : h127 75 13 = h39 75 13 := jK 0 f129 rg_75_13_0_1 (by first | decide | omega) (by first | decide | omega) (by decide)
        have q632 : h39 75 13 = h23 75 13 := jK 0 f41 rg_75_13_0_1 (by first | decide | omega) (by first | decide | omega) (by decide)
        have q633 : h23 75 13 = h7 75 13 := jK 0 f25 rg_75_13_0_1 (by first | decide | omega) (by first | decide | omega) (by decide)
        have q634 : h7 75 13 = h 75 13 := jK 0 f9 rg_75_13_0_1 (by first | decide | omega) (by first | decide | omega) (by decide)
        refine x_getC (np := 12) (x := 717) (f := 13) (q := (h 75 13)) (by decide +kernel) (by decide) (by decide +kernel) (((q631.trans q632).trans q633).trans q634) (fun l635 => ?_)
        obtain ⟨u636, q637⟩ : ∃ z, (h 75 13) = 2147483648 + z := ⟨(h 75 13) - 2147483648, by first | decide | omega⟩
        refine x_imul (np := 13) (x := 0) (i := 2) (j := u636) (v := (2147483648 + 2 * u636)) (by decide +kernel) (by first | decide | omega) (by first | decide | omega) (by first | decide | omega) (by first | decide | omega) (by decide) l635 ?_
        refine x_iadd (np := 14) (x := 0) (v := (2147484800 + 2 * u636)) (by decide +kernel) (by decide) (by first | decide | omega) (by first | decide | omega) (by first | decide | omega) ?_
        refine x_iload (np := 15) (x := 1) (by decide +kernel) rfl (by decide) ?_
        refine x_ast (np := 16) (x := 0) (kd := 1) (n := 1952) (i := (1152 + 2 * u636)) (by decide +kernel) (Or.inl rfl) (by decide +kernel) (by first | decide | omega) (by first | decide | omega) (by decide) (by decide) (fun z => absurd z (by decide)) ?_
        have j640 := jU (e := (1152 + 2 * u636)) (v := 2147483655) u636 j128 rg_76_1152_2_394 (by first | decide | omega) (by first | decide | omega) (by first | decide | omega)
        have f642 := jF (e := (1152 + 2 * u636)) (v := 2147483655) u636 f135 rg_76_1152_2_394 (by first | decide | omega) (by first | decide | omega) (by decide)
        generalize e641 : x_up h127 76 (1152 + 2 * u636) 2147483655 = h639 at j640 f642 ⊢
        refine x_aload (np := 17) (x := 0) (by decide +kernel) rfl (x_nc_le (by decide)) ?_
        have q643 : h639 75 1 = 76 := by have z := jB (e := 1) 0 j640 rg_75_1_0_1 (by decide) (by decide); omega
        refine x_getR (np := 20) (x := 705) (f := 1) (q := 76) (by decide +kernel) (by decide) (by decide +kernel) q643 ?_
        refine x_const (np := 23) (x := 9223376986804585600) (a := 2147484800) (by decide +kernel) (by decide) (by decide) ?_
        refine x_const (np := 24) (x := 9223372047592194050) (a := 2147483650) (by decide +kernel) (by decide) (by decide) ?_
        refine x_aload (np := 25) (x := 0) (by decide +kernel) rfl (x_nc_le (by decide)) ?_
        have q644 : h639 75 13 = h127 75 13 := by rw [← e641]; exact x_up_k (by decide)
        have q645 : h127 75 13 = h39 75 13 := jK 0 f129 rg_75_13_0_1 (by first | decide | omega) (by first | decide | omega) (by decide)
        have q646 : h39 75 13 = h23 75 13 := jK 0 f41 rg_75_13_0_1 (by first | decide | omega) (by first | decide | omega) (by decide)
        have q647 : h23 75 13 = h7 75 13 := jK 0 f25 rg_75_13_0_1 (by first | decide | omega) (by first | decide | omega) (by decide)
        have q648 : h7 75 13 = h 75 13 := jK 0 f9 rg_75_13_0_1 (by first | decide | omega) (by first | decide | omega) (by decide)
        refine x_getC (np := 28) (x := 717) (f := 13) (q := (h 75 13)) (by decide +kernel) (by decide) (by decide +kernel) ((((q644.trans q645).trans q646).trans q647).trans q648) (fun l649 => ?_)
        refine x_imul (np := 29) (x := 0) (i := 2) (j := u636) (v := (2147483648 + 2 * u636)) (by decide +kernel) (by first | decide | omega) (by first | decide | omega) (by first | decide | omega) (by first | decide | omega) (by decide) l635 ?_
        refine x_iadd (np := 30) (x := 0) (v := (2147484800 + 2 * u636)) (by decide +kernel) (by decide) (by first | decide | omega) (by first | decide | omega) (by first | decide | omega) ?_
        refine x_const (np := 31) (x := 9223372043297226753) (a := 2147483649) (by decide +kernel) (by decide) (by decide) ?_
        refine x_iadd (np := 32) (x := 0) (v := (2147484801 + 2 * u636)) (by decide +kernel) (by first | decide | omega) (by decide) (by first | decide | omega) (by first | decide | omega) ?_
        refine x_iload (np := 33) (x := 2) (by decide +kernel) rfl (by decide) ?_
        refine x_ast (np := 34) (x := 0) (kd := 1) (n := 1952) (i := (1153 + 2 * u636)) (by decide +kernel) (Or.inl rfl) (by decide +kernel) (by first | decide | omega) (by first | decide | omega) (by decide) (by decide) (fun z => absurd z (by decide)) ?_
        have j652 := jU (e := (1153 + 2 * u636)) (v := 2147483648) u636 j640 rg_76_1153_2_394 (by first | decide | omega) (by first | decide | omega) (by first | decide | omega)
        have f654 := jF (e := (1153 + 2 * u636)) (v := 2147483648) u636 f642 rg_76_1153_2_394 (by first | decide | omega) (by first | decide | omega) (by decide)
        generalize e653 : x_up h639 76 (1153 + 2 * u636) 2147483648 = h651 at j652 f654 ⊢
        refine x_aload (np := 35) (x := 0) (by decide +kernel) rfl (x_nc_le (by decide)) ?_
        refine x_dup (np := 36) (x := 0) (by decide +kernel) (by have z := x_nc_le (k := 75) (by decide); unfold x_r; omega) ?_
        have q655 : h651 75 13 = h639 75 13 := by rw [← e653]; exact x_up_k (by decide)
        have q656 : h639 75 13 = h127 75 13 := by rw [← e641]; exact x_up_k (by decide)
        have q657 : h127 75 13 = h39 75 13 := jK 0 f129 rg_75_13_0_1 (by first | decide | omega) (by first | decide | omega) (by decide)
        have q658 : h39 75 13 = h23 75 13 := jK 0 f41 rg_75_13_0_1 (by first | decide | omega) (by first | decide | omega) (by decide)
        have q659 : h23 75 13 = h7 75 13 := jK 0 f25 rg_75_13_0_1 (by first | decide | omega) (by first | decide | omega) (by decide)
        have q660 : h7 75 13 = h 75 13 := jK 0 f9 rg_75_13_0_1 (by first | decide | omega) (by first | decide | omega) (by decide)
        refine x_getC (np := 39) (x := 717) (f := 13) (q := (h 75 13)) (by decide +kernel) (by decide) (by decide +kernel) (((((q655.trans q656).trans q657).trans q658).trans q659).trans q660) (fun l661 => ?_)
        refine x_const (np := 40) (x := 9223372043297226753) (a := 2147483649) (by decide +kernel) (by decide) (by decide) ?_
        refine x_iadd (np := 41) (x := 0) (v := (1 + (h 75 13))) (by decide +kernel) l635 (by decide) (by first | decide | omega) (by first | decide | omega) ?_
        refine x_putI (np := 44) (x := 717) (f := 13) (by decide +kernel) (by decide +kernel) (by first | decide | omega) (Or.inl (by decide)) ?_
        have j663 := jU (e := 13) (v := (1 + (h 75 13))) 0 j652 rg_75_13_0_1 (by first | decide | omega) (by first | decide | omega) (by first | decide | omega)
        have f665 := jF (e := 13) (v := (1 + (h 75 13))) 0 f654 rg_75_13_0_1 (by first | decide | omega) (by first | decide | omega) (by decide)
        generalize e664 : x_up h651 75 13 (1 + (h 75 13)) = h662 at j663 f665 ⊢
        refine x_retV (np := 45) (x := 0) (by decide +kernel) (by decide +kernel) ⟨rfl, ?_⟩
        have q666 : h662 75 13 = (1 + (h 75 13)) := by rw [← e664]; exact x_up_at
        refine x_const (np := 151) (x := 9223372043297226753) (a := 2147483649) (by decide +kernel) (by decide) (by decide) ?_
        have q667 : h662 75 13 = (1 + (h 75 13)) := by rw [← e664]; exact x_up_at
        have q668 : h662 75 7 = h651 75 7 := by rw [← e664]; exact x_up_i (by first | decide | omega)
        have q669 : h651 75 7 = h639 75 7 := by rw [← e653]; exact x_up_k (by decide)
        have q670 : h639 75 7 = h127 75 7 := by rw [← e641]; exact x_up_k (by decide)
        have q671 : h662 75 10 = h651 75 10 := by rw [← e664]; exact x_up_i (by first | decide | omega)
        have q672 : h651 75 10 = h639 75 10 := by rw [← e653]; exact x_up_k (by decide)
        have q673 : h639 75 10 = h127 75 10 := by rw [← e641]; exact x_up_k (by decide)
        have q674 : h127 75 10 = h39 75 10 := jK 0 f129 rg_75_10_0_1 (by first | decide | omega) (by first | decide | omega) (by decide)
        have q675 : h39 75 10 = h23 75 10 := jK 0 f41 rg_75_10_0_1 (by first | decide | omega) (by first | decide | omega) (by decide)
        have q676 : h23 75 10 = h7 75 10 := jK 0 f25 rg_75_10_0_1 (by first | decide | omega) (by first | decide | omega) (by decide)
        have q677 : h7 75 10 = h 75 10 := jK 0 f9 rg_75_10_0_1 (by first | decide | omega) (by first | decide | omega) (by decide)
        have q678 : h662 75 7 = h651 75 7 := by rw [← e664]; exact x_up_i (by first | decide | omega)
        have q679 : h651 75 7 = h639 75 7 := by rw [← e653]; exact x_up_k (by decide)
        have q680 : h639 75 7 = h127 75 7 := by rw [← e641]; exact x_up_k (by decide)
        have q681 : h662 75 13 = (1 + (h 75 13)) := by rw [← e664]; exact x_up_at
        have k688 : Kp h h7 (h 75 13 - 2147483648) := Kp.fr Kp.refl f9 (by first | decide | omega) (by decide)
        have k687 : Kp h h23 (h 75 13 - 2147483648) := Kp.fr k688 f25 (by first | decide | omega) (by decide)
        have k686 : Kp h h39 (h 75 13 - 2147483648) := Kp.fr k687 f41 (by first | decide | omega) (by decide)
        have k685 : Kp h h127 (h 75 13 - 2147483648) := Kp.fr k686 f129 (by first | decide | omega) (by decide)
        have k684 : Kp h h639 (h 75 13 - 2147483648) := by rw [← e641]; exact Kp.up k685 (by first | decide | omega) (fun i hi => by first | decide | omega)
        have k683 : Kp h h651 (h 75 13 - 2147483648) := by rw [← e653]; exact Kp.up k684 (by first | decide | omega) (fun i hi => by first | decide | omega)
        have k682 : Kp h h662 (h 75 13 - 2147483648) := by rw [← e664]; exact Kp.oth k683 (by decide)
        have q689 : h662 75 13 = (1 + (h 75 13)) := by rw [← e664]; exact x_up_at
        have q691 : h662 76 (1152 + 2 * u636) = h651 76 (1152 + 2 * u636) := by rw [← e664]; exact x_up_k (by decide)
        have q692 : h651 76 (1152 + 2 * u636) = h639 76 (1152 + 2 * u636) := by rw [← e653]; exact x_up_i (by first | decide | omega)
        have q693 : h639 76 (1152 + 2 * u636) = 2147483655 := by rw [← e641]; exact x_up_at
        have s690 : Seg (sg h662) u636 (u636 + 1) := Seg.push (show 2147483648 ≤ h662 76 (1152 + 2 * u636) by first | decide | omega) (show h662 76 (1152 + 2 * u636) ≤ 2147483656 by first | decide | omega)
        have s694 : Seg (sg h662) (h 75 13 - 2147483648) (h662 75 13 - 2147483648) := Seg.cast (Seg.kp s690 Kp.refl) (by first | decide | omega) (by first | decide | omega)
        obtain ⟨w695, e696⟩ := Tk.no c13 (by first | decide | omega)
        obtain ⟨w697, e698⟩ := Tk.no c29 (by first | decide | omega)
        obtain ⟨w699, e700⟩ := Tk.no c45 (by first | decide | omega)
        obtain ⟨w701, e702⟩ := Tk.yes c133 (by first | decide | omega)
        have q703 : h662 75 7 = h651 75 7 := by rw [← e664]; exact x_up_i (by first | decide | omega)
        have q704 : h651 75 7 = h639 75 7 := by rw [← e653]; exact x_up_k (by decide)
        have q705 : h639 75 7 = h127 75 7 := by rw [← e641]; exact x_up_k (by decide)
        refine x_retI (np := 152) (x := 0) (by decide +kernel) (by decide) (Or.inr ⟨by decide +kernel, by first | decide | omega, by first | decide | omega⟩) ⟨_, rfl, (by decide), ?_⟩
        exact ⟨j663, f665, (by first | decide | omega), (fun z => by first | decide | omega), (fun z => by first | decide | omega), (fun z => by first | decide | omega), (fun z => by first | decide | omega), k682, (fun _ => s694), (gA_mine w701 (Eq.trans e700 (Eq.trans e698 e696)) e702 (by first | decide | omega) (congrArg (sk tB tN) (show h127 75 7 = h662 75 7 by first | decide | omega))), (fun z => absurd z (by first | decide | omega))⟩
      have q629 : ¬ (v35 = 2147483648) := q629
      exfalso; omega
    have q34 : ¬ (v19 = 2147483648) := q34
    have b706 := c28 (by first | decide | omega)
    refine x_aload (np := 66) (x := 0) (by decide +kernel) rfl (x_nc_le (by decide)) ?_
    have q707 : h23 75 10 = h7 75 10 := jK 0 f25 rg_75_10_0_1 (by first | decide | omega) (by first | decide | omega) (by decide)
    have q708 : h7 75 10 = h 75 10 := jK 0 f9 rg_75_10_0_1 (by first | decide | omega) (by first | decide | omega) (by decide)
    refine x_getC (np := 69) (x := 714) (f := 10) (q := (h 75 10)) (by decide +kernel) (by decide) (by decide +kernel) (q707.trans q708) (fun l709 => ?_)
    refine x_const (np := 71) (x := 9223372064772063238) (a := 2147483654) (by decide +kernel) (by decide) (by decide) ?_
    refine x_icmp (k := 1) (tg := 76) (np := 74) (by decide +kernel) (by decide) l709 (by decide) (fun q710 => ?_) (fun q711 => ?_)
    · have q710 : (h 75 10) ≠ 2147483654 := q710
      refine x_aload (np := 77) (x := 0) (by decide +kernel) rfl (x_nc_le (by decide)) ?_
      refine x_dup (np := 78) (x := 0) (by decide +kernel) (by have z := x_nc_le (k := 75) (by decide); unfold x_r; omega) ?_
      have q712 : h23 75 10 = h7 75 10 := jK 0 f25 rg_75_10_0_1 (by first | decide | omega) (by first | decide | omega) (by decide)
      have q713 : h7 75 10 = h 75 10 := jK 0 f9 rg_75_10_0_1 (by first | decide | omega) (by first | decide | omega) (by decide)
      refine x_getC (np := 81) (x := 714) (f := 10) (q := (h 75 10)) (by decide +kernel) (by decide) (by decide +kernel) (q712.trans q713) (fun l714 => ?_)
      refine x_const (np := 82) (x := 9223372043297226753) (a := 2147483649) (by decide +kernel) (by decide) (by decide) ?_
      refine x_iadd (np := 83) (x := 0) (v := (1 + (h 75 10))) (by decide +kernel) l709 (by decide) (by first | decide | omega) (by first | decide | omega) ?_
      refine x_putI (np := 86) (x := 714) (f := 10) (by decide +kernel) (by decide +kernel) (by first | decide | omega) (Or.inl (by decide)) ?_
      have j716 := jU (e := 10) (v := (1 + (h 75 10))) 0 j24 rg_75_10_0_1 (by first | decide | omega) (by first | decide | omega) (by first | decide | omega)
      have f718 := jF (e := 10) (v := (1 + (h 75 10))) 0 f31 rg_75_10_0_1 (by first | decide | omega) (by first | decide | omega) (by decide)
      generalize e717 : x_up h23 75 10 (1 + (h 75 10)) = h715 at j716 f718 ⊢
      refine x_aload (np := 87) (x := 0) (by decide +kernel) rfl (x_nc_le (by decide)) ?_
      have q719 : h715 75 10 = (1 + (h 75 10)) := by rw [← e717]; exact x_up_at
      have q720 : h715 75 13 = h23 75 13 := by rw [← e717]; exact x_up_i (by first | decide | omega)
      have q721 : h23 75 13 = h7 75 13 := jK 0 f25 rg_75_13_0_1 (by first | decide | omega) (by first | decide | omega) (by decide)
      have q722 : h7 75 13 = h 75 13 := jK 0 f9 rg_75_13_0_1 (by first | decide | omega) (by first | decide | omega) (by decide)
      have q723 : h715 75 7 = h23 75 7 := by rw [← e717]; exact x_up_i (by first | decide | omega)
      have q724 : h715 75 10 = (1 + (h 75 10)) := by rw [← e717]; exact x_up_at
      have m729 := Tq.fr m22 f25 (by decide) (by decide)
      have m728 : Tq tB tN h715 := by rw [← e717]; exact Tq.oth m729 (by decide) (by decide)
      refine x_cI (t := 6) (mj := 190) (n := 1) (rc := 12) (ml := 3) (nr := 0) (np := 90) (as := [x_r 75]) (rest := []) (lo1 := [x_r 75, 147573952589676412928, 147573952589676412928]) (by decide +kernel) (by decide) (by decide +kernel) (x_rb_of (by decide +kernel)) rfl rfl (x_wr (by decide) x_wn) x_wn (by decide) rfl (c190_75_D1 j716  (by first | decide | omega) (by first | decide | omega) m728) (fun v725 h730 l726 q727 => ?_)
      obtain ⟨j731, f732, b733, c734, c735, c736, c737, c738, c739, c740, c741⟩ := q727
      have f742 := Fr.trans f718 f732 (by decide)
      have q743 : h715 75 13 = h23 75 13 := by rw [← e717]; exact x_up_i (by first | decide | omega)
      have q744 : h23 75 13 = h7 75 13 := jK 0 f25 rg_75_13_0_1 (by first | decide | omega) (by first | decide | omega) (by decide)
      have q745 : h7 75 13 = h 75 13 := jK 0 f9 rg_75_13_0_1 (by first | decide | omega) (by first | decide | omega) (by decide)
      have b746 := jB (e := 13) 0 j731 rg_75_13_0_1 (by first | decide | omega) (by first | decide | omega)
      have q747 : h715 75 7 = h23 75 7 := by rw [← e717]; exact x_up_i (by first | decide | omega)
      have b748 := jB (e := 7) 0 j731 rg_75_7_0_1 (by first | decide | omega) (by first | decide | omega)
      have q749 : h715 75 10 = (1 + (h 75 10)) := by rw [← e717]; exact x_up_at
      have b750 := jB (e := 10) 0 j731 rg_75_10_0_1 (by first | decide | omega) (by first | decide | omega)
      have q751 : h715 75 7 = h23 75 7 := by rw [← e717]; exact x_up_i (by first | decide | omega)
      have q752 : h715 75 13 = h23 75 13 := by rw [← e717]; exact x_up_i (by first | decide | omega)
      have q753 : h23 75 13 = h7 75 13 := jK 0 f25 rg_75_13_0_1 (by first | decide | omega) (by first | decide | omega) (by decide)
      have q754 : h7 75 13 = h 75 13 := jK 0 f9 rg_75_13_0_1 (by first | decide | omega) (by first | decide | omega) (by decide)
      refine x_ifz (k := 1) (tg := 95) (np := 93) (by decide +kernel) (by decide) l726 (fun q755 => ?_) (fun q756 => ?_)
      · have q755 : v725 ≠ 2147483648 := q755
        have b757 := c734 (by first | decide | omega)
        have b758 := c735 (by first | decide | omega)
        have b759 := c736 (by first | decide | omega)
        have b760 := c737 (by first | decide | omega)
        have s761 := c739 (by first | decide | omega)
        have q762 : h715 75 13 = h23 75 13 := by rw [← e717]; exact x_up_i (by first | decide | omega)
        have q763 : h23 75 13 = h7 75 13 := jK 0 f25 rg_75_13_0_1 (by first | decide | omega) (by first | decide | omega) (by decide)
        have q764 : h7 75 13 = h 75 13 := jK 0 f9 rg_75_13_0_1 (by first | decide | omega) (by first | decide | omega) (by decide)
        refine x_aload (np := 96) (x := 0) (by decide +kernel) rfl (x_nc_le (by decide)) ?_
        refine x_dup (np := 97) (x := 0) (by decide +kernel) (by have z := x_nc_le (k := 75) (by decide); unfold x_r; omega) ?_
        refine x_getC (np := 100) (x := 714) (f := 10) (q := (h730 75 10)) (by decide +kernel) (by decide) (by decide +kernel) rfl (fun l765 => ?_)
        refine x_const (np := 101) (x := 9223372043297226753) (a := 2147483649) (by decide +kernel) (by decide) (by decide) ?_
        obtain ⟨v766, q767⟩ : ∃ z, z + 2147483649 = (h730 75 10) + 2147483648 := ⟨(h730 75 10) + 2147483648 - 2147483649, by first | decide | omega⟩
        refine x_isub (np := 102) (x := 0) (v := v766) (by decide +kernel) l765 (by decide) (by first | decide | omega) (by first | decide | omega) ?_
        refine x_putI (np := 105) (x := 714) (f := 10) (by decide +kernel) (by decide +kernel) (by first | decide | omega) (Or.inl (by decide)) ?_
        have j769 := jU (e := 10) (v := v766) 0 j731 rg_75_10_0_1 (by first | decide | omega) (by first | decide | omega) (by first | decide | omega)
        have f771 := jF (e := 10) (v := v766) 0 f742 rg_75_10_0_1 (by first | decide | omega) (by first | decide | omega) (by decide)
        generalize e770 : x_up h730 75 10 v766 = h768 at j769 f771 ⊢
        refine x_aload (np := 106) (x := 0) (by decide +kernel) rfl (x_nc_le (by decide)) ?_
        refine x_const (np := 108) (x := 9223372090541867020) (a := 2147483660) (by decide +kernel) (by decide) (by decide) ?_
        refine x_const (np := 109) (x := 9223372039002259456) (a := 2147483648) (by decide +kernel) (by decide) (by decide) ?_
        refine x_nV (t := 6) (mj := 187) (n := 3) (rc := 12) (ml := 3) (nr := 0) (np := 112) (as := [x_r 75, iv_c 2147483660, iv_c 2147483648]) (rest := []) (lo1 := [x_r 75, iv_c 2147483660, iv_c 2147483648]) (by decide +kernel) (by decide) (by decide +kernel) (x_rb_of (by decide +kernel)) rfl rfl (x_wr (by decide) (x_wi (by decide) (x_wi (by decide) x_wn))) x_wn (by decide) rfl ?_
        refine x_aload (np := 1) (x := 0) (by decide +kernel) rfl (x_nc_le (by decide)) ?_
        have q772 : h768 75 1 = 76 := by have z := jB (e := 1) 0 j769 rg_75_1_0_1 (by decide) (by decide); omega
        refine x_getR (np := 4) (x := 705) (f := 1) (q := 76) (by decide +kernel) (by decide) (by decide +kernel) q772 ?_
        refine x_const (np := 7) (x := 9223376986804585600) (a := 2147484800) (by decide +kernel) (by decide) (by decide) ?_
        refine x_const (np := 8) (x := 9223372047592194050) (a := 2147483650) (by decide +kernel) (by decide) (by decide) ?_
        refine x_aload (np := 9) (x := 0) (by decide +kernel) rfl (x_nc_le (by decide)) ?_
        have q773 : h768 75 13 = h730 75 13 := by rw [← e770]; exact x_up_i (by first | decide | omega)
        refine x_getC (np := 12) (x := 717) (f := 13) (q := (h730 75 13)) (by decide +kernel) (by decide) (by decide +kernel) q773 (fun l774 => ?_)
        obtain ⟨u775, q776⟩ : ∃ z, (h730 75 13) = 2147483648 + z := ⟨(h730 75 13) - 2147483648, by first | decide | omega⟩
        refine x_imul (np := 13) (x := 0) (i := 2) (j := u775) (v := (2147483648 + 2 * u775)) (by decide +kernel) (by first | decide | omega) (by first | decide | omega) (by first | decide | omega) (by first | decide | omega) (by decide) l774 ?_
        refine x_iadd (np := 14) (x := 0) (v := (2147484800 + 2 * u775)) (by decide +kernel) (by decide) (by first | decide | omega) (by first | decide | omega) (by first | decide | omega) ?_
        refine x_iload (np := 15) (x := 1) (by decide +kernel) rfl (by decide) ?_
        refine x_ast (np := 16) (x := 0) (kd := 1) (n := 1952) (i := (1152 + 2 * u775)) (by decide +kernel) (Or.inl rfl) (by decide +kernel) (by first | decide | omega) (by first | decide | omega) (by decide) (by decide) (fun z => absurd z (by decide)) ?_
        have j779 := jU (e := (1152 + 2 * u775)) (v := 2147483660) u775 j769 rg_76_1152_2_394 (by first | decide | omega) (by first | decide | omega) (by first | decide | omega)
        have f781 := jF (e := (1152 + 2 * u775)) (v := 2147483660) u775 f771 rg_76_1152_2_394 (by first | decide | omega) (by first | decide | omega) (by decide)
        generalize e780 : x_up h768 76 (1152 + 2 * u775) 2147483660 = h778 at j779 f781 ⊢
        refine x_aload (np := 17) (x := 0) (by decide +kernel) rfl (x_nc_le (by decide)) ?_
        have q782 : h778 75 1 = 76 := by have z := jB (e := 1) 0 j779 rg_75_1_0_1 (by decide) (by decide); omega
        refine x_getR (np := 20) (x := 705) (f := 1) (q := 76) (by decide +kernel) (by decide) (by decide +kernel) q782 ?_
        refine x_const (np := 23) (x := 9223376986804585600) (a := 2147484800) (by decide +kernel) (by decide) (by decide) ?_
        refine x_const (np := 24) (x := 9223372047592194050) (a := 2147483650) (by decide +kernel) (by decide) (by decide) ?_
        refine x_aload (np := 25) (x := 0) (by decide +kernel) rfl (x_nc_le (by decide)) ?_
        have q783 : h778 75 13 = h768 75 13 := by rw [← e780]; exact x_up_k (by decide)
        have q784 : h768 75 13 = h730 75 13 := by rw [← e770]; exact x_up_i (by first | decide | omega)
        refine x_getC (np := 28) (x := 717) (f := 13) (q := (h730 75 13)) (by decide +kernel) (by decide) (by decide +kernel) (q783.trans q784) (fun l785 => ?_)
        refine x_imul (np := 29) (x := 0) (i := 2) (j := u775) (v := (2147483648 + 2 * u775)) (by decide +kernel) (by first | decide | omega) (by first | decide | omega) (by first | decide | omega) (by first | decide | omega) (by decide) l774 ?_
        refine x_iadd (np := 30) (x := 0) (v := (2147484800 + 2 * u775)) (by decide +kernel) (by decide) (by first | decide | omega) (by first | decide | omega) (by first | decide | omega) ?_
        refine x_const (np := 31) (x := 9223372043297226753) (a := 2147483649) (by decide +kernel) (by decide) (by decide) ?_
        refine x_iadd (np := 32) (x := 0) (v := (2147484801 + 2 * u775)) (by decide +kernel) (by first | decide | omega) (by decide) (by first | decide | omega) (by first | decide | omega) ?_
        refine x_iload (np := 33) (x := 2) (by decide +kernel) rfl (by decide) ?_
        refine x_ast (np := 34) (x := 0) (kd := 1) (n := 1952) (i := (1153 + 2 * u775)) (by decide +kernel) (Or.inl rfl) (by decide +kernel) (by first | decide | omega) (by first | decide | omega) (by decide) (by decide) (fun z => absurd z (by decide)) ?_
        have j788 := jU (e := (1153 + 2 * u775)) (v := 2147483648) u775 j779 rg_76_1153_2_394 (by first | decide | omega) (by first | decide | omega) (by first | decide | omega)
        have f790 := jF (e := (1153 + 2 * u775)) (v := 2147483648) u775 f781 rg_76_1153_2_394 (by first | decide | omega) (by first | decide | omega) (by decide)
        generalize e789 : x_up h778 76 (1153 + 2 * u775) 2147483648 = h787 at j788 f790 ⊢
        refine x_aload (np := 35) (x := 0) (by decide +kernel) rfl (x_nc_le (by decide)) ?_
        refine x_dup (np := 36) (x := 0) (by decide +kernel) (by have z := x_nc_le (k := 75) (by decide); unfold x_r; omega) ?_
        have q791 : h787 75 13 = h778 75 13 := by rw [← e789]; exact x_up_k (by decide)
        have q792 : h778 75 13 = h768 75 13 := by rw [← e780]; exact x_up_k (by decide)
        have q793 : h768 75 13 = h730 75 13 := by rw [← e770]; exact x_up_i (by first | decide | omega)
        refine x_getC (np := 39) (x := 717) (f := 13) (q := (h730 75 13)) (by decide +kernel) (by decide) (by decide +kernel) ((q791.trans q792).trans q793) (fun l794 => ?_)
        refine x_const (np := 40) (x := 9223372043297226753) (a := 2147483649) (by decide +kernel) (by decide) (by decide) ?_
        refine x_iadd (np := 41) (x := 0) (v := (1 + (h730 75 13))) (by decide +kernel) l774 (by decide) (by first | decide | omega) (by first | decide | omega) ?_
        refine x_putI (np := 44) (x := 717) (f := 13) (by decide +kernel) (by decide +kernel) (by first | decide | omega) (Or.inl (by decide)) ?_
        have j796 := jU (e := 13) (v := (1 + (h730 75 13))) 0 j788 rg_75_13_0_1 (by first | decide | omega) (by first | decide | omega) (by first | decide | omega)
        have f798 := jF (e := 13) (v := (1 + (h730 75 13))) 0 f790 rg_75_13_0_1 (by first | decide | omega) (by first | decide | omega) (by decide)
        generalize e797 : x_up h787 75 13 (1 + (h730 75 13)) = h795 at j796 f798 ⊢
        refine x_retV (np := 45) (x := 0) (by decide +kernel) (by decide +kernel) ⟨rfl, ?_⟩
        have q799 : h795 75 13 = (1 + (h730 75 13)) := by rw [← e797]; exact x_up_at
        refine x_const (np := 113) (x := 9223372043297226753) (a := 2147483649) (by decide +kernel) (by decide) (by decide) ?_
        have q800 : h795 75 13 = (1 + (h730 75 13)) := by rw [← e797]; exact x_up_at
        have q801 : h795 75 7 = h787 75 7 := by rw [← e797]; exact x_up_i (by first | decide | omega)
        have q802 : h787 75 7 = h778 75 7 := by rw [← e789]; exact x_up_k (by decide)
        have q803 : h778 75 7 = h768 75 7 := by rw [← e780]; exact x_up_k (by decide)
        have q804 : h768 75 7 = h730 75 7 := by rw [← e770]; exact x_up_i (by first | decide | omega)
        have q805 : h795 75 10 = h787 75 10 := by rw [← e797]; exact x_up_i (by first | decide | omega)
        have q806 : h787 75 10 = h778 75 10 := by rw [← e789]; exact x_up_k (by decide)
        have q807 : h778 75 10 = h768 75 10 := by rw [← e780]; exact x_up_k (by decide)
        have q808 : h768 75 10 = v766 := by rw [← e770]; exact x_up_at
        have q809 : h795 75 7 = h787 75 7 := by rw [← e797]; exact x_up_i (by first | decide | omega)
        have q810 : h787 75 7 = h778 75 7 := by rw [← e789]; exact x_up_k (by decide)
        have q811 : h778 75 7 = h768 75 7 := by rw [← e780]; exact x_up_k (by decide)
        have q812 : h768 75 7 = h730 75 7 := by rw [← e770]; exact x_up_i (by first | decide | omega)
        have q813 : h795 75 13 = (1 + (h730 75 13)) := by rw [← e797]; exact x_up_at
        have k821 : Kp h h7 (h 75 13 - 2147483648) := Kp.fr Kp.refl f9 (by first | decide | omega) (by decide)
        have k820 : Kp h h23 (h 75 13 - 2147483648) := Kp.fr k821 f25 (by first | decide | omega) (by decide)
        have k819 : Kp h h715 (h 75 13 - 2147483648) := by rw [← e717]; exact Kp.oth k820 (by decide)
        have q822 : h715 75 13 = h23 75 13 := by rw [← e717]; exact x_up_i (by first | decide | omega)
        have q823 : h23 75 13 = h7 75 13 := jK 0 f25 rg_75_13_0_1 (by first | decide | omega) (by first | decide | omega) (by decide)
        have q824 : h7 75 13 = h 75 13 := jK 0 f9 rg_75_13_0_1 (by first | decide | omega) (by first | decide | omega) (by decide)
        have k818 : Kp h h730 (h 75 13 - 2147483648) := Kp.trans k819 c738 (by first | decide | omega)
        have k817 : Kp h h768 (h 75 13 - 2147483648) := by rw [← e770]; exact Kp.oth k818 (by decide)
        have k816 : Kp h h778 (h 75 13 - 2147483648) := by rw [← e780]; exact Kp.up k817 (by first | decide | omega) (fun i hi => by first | decide | omega)
        have k815 : Kp h h787 (h 75 13 - 2147483648) := by rw [← e789]; exact Kp.up k816 (by first | decide | omega) (fun i hi => by first | decide | omega)
        have k814 : Kp h h795 (h 75 13 - 2147483648) := by rw [← e797]; exact Kp.oth k815 (by decide)
        have q825 : h795 75 13 = (1 + (h730 75 13)) := by rw [← e797]; exact x_up_at
        have q827 : h795 76 (1152 + 2 * u775) = h787 76 (1152 + 2 * u775) := by rw [← e797]; exact x_up_k (by decide)
        have q828 : h787 76 (1152 + 2 * u775) = h778 76 (1152 + 2 * u775) := by rw [← e789]; exact x_up_i (by first | decide | omega)
        have q829 : h778 76 (1152 + 2 * u775) = 2147483660 := by rw [← e780]; exact x_up_at
        have k833 : Kp h730 h768 (h730 75 13 - 2147483648) := by rw [← e770]; exact Kp.oth Kp.refl (by decide)
        have k832 : Kp h730 h778 (h730 75 13 - 2147483648) := by rw [← e780]; exact Kp.up k833 (by first | decide | omega) (fun i hi => by first | decide | omega)
        have k831 : Kp h730 h787 (h730 75 13 - 2147483648) := by rw [← e789]; exact Kp.up k832 (by first | decide | omega) (fun i hi => by first | decide | omega)
        have k830 : Kp h730 h795 (h730 75 13 - 2147483648) := by rw [← e797]; exact Kp.oth k831 (by decide)
        have s826 : Seg (sg h795) (h715 75 13 - 2147483648) (u775 + 1) := Seg.not (Seg.cast (a' := (h715 75 13 - 2147483648)) (b' := u775) (Seg.kp s761 k830) rfl (by first | decide | omega)) (show h795 76 (1152 + 2 * u775) = 2147483660 by first | decide | omega)
        have s834 : Seg (sg h795) (h 75 13 - 2147483648) (h795 75 13 - 2147483648) := Seg.cast (Seg.kp s826 Kp.refl) (by first | decide | omega) (by first | decide | omega)
        obtain ⟨w835, e836⟩ := Tk.no c13 (by first | decide | omega)
        obtain ⟨w837, e838⟩ := Tk.yes c29 (by first | decide | omega)
        have q839 : h715 75 7 = h23 75 7 := by rw [← e717]; exact x_up_i (by first | decide | omega)
        have q840 : h795 75 7 = h787 75 7 := by rw [← e797]; exact x_up_i (by first | decide | omega)
        have q841 : h787 75 7 = h778 75 7 := by rw [← e789]; exact x_up_k (by decide)
        have q842 : h778 75 7 = h768 75 7 := by rw [← e780]; exact x_up_k (by decide)
        have q843 : h768 75 7 = h730 75 7 := by rw [← e770]; exact x_up_i (by first | decide | omega)
        refine x_retI (np := 114) (x := 0) (by decide +kernel) (by decide) (Or.inr ⟨by decide +kernel, by first | decide | omega, by first | decide | omega⟩) ⟨_, rfl, (by decide), ?_⟩
        exact ⟨j796, f798, (by first | decide | omega), (fun z => by first | decide | omega), (fun z => by first | decide | omega), (fun z => by first | decide | omega), (fun z => by first | decide | omega), k814, (fun _ => s834), (gA_not w837 e836 e838 (by decide) c740 (congrArg (sk tB tN) (show h715 75 7 = h23 75 7 by first | decide | omega)) (by first | decide | omega) (fun z => (congrArg (sk tB tN) (show h730 75 7 = h795 75 7 by first | decide | omega)))), (fun z => absurd z (by first | decide | omega))⟩
      have q756 : ¬ (v725 ≠ 2147483648) := q756
      refine x_const (np := 94) (x := 9223372039002259456) (a := 2147483648) (by decide +kernel) (by decide) (by decide) ?_
      have k847 : Kp h h7 (h 75 13 - 2147483648) := Kp.fr Kp.refl f9 (by first | decide | omega) (by decide)
      have k846 : Kp h h23 (h 75 13 - 2147483648) := Kp.fr k847 f25 (by first | decide | omega) (by decide)
      have k845 : Kp h h715 (h 75 13 - 2147483648) := by rw [← e717]; exact Kp.oth k846 (by decide)
      have q848 : h715 75 13 = h23 75 13 := by rw [← e717]; exact x_up_i (by first | decide | omega)
      have q849 : h23 75 13 = h7 75 13 := jK 0 f25 rg_75_13_0_1 (by first | decide | omega) (by first | decide | omega) (by decide)
      have q850 : h7 75 13 = h 75 13 := jK 0 f9 rg_75_13_0_1 (by first | decide | omega) (by first | decide | omega) (by decide)
      have k844 : Kp h h730 (h 75 13 - 2147483648) := Kp.trans k845 c738 (by first | decide | omega)
      obtain ⟨w851, e852⟩ := Tk.no c13 (by first | decide | omega)
      obtain ⟨w853, e854⟩ := Tk.yes c29 (by first | decide | omega)
      have q855 : h715 75 7 = h23 75 7 := by rw [← e717]; exact x_up_i (by first | decide | omega)
      obtain ⟨w856, e857⟩ := Tk.no c13 (by first | decide | omega)
      obtain ⟨w858, e859⟩ := Tk.yes c29 (by first | decide | omega)
      have q860 : h715 75 7 = h23 75 7 := by rw [← e717]; exact x_up_i (by first | decide | omega)
      refine x_retI (np := 95) (x := 0) (by decide +kernel) (by decide) (Or.inr ⟨by decide +kernel, by first | decide | omega, by first | decide | omega⟩) ⟨_, rfl, (by decide), ?_⟩
      exact ⟨j731, f742, (by first | decide | omega), (fun z => by first | decide | omega), (fun z => by first | decide | omega), (fun z => by first | decide | omega), (fun z => by first | decide | omega), k844, (fun z => absurd z (by first | decide | omega)), (gA_not w853 e852 e854 (by decide) c740 (congrArg (sk tB tN) (show h715 75 7 = h23 75 7 by first | decide | omega)) (by first | decide | omega) (fun z => absurd z (by first | decide | omega))), (fun _ => fA_not w858 e857 e859 (by decide) (c741 (by first | decide | omega)) (congrArg (sk tB tN) (show h715 75 7 = h23 75 7 by first | decide | omega)) rfl)⟩
    have q711 : ¬ ((h 75 10) ≠ 2147483654) := q711
    exfalso; omega
  have q18 : ¬ (v4 = 2147483648) := q18
  have b861 := c12 (by first | decide | omega)
  refine x_aload (np := 10) (x := 0) (by decide +kernel) rfl (x_nc_le (by decide)) ?_
  have q862 : h7 75 10 = h 75 10 := jK 0 f9 rg_75_10_0_1 (by first | decide | omega) (by first | decide | omega) (by decide)
  refine x_getC (np := 13) (x := 714) (f := 10) (q := (h 75 10)) (by decide +kernel) (by decide) (by decide +kernel) q862 (fun l863 => ?_)
  refine x_const (np := 15) (x := 9223372064772063238) (a := 2147483654) (by decide +kernel) (by decide) (by decide) ?_
  refine x_icmp (k := 1) (tg := 20) (np := 18) (by decide +kernel) (by decide) l863 (by decide) (fun q864 => ?_) (fun q865 => ?_)
  · have q864 : (h 75 10) ≠ 2147483654 := q864
    refine x_aload (np := 21) (x := 0) (by decide +kernel) rfl (x_nc_le (by decide)) ?_
    refine x_dup (np := 22) (x := 0) (by decide +kernel) (by have z := x_nc_le (k := 75) (by decide); unfold x_r; omega) ?_
    have q866 : h7 75 10 = h 75 10 := jK 0 f9 rg_75_10_0_1 (by first | decide | omega) (by first | decide | omega) (by decide)
    refine x_getC (np := 25) (x := 714) (f := 10) (q := (h 75 10)) (by decide +kernel) (by decide) (by decide +kernel) q866 (fun l867 => ?_)
    refine x_const (np := 26) (x := 9223372043297226753) (a := 2147483649) (by decide +kernel) (by decide) (by decide) ?_
    refine x_iadd (np := 27) (x := 0) (v := (1 + (h 75 10))) (by decide +kernel) l863 (by decide) (by first | decide | omega) (by first | decide | omega) ?_
    refine x_putI (np := 30) (x := 714) (f := 10) (by decide +kernel) (by decide +kernel) (by first | decide | omega) (Or.inl (by decide)) ?_
    have j869 := jU (e := 10) (v := (1 + (h 75 10))) 0 j8 rg_75_10_0_1 (by first | decide | omega) (by first | decide | omega) (by first | decide | omega)
    have f871 := jF (e := 10) (v := (1 + (h 75 10))) 0 f15 rg_75_10_0_1 (by first | decide | omega) (by first | decide | omega) (by decide)
    generalize e870 : x_up h7 75 10 (1 + (h 75 10)) = h868 at j869 f871 ⊢
    refine x_aload (np := 31) (x := 0) (by decide +kernel) rfl (x_nc_le (by decide)) ?_
    have q872 : h868 75 10 = (1 + (h 75 10)) := by rw [← e870]; exact x_up_at
    have q873 : h868 75 13 = h7 75 13 := by rw [← e870]; exact x_up_i (by first | decide | omega)
    have q874 : h7 75 13 = h 75 13 := jK 0 f9 rg_75_13_0_1 (by first | decide | omega) (by first | decide | omega) (by decide)
    have q875 : h868 75 7 = h7 75 7 := by rw [← e870]; exact x_up_i (by first | decide | omega)
    have q876 : h868 75 10 = (1 + (h 75 10)) := by rw [← e870]; exact x_up_at
    have m881 := Tq.fr hT f9 (by decide) (by decide)
    have m880 : Tq tB tN h868 := by rw [← e870]; exact Tq.oth m881 (by decide) (by decide)
    refine x_cI (t := 6) (mj := 192) (n := 1) (rc := 12) (ml := 1) (nr := 0) (np := 34) (as := [x_r 75]) (rest := []) (lo1 := [x_r 75]) (by decide +kernel) (by decide) (by decide +kernel) (x_rb_of (by decide +kernel)) rfl rfl (x_wr (by decide) x_wn) x_wn (by decide) rfl (c192_75_D1 j869  (by first | decide | omega) (by first | decide | omega) m880) (fun v877 h882 l878 q879 => ?_)
    obtain ⟨j883, f884, b885, c886, c887, c888, c889, c890, c891, c892, c893⟩ := q879
    have f894 := Fr.trans f871 f884 (by decide)
    have q895 : h868 75 13 = h7 75 13 := by rw [← e870]; exact x_up_i (by first | decide | omega)
    have q896 : h7 75 13 = h 75 13 := jK 0 f9 rg_75_13_0_1 (by first | decide | omega) (by first | decide | omega) (by decide)
    have b897 := jB (e := 13) 0 j883 rg_75_13_0_1 (by first | decide | omega) (by first | decide | omega)
    have q898 : h868 75 7 = h7 75 7 := by rw [← e870]; exact x_up_i (by first | decide | omega)
    have b899 := jB (e := 7) 0 j883 rg_75_7_0_1 (by first | decide | omega) (by first | decide | omega)
    have q900 : h868 75 10 = (1 + (h 75 10)) := by rw [← e870]; exact x_up_at
    have b901 := jB (e := 10) 0 j883 rg_75_10_0_1 (by first | decide | omega) (by first | decide | omega)
    have q902 : h868 75 7 = h7 75 7 := by rw [← e870]; exact x_up_i (by first | decide | omega)
    have q903 : h868 75 13 = h7 75 13 := by rw [← e870]; exact x_up_i (by first | decide | omega)
    have q904 : h7 75 13 = h 75 13 := jK 0 f9 rg_75_13_0_1 (by first | decide | omega) (by first | decide | omega) (by decide)
    refine x_ifz (k := 1) (tg := 39) (np := 37) (by decide +kernel) (by decide) l878 (fun q905 => ?_) (fun q906 => ?_)
    · have q905 : v877 ≠ 2147483648 := q905
      have b907 := c886 (by first | decide | omega)
      have b908 := c887 (by first | decide | omega)
      have b909 := c888 (by first | decide | omega)
      have b910 := c889 (by first | decide | omega)
      have s911 := c891 (by first | decide | omega)
      have q912 : h868 75 13 = h7 75 13 := by rw [← e870]; exact x_up_i (by first | decide | omega)
      have q913 : h7 75 13 = h 75 13 := jK 0 f9 rg_75_13_0_1 (by first | decide | omega) (by first | decide | omega) (by decide)
      refine x_aload (np := 40) (x := 0) (by decide +kernel) rfl (x_nc_le (by decide)) ?_
      refine x_dup (np := 41) (x := 0) (by decide +kernel) (by have z := x_nc_le (k := 75) (by decide); unfold x_r; omega) ?_
      refine x_getC (np := 44) (x := 714) (f := 10) (q := (h882 75 10)) (by decide +kernel) (by decide) (by decide +kernel) rfl (fun l914 => ?_)
      refine x_const (np := 45) (x := 9223372043297226753) (a := 2147483649) (by decide +kernel) (by decide) (by decide) ?_
      obtain ⟨v915, q916⟩ : ∃ z, z + 2147483649 = (h882 75 10) + 2147483648 := ⟨(h882 75 10) + 2147483648 - 2147483649, by first | decide | omega⟩
      refine x_isub (np := 46) (x := 0) (v := v915) (by decide +kernel) l914 (by decide) (by first | decide | omega) (by first | decide | omega) ?_
      refine x_putI (np := 49) (x := 714) (f := 10) (by decide +kernel) (by decide +kernel) (by first | decide | omega) (Or.inl (by decide)) ?_
      have j918 := jU (e := 10) (v := v915) 0 j883 rg_75_10_0_1 (by first | decide | omega) (by first | decide | omega) (by first | decide | omega)
      have f920 := jF (e := 10) (v := v915) 0 f894 rg_75_10_0_1 (by first | decide | omega) (by first | decide | omega) (by decide)
      generalize e919 : x_up h882 75 10 v915 = h917 at j918 f920 ⊢
      refine x_aload (np := 50) (x := 0) (by decide +kernel) rfl (x_nc_le (by decide)) ?_
      refine x_const (np := 52) (x := 9223372215095918633) (a := 2147483689) (by decide +kernel) (by decide) (by decide) ?_
      have m925 := Tq.fr m880 f884 (by decide) (by decide)
      have m924 : Tq tB tN h917 := by rw [← e919]; exact Tq.oth m925 (by decide) (by decide)
      refine x_cI (t := 6) (mj := 173) (n := 2) (rc := 12) (ml := 2) (nr := 0) (np := 55) (as := [x_r 75, iv_c 2147483689]) (rest := []) (lo1 := [x_r 75, iv_c 2147483689]) (by decide +kernel) (by decide) (by decide +kernel) (x_rb_of (by decide +kernel)) rfl rfl (x_wr (by decide) (x_wi (by decide) x_wn)) x_wn (by decide) rfl (c173_75 j918  (by first | decide | omega) m924) (fun v921 h926 l922 q923 => ?_)
      obtain ⟨j927, f928, b929, c930, c931, c932, c933⟩ := q923
      have f934 := Fr.trans f920 f928 (by decide)
      have q935 : h917 75 7 = h882 75 7 := by rw [← e919]; exact x_up_i (by first | decide | omega)
      have b936 := jB (e := 7) 0 j927 rg_75_7_0_1 (by first | decide | omega) (by first | decide | omega)
      have q937 : h917 75 7 = h882 75 7 := by rw [← e919]; exact x_up_i (by first | decide | omega)
      have q938 : h926 75 13 = h917 75 13 := jK 0 f928 rg_75_13_0_1 (by first | decide | omega) (by first | decide | omega) (by decide)
      have q939 : h917 75 13 = h882 75 13 := by rw [← e919]; exact x_up_i (by first | decide | omega)
      have q940 : h926 75 10 = h917 75 10 := jK 0 f928 rg_75_10_0_1 (by first | decide | omega) (by first | decide | omega) (by decide)
      have q941 : h917 75 10 = v915 := by rw [← e919]; exact x_up_at
      have q942 : h926 75 13 = h917 75 13 := jK 0 f928 rg_75_13_0_1 (by first | decide | omega) (by first | decide | omega) (by decide)
      have q943 : h917 75 13 = h882 75 13 := by rw [← e919]; exact x_up_i (by first | decide | omega)
      have k948 : Kp h h7 (h 75 13 - 2147483648) := Kp.fr Kp.refl f9 (by first | decide | omega) (by decide)
      have k947 : Kp h h868 (h 75 13 - 2147483648) := by rw [← e870]; exact Kp.oth k948 (by decide)
      have q949 : h868 75 13 = h7 75 13 := by rw [← e870]; exact x_up_i (by first | decide | omega)
      have q950 : h7 75 13 = h 75 13 := jK 0 f9 rg_75_13_0_1 (by first | decide | omega) (by first | decide | omega) (by decide)
      have k946 : Kp h h882 (h 75 13 - 2147483648) := Kp.trans k947 c890 (by first | decide | omega)
      have k945 : Kp h h917 (h 75 13 - 2147483648) := by rw [← e919]; exact Kp.oth k946 (by decide)
      have k944 : Kp h h926 (h 75 13 - 2147483648) := Kp.fr k945 f928 (by first | decide | omega) (by decide)
      have q951 : h926 75 13 = h917 75 13 := jK 0 f928 rg_75_13_0_1 (by first | decide | omega) (by first | decide | omega) (by decide)
      have q952 : h917 75 13 = h882 75 13 := by rw [← e919]; exact x_up_i (by first | decide | omega)
      have k954 : Kp h882 h917 (h882 75 13 - 2147483648) := by rw [← e919]; exact Kp.oth Kp.refl (by decide)
      have k953 : Kp h882 h926 (h882 75 13 - 2147483648) := Kp.fr k954 f928 (by first | decide | omega) (by decide)
      have s955 : Seg (sg h926) (h 75 13 - 2147483648) (h926 75 13 - 2147483648) := Seg.cast (Seg.kp s911 k953) (by first | decide | omega) (by first | decide | omega)
      obtain ⟨w956, e957⟩ := Tk.yes c13 (by first | decide | omega)
      have q958 : h868 75 7 = h7 75 7 := by rw [← e870]; exact x_up_i (by first | decide | omega)
      have q959 : h917 75 7 = h882 75 7 := by rw [← e919]; exact x_up_i (by first | decide | omega)
      obtain ⟨w960, e961⟩ := Tk.yes c13 (by first | decide | omega)
      have q962 : h868 75 7 = h7 75 7 := by rw [← e870]; exact x_up_i (by first | decide | omega)
      have q963 : h917 75 7 = h882 75 7 := by rw [← e919]; exact x_up_i (by first | decide | omega)
      refine x_retI (np := 56) (x := 0) (by decide +kernel) l922 (Or.inr ⟨by decide +kernel, by first | decide | omega, by first | decide | omega⟩) ⟨_, rfl, l922, ?_⟩
      exact ⟨j927, f934, (by first | decide | omega), (fun z => by first | decide | omega), (fun z => by first | decide | omega), (fun z => by first | decide | omega), (fun z => by first | decide | omega), k944, (fun _ => s955), (gA_parT w956 rfl e957 (by decide) c892 (congrArg (sk tB tN) (show h868 75 7 = h7 75 7 by first | decide | omega)) (by first | decide | omega) c932 (congrArg (sk tB tN) (show h917 75 7 = h882 75 7 by first | decide | omega)) (by first | decide | omega) (fun z => rfl)), (fun _ => fA_par1 w960 rfl e961 (by decide) c892 (congrArg (sk tB tN) (show h868 75 7 = h7 75 7 by first | decide | omega)) (by first | decide | omega) (Tk.no c932 (by first | decide | omega)).1 (congrArg (sk tB tN) (show h917 75 7 = h882 75 7 by first | decide | omega)) c933)⟩
    have q906 : ¬ (v877 ≠ 2147483648) := q906
    refine x_const (np := 38) (x := 9223372039002259456) (a := 2147483648) (by decide +kernel) (by decide) (by decide) ?_
    have k966 : Kp h h7 (h 75 13 - 2147483648) := Kp.fr Kp.refl f9 (by first | decide | omega) (by decide)
    have k965 : Kp h h868 (h 75 13 - 2147483648) := by rw [← e870]; exact Kp.oth k966 (by decide)
    have q967 : h868 75 13 = h7 75 13 := by rw [← e870]; exact x_up_i (by first | decide | omega)
    have q968 : h7 75 13 = h 75 13 := jK 0 f9 rg_75_13_0_1 (by first | decide | omega) (by first | decide | omega) (by decide)
    have k964 : Kp h h882 (h 75 13 - 2147483648) := Kp.trans k965 c890 (by first | decide | omega)
    obtain ⟨w969, e970⟩ := Tk.yes c13 (by first | decide | omega)
    have q971 : h868 75 7 = h7 75 7 := by rw [← e870]; exact x_up_i (by first | decide | omega)
    obtain ⟨w972, e973⟩ := Tk.yes c13 (by first | decide | omega)
    have q974 : h868 75 7 = h7 75 7 := by rw [← e870]; exact x_up_i (by first | decide | omega)
    refine x_retI (np := 39) (x := 0) (by decide +kernel) (by decide) (Or.inr ⟨by decide +kernel, by first | decide | omega, by first | decide | omega⟩) ⟨_, rfl, (by decide), ?_⟩
    exact ⟨j883, f894, (by first | decide | omega), (fun z => by first | decide | omega), (fun z => by first | decide | omega), (fun z => by first | decide | omega), (fun z => by first | decide | omega), k964, (fun z => absurd z (by first | decide | omega)), (gA_par0 w969 rfl e970 (by decide) c892 (congrArg (sk tB tN) (show h868 75 7 = h7 75 7 by first | decide | omega)) (by first | decide | omega) (by first | decide | omega)), (fun _ => fA_par0 w972 rfl e973 (by decide) (c893 (by first | decide | omega)) (congrArg (sk tB tN) (show h868 75 7 = h7 75 7 by first | decide | omega)) rfl)⟩
  have q865 : ¬ ((h 75 10) ≠ 2147483654) := q865
  exfalso; omega
set_option maxHeartbeats 0 in
/-- LentNamesModel.readAllOf()Z -/
theorem c191_75_D0 {sc : Nat × Nat} {d  : Nat} {h : xh} {tB : Nat → Nat} {tN : Nat} (hJ : J h) (hr0 : (h 75 13) + 5 ≤ (h 75 7)) (hr1 : (h 75 10) = 2147483648) (hT : Tq tB tN h) : X sc 191 (d + 26) (xI fun r h' => J h' ∧ Fr 97517569 h h' ∧ (2147483648 ≤ r ∧ r ≤ 2147483649) ∧ (r = 2147483649 → h' 75 13 + h 75 7 ≤ h' 75 7 + h 75 13) ∧ (r = 2147483649 → h' 75 10 = h 75 10) ∧ (r = 2147483649 → h 75 7 + 0 ≤ h' 75 7) ∧ (r = 2147483649 → h 75 13 ≤ h' 75 13) ∧ Kp h h' (h 75 13 - 2147483648) ∧ (r = 2147483649 → Seg (sg h') (h 75 13 - 2147483648) (h' 75 13 - 2147483648)) ∧ G tB tN (Kd.seq 1) 0 (sk tB tN (h 75 7)) (rs r (sk tB tN (h' 75 7))) ∧ (r = 2147483648 → GF tB tN (Kd.seq 1) 0 (sk tB tN (h 75 7)) (h' 75 9))) 0 0 0 [x_r 75] [] h := by
  have hF := Fr.refl 97517569 h
  have b1 := jB (e := 13) 0 hJ rg_75_13_0_1 (by first | decide | omega) (by first | decide | omega)
  have b2 := jB (e := 7) 0 hJ rg_75_7_0_1 (by first | decide | omega) (by first | decide | omega)
  have b3 := jB (e := 10) 0 hJ rg_75_10_0_1 (by first | decide | omega) (by first | decide | omega)
  refine x_aload (np := 1) (x := 0) (by decide +kernel) rfl (x_nc_le (by decide)) ?_
  refine x_cI (t := 6) (mj := 190) (n := 1) (rc := 12) (ml := 3) (nr := 0) (np := 4) (as := [x_r 75]) (rest := []) (lo1 := [x_r 75, 147573952589676412928, 147573952589676412928]) (by decide +kernel) (by decide) (by decide +kernel) (x_rb_of (by decide +kernel)) rfl rfl (x_wr (by decide) x_wn) x_wn (by decide) rfl (c190_75_D0 hJ  (by first | decide | omega) (by first | decide | omega) hT) (fun v4 h7 l5 q6 => ?_)
  obtain ⟨j8, f9, b10, c11, c12, c13, c14, c15, c16, c17, c18⟩ := q6
  have f19 := Fr.trans hF f9 (by decide)
  have b20 := jB (e := 13) 0 j8 rg_75_13_0_1 (by first | decide | omega) (by first | decide | omega)
  have b21 := jB (e := 7) 0 j8 rg_75_7_0_1 (by first | decide | omega) (by first | decide | omega)
  have b22 := jB (e := 10) 0 j8 rg_75_10_0_1 (by first | decide | omega) (by first | decide | omega)
  refine x_ifz (k := 1) (tg := 9) (np := 7) (by decide +kernel) (by decide) l5 (fun q23 => ?_) (fun q24 => ?_)
  · have q23 : v4 ≠ 2147483648 := q23
    have b25 := c11 (by first | decide | omega)
    have b26 := c12 (by first | decide | omega)
    have b27 := c13 (by first | decide | omega)
    have b28 := c14 (by first | decide | omega)
    have s29 := c16 (by first | decide | omega)
    have p202 : ∀ (n : Nat) (h199 : xh), 4294967296 - h199 75 7 < n → h199 75 13 + h 75 7 ≤ h199 75 7 + h 75 13 → h199 75 10 = h 75 10 → h 75 7 ≤ h199 75 7 → h 75 13 ≤ h199 75 13 → J h199 → Fr 97517569 h7 h199 → Res tB tN (Kd.lp 1) 0 (sk tB tN (h199 75 7)) (Kd.seq 1) 0 (sk tB tN (h 75 7)) → ResF tB tN (Kd.lp 1) 0 (sk tB tN (h199 75 7)) (Kd.seq 1) 0 (sk tB tN (h 75 7)) → Kp h h199 (h 75 13 - 2147483648) → Seg (sg h199) (h 75 13 - 2147483648) (h199 75 13 - 2147483648) → X sc 191 (d + 26) (xI fun r h' => J h' ∧ Fr 97517569 h h' ∧ (2147483648 ≤ r ∧ r ≤ 2147483649) ∧ (r = 2147483649 → h' 75 13 + h 75 7 ≤ h' 75 7 + h 75 13) ∧ (r = 2147483649 → h' 75 10 = h 75 10) ∧ (r = 2147483649 → h 75 7 + 0 ≤ h' 75 7) ∧ (r = 2147483649 → h 75 13 ≤ h' 75 13) ∧ Kp h h' (h 75 13 - 2147483648) ∧ (r = 2147483649 → Seg (sg h') (h 75 13 - 2147483648) (h' 75 13 - 2147483648)) ∧ G tB tN (Kd.seq 1) 0 (sk tB tN (h 75 7)) (rs r (sk tB tN (h' 75 7))) ∧ (r = 2147483648 → GF tB tN (Kd.seq 1) 0 (sk tB tN (h 75 7)) (h' 75 9))) 0 0 9 [x_r 75] [] h199 := by
      intro n
      induction n with
      | zero => intro h199 q211; exact absurd q211 (Nat.not_lt_zero _)
      | succ n i212 =>
        intro h199 q211 b203 b204 b205 b206 j201 f200 m207 m208 m209 m210
        have f213 := Fr.trans f19 f200 (by decide)
        refine x_aload (np := 10) (x := 0) (by decide +kernel) rfl (x_nc_le (by decide)) ?_
        refine x_ldcwB (i := 31) (idx := 257) (tx := "and") (by rw [tb_y191]; exact List.mem_of_getElem? (i := 66) rfl) (by decide) (by rw [tb_b191]; decide +kernel) ?_
        have m218 := Tq.fr hT f9 (by decide) (by decide)
        have m217 := Tq.fr m218 f200 (by decide) (by decide)
        refine x_cI (t := 6) (mj := 171) (n := 2) (rc := 12) (ml := 2) (nr := 0) (np := 16) (as := [x_r 75, x_b (31 + 1)]) (rest := []) (lo1 := [x_r 75, x_b (31 + 1)]) (by decide +kernel) (by decide) (by decide +kernel) (x_rb_of (by decide +kernel)) rfl rfl (x_wr (by decide) (x_wB (by decide) x_wn)) x_wn (by decide) rfl (c171_75_S0 j201  (by decide) m217) (fun v214 h219 l215 q216 => ?_)
        obtain ⟨j220, f221, b222, c223, c224, c225, c226⟩ := q216
        have f227 := Fr.trans f213 f221 (by decide)
        have f228 := Fr.trans f200 f221 (by decide)
        have b229 := jB (e := 7) 0 j201 rg_75_7_0_1 (by first | decide | omega) (by first | decide | omega)
        have b230 := jB (e := 7) 0 j220 rg_75_7_0_1 (by first | decide | omega) (by first | decide | omega)
        refine x_ifz (k := 0) (tg := 38) (np := 19) (by decide +kernel) (by decide) l215 (fun q231 => ?_) (fun q232 => ?_)
        · have q231 : v214 = 2147483648 := q231
          refine x_const (np := 39) (x := 9223372043297226753) (a := 2147483649) (by decide +kernel) (by decide) (by decide) ?_
          have q233 : h219 75 13 = h199 75 13 := jK 0 f221 rg_75_13_0_1 (by first | decide | omega) (by first | decide | omega) (by decide)
          have b234 := jB (e := 13) 0 j201 rg_75_13_0_1 (by first | decide | omega) (by first | decide | omega)
          have q235 : h219 75 10 = h199 75 10 := jK 0 f221 rg_75_10_0_1 (by first | decide | omega) (by first | decide | omega) (by decide)
          have b236 := jB (e := 10) 0 j201 rg_75_10_0_1 (by first | decide | omega) (by first | decide | omega)
          have q237 : h219 75 13 = h199 75 13 := jK 0 f221 rg_75_13_0_1 (by first | decide | omega) (by first | decide | omega) (by decide)
          have k239 : Kp h h199 (h 75 13 - 2147483648) := Kp.less m209 (by first | decide | omega)
          have k238 : Kp h h219 (h 75 13 - 2147483648) := Kp.fr k239 f221 (by first | decide | omega) (by decide)
          have q240 : h219 75 13 = h199 75 13 := jK 0 f221 rg_75_13_0_1 (by first | decide | omega) (by first | decide | omega) (by decide)
          have k241 : Kp h199 h219 (h199 75 13 - 2147483648) := Kp.fr Kp.refl f221 (by first | decide | omega) (by decide)
          have s242 : Seg (sg h219) (h 75 13 - 2147483648) (h219 75 13 - 2147483648) := Seg.cast (Seg.kp m210 k241) (by first | decide | omega) (by first | decide | omega)
          obtain ⟨w243, e244⟩ := Tk.no c225 (by first | decide | omega)
          refine x_retI (np := 40) (x := 0) (by decide +kernel) (by decide) (Or.inr ⟨by decide +kernel, by first | decide | omega, by first | decide | omega⟩) ⟨_, rfl, (by decide), ?_⟩
          exact ⟨j220, f227, (by first | decide | omega), (fun z => by first | decide | omega), (fun z => by first | decide | omega), (fun z => by first | decide | omega), (fun z => by first | decide | omega), k238, (fun _ => s242), (gQ_e (t := 1) m207 w243 rfl (by first | decide | omega) ((Eq.symm e244))), (fun z => absurd z (by first | decide | omega))⟩
        have q232 : ¬ (v214 = 2147483648) := q232
        have b245 := c224 (by first | decide | omega)
        refine x_aload (np := 20) (x := 0) (by decide +kernel) rfl (x_nc_le (by decide)) ?_
        have q246 : h219 75 10 = h199 75 10 := jK 0 f221 rg_75_10_0_1 (by first | decide | omega) (by first | decide | omega) (by decide)
        have b247 := jB (e := 10) 0 j201 rg_75_10_0_1 (by first | decide | omega) (by first | decide | omega)
        have q248 : h219 75 13 = h199 75 13 := jK 0 f221 rg_75_13_0_1 (by first | decide | omega) (by first | decide | omega) (by decide)
        have b249 := jB (e := 13) 0 j201 rg_75_13_0_1 (by first | decide | omega) (by first | decide | omega)
        have q250 : h219 75 10 = h199 75 10 := jK 0 f221 rg_75_10_0_1 (by first | decide | omega) (by first | decide | omega) (by decide)
        have m254 := Tq.fr m217 f221 (by decide) (by decide)
        refine x_cI (t := 6) (mj := 190) (n := 1) (rc := 12) (ml := 3) (nr := 0) (np := 23) (as := [x_r 75]) (rest := []) (lo1 := [x_r 75, 147573952589676412928, 147573952589676412928]) (by decide +kernel) (by decide) (by decide +kernel) (x_rb_of (by decide +kernel)) rfl rfl (x_wr (by decide) x_wn) x_wn (by decide) rfl (c190_75_D0 j220  (by first | decide | omega) (by first | decide | omega) m254) (fun v251 h255 l252 q253 => ?_)
        obtain ⟨j256, f257, b258, c259, c260, c261, c262, c263, c264, c265, c266⟩ := q253
        have f267 := Fr.trans f227 f257 (by decide)
        have f268 := Fr.trans f228 f257 (by decide)
        have q269 : h219 75 13 = h199 75 13 := jK 0 f221 rg_75_13_0_1 (by first | decide | omega) (by first | decide | omega) (by decide)
        have b270 := jB (e := 13) 0 j256 rg_75_13_0_1 (by first | decide | omega) (by first | decide | omega)
        have b271 := jB (e := 7) 0 j256 rg_75_7_0_1 (by first | decide | omega) (by first | decide | omega)
        have q272 : h219 75 10 = h199 75 10 := jK 0 f221 rg_75_10_0_1 (by first | decide | omega) (by first | decide | omega) (by decide)
        have b273 := jB (e := 10) 0 j256 rg_75_10_0_1 (by first | decide | omega) (by first | decide | omega)
        have q274 : h219 75 13 = h199 75 13 := jK 0 f221 rg_75_13_0_1 (by first | decide | omega) (by first | decide | omega) (by decide)
        refine x_ifz (k := 1) (tg := 28) (np := 26) (by decide +kernel) (by decide) l252 (fun q275 => ?_) (fun q276 => ?_)
        · have q275 : v251 ≠ 2147483648 := q275
          have b277 := c259 (by first | decide | omega)
          have b278 := c260 (by first | decide | omega)
          have b279 := c261 (by first | decide | omega)
          have b280 := c262 (by first | decide | omega)
          have s281 := c264 (by first | decide | omega)
          have q282 : h219 75 13 = h199 75 13 := jK 0 f221 rg_75_13_0_1 (by first | decide | omega) (by first | decide | omega) (by decide)
          refine x_aload (np := 29) (x := 0) (by decide +kernel) rfl (x_nc_le (by decide)) ?_
          refine x_const (np := 31) (x := 9223372094836834317) (a := 2147483661) (by decide +kernel) (by decide) (by decide) ?_
          refine x_const (np := 32) (x := 9223372039002259456) (a := 2147483648) (by decide +kernel) (by decide) (by decide) ?_
          refine x_nV (t := 6) (mj := 187) (n := 3) (rc := 12) (ml := 3) (nr := 0) (np := 35) (as := [x_r 75, iv_c 2147483661, iv_c 2147483648]) (rest := []) (lo1 := [x_r 75, iv_c 2147483661, iv_c 2147483648]) (by decide +kernel) (by decide) (by decide +kernel) (x_rb_of (by decide +kernel)) rfl rfl (x_wr (by decide) (x_wi (by decide) (x_wi (by decide) x_wn))) x_wn (by decide) rfl ?_
          refine x_aload (np := 1) (x := 0) (by decide +kernel) rfl (x_nc_le (by decide)) ?_
          have q283 : h255 75 1 = 76 := by have z := jB (e := 1) 0 j256 rg_75_1_0_1 (by decide) (by decide); omega
          refine x_getR (np := 4) (x := 705) (f := 1) (q := 76) (by decide +kernel) (by decide) (by decide +kernel) q283 ?_
          refine x_const (np := 7) (x := 9223376986804585600) (a := 2147484800) (by decide +kernel) (by decide) (by decide) ?_
          refine x_const (np := 8) (x := 9223372047592194050) (a := 2147483650) (by decide +kernel) (by decide) (by decide) ?_
          refine x_aload (np := 9) (x := 0) (by decide +kernel) rfl (x_nc_le (by decide)) ?_
          refine x_getC (np := 12) (x := 717) (f := 13) (q := (h255 75 13)) (by decide +kernel) (by decide) (by decide +kernel) rfl (fun l284 => ?_)
          obtain ⟨u285, q286⟩ : ∃ z, (h255 75 13) = 2147483648 + z := ⟨(h255 75 13) - 2147483648, by first | decide | omega⟩
          refine x_imul (np := 13) (x := 0) (i := 2) (j := u285) (v := (2147483648 + 2 * u285)) (by decide +kernel) (by first | decide | omega) (by first | decide | omega) (by first | decide | omega) (by first | decide | omega) (by decide) l284 ?_
          refine x_iadd (np := 14) (x := 0) (v := (2147484800 + 2 * u285)) (by decide +kernel) (by decide) (by first | decide | omega) (by first | decide | omega) (by first | decide | omega) ?_
          refine x_iload (np := 15) (x := 1) (by decide +kernel) rfl (by decide) ?_
          refine x_ast (np := 16) (x := 0) (kd := 1) (n := 1952) (i := (1152 + 2 * u285)) (by decide +kernel) (Or.inl rfl) (by decide +kernel) (by first | decide | omega) (by first | decide | omega) (by decide) (by decide) (fun z => absurd z (by decide)) ?_
          have j289 := jU (e := (1152 + 2 * u285)) (v := 2147483661) u285 j256 rg_76_1152_2_394 (by first | decide | omega) (by first | decide | omega) (by first | decide | omega)
          have f291 := jF (e := (1152 + 2 * u285)) (v := 2147483661) u285 f267 rg_76_1152_2_394 (by first | decide | omega) (by first | decide | omega) (by decide)
          have f292 := jF (e := (1152 + 2 * u285)) (v := 2147483661) u285 f268 rg_76_1152_2_394 (by first | decide | omega) (by first | decide | omega) (by decide)
          generalize e290 : x_up h255 76 (1152 + 2 * u285) 2147483661 = h288 at j289 f291 f292 ⊢
          refine x_aload (np := 17) (x := 0) (by decide +kernel) rfl (x_nc_le (by decide)) ?_
          have q293 : h288 75 1 = 76 := by have z := jB (e := 1) 0 j289 rg_75_1_0_1 (by decide) (by decide); omega
          refine x_getR (np := 20) (x := 705) (f := 1) (q := 76) (by decide +kernel) (by decide) (by decide +kernel) q293 ?_
          refine x_const (np := 23) (x := 9223376986804585600) (a := 2147484800) (by decide +kernel) (by decide) (by decide) ?_
          refine x_const (np := 24) (x := 9223372047592194050) (a := 2147483650) (by decide +kernel) (by decide) (by decide) ?_
          refine x_aload (np := 25) (x := 0) (by decide +kernel) rfl (x_nc_le (by decide)) ?_
          have q294 : h288 75 13 = h255 75 13 := by rw [← e290]; exact x_up_k (by decide)
          refine x_getC (np := 28) (x := 717) (f := 13) (q := (h255 75 13)) (by decide +kernel) (by decide) (by decide +kernel) q294 (fun l295 => ?_)
          refine x_imul (np := 29) (x := 0) (i := 2) (j := u285) (v := (2147483648 + 2 * u285)) (by decide +kernel) (by first | decide | omega) (by first | decide | omega) (by first | decide | omega) (by first | decide | omega) (by decide) l284 ?_
          refine x_iadd (np := 30) (x := 0) (v := (2147484800 + 2 * u285)) (by decide +kernel) (by decide) (by first | decide | omega) (by first | decide | omega) (by first | decide | omega) ?_
          refine x_const (np := 31) (x := 9223372043297226753) (a := 2147483649) (by decide +kernel) (by decide) (by decide) ?_
          refine x_iadd (np := 32) (x := 0) (v := (2147484801 + 2 * u285)) (by decide +kernel) (by first | decide | omega) (by decide) (by first | decide | omega) (by first | decide | omega) ?_
          refine x_iload (np := 33) (x := 2) (by decide +kernel) rfl (by decide) ?_
          refine x_ast (np := 34) (x := 0) (kd := 1) (n := 1952) (i := (1153 + 2 * u285)) (by decide +kernel) (Or.inl rfl) (by decide +kernel) (by first | decide | omega) (by first | decide | omega) (by decide) (by decide) (fun z => absurd z (by decide)) ?_
          have j298 := jU (e := (1153 + 2 * u285)) (v := 2147483648) u285 j289 rg_76_1153_2_394 (by first | decide | omega) (by first | decide | omega) (by first | decide | omega)
          have f300 := jF (e := (1153 + 2 * u285)) (v := 2147483648) u285 f291 rg_76_1153_2_394 (by first | decide | omega) (by first | decide | omega) (by decide)
          have f301 := jF (e := (1153 + 2 * u285)) (v := 2147483648) u285 f292 rg_76_1153_2_394 (by first | decide | omega) (by first | decide | omega) (by decide)
          generalize e299 : x_up h288 76 (1153 + 2 * u285) 2147483648 = h297 at j298 f300 f301 ⊢
          refine x_aload (np := 35) (x := 0) (by decide +kernel) rfl (x_nc_le (by decide)) ?_
          refine x_dup (np := 36) (x := 0) (by decide +kernel) (by have z := x_nc_le (k := 75) (by decide); unfold x_r; omega) ?_
          have q302 : h297 75 13 = h288 75 13 := by rw [← e299]; exact x_up_k (by decide)
          have q303 : h288 75 13 = h255 75 13 := by rw [← e290]; exact x_up_k (by decide)
          refine x_getC (np := 39) (x := 717) (f := 13) (q := (h255 75 13)) (by decide +kernel) (by decide) (by decide +kernel) (q302.trans q303) (fun l304 => ?_)
          refine x_const (np := 40) (x := 9223372043297226753) (a := 2147483649) (by decide +kernel) (by decide) (by decide) ?_
          refine x_iadd (np := 41) (x := 0) (v := (1 + (h255 75 13))) (by decide +kernel) l284 (by decide) (by first | decide | omega) (by first | decide | omega) ?_
          refine x_putI (np := 44) (x := 717) (f := 13) (by decide +kernel) (by decide +kernel) (by first | decide | omega) (Or.inl (by decide)) ?_
          have j306 := jU (e := 13) (v := (1 + (h255 75 13))) 0 j298 rg_75_13_0_1 (by first | decide | omega) (by first | decide | omega) (by first | decide | omega)
          have f308 := jF (e := 13) (v := (1 + (h255 75 13))) 0 f300 rg_75_13_0_1 (by first | decide | omega) (by first | decide | omega) (by decide)
          have f309 := jF (e := 13) (v := (1 + (h255 75 13))) 0 f301 rg_75_13_0_1 (by first | decide | omega) (by first | decide | omega) (by decide)
          generalize e307 : x_up h297 75 13 (1 + (h255 75 13)) = h305 at j306 f308 f309 ⊢
          refine x_retV (np := 45) (x := 0) (by decide +kernel) (by decide +kernel) ⟨rfl, ?_⟩
          have q310 : h305 75 13 = (1 + (h255 75 13)) := by rw [← e307]; exact x_up_at
          refine x_goto (np := 38) (x := 9) (by decide +kernel) ?_
          have q311 : h305 75 7 = h297 75 7 := by rw [← e307]; exact x_up_i (by first | decide | omega)
          have q312 : h297 75 7 = h288 75 7 := by rw [← e299]; exact x_up_k (by decide)
          have q313 : h288 75 7 = h255 75 7 := by rw [← e290]; exact x_up_k (by decide)
          have q314 : h305 75 7 = h297 75 7 := by rw [← e307]; exact x_up_i (by first | decide | omega)
          have q315 : h297 75 7 = h288 75 7 := by rw [← e299]; exact x_up_k (by decide)
          have q316 : h288 75 7 = h255 75 7 := by rw [← e290]; exact x_up_k (by decide)
          have q317 : h305 75 13 = (1 + (h255 75 13)) := by rw [← e307]; exact x_up_at
          have q318 : h305 75 10 = h297 75 10 := by rw [← e307]; exact x_up_i (by first | decide | omega)
          have q319 : h297 75 10 = h288 75 10 := by rw [← e299]; exact x_up_k (by decide)
          have q320 : h288 75 10 = h255 75 10 := by rw [← e290]; exact x_up_k (by decide)
          obtain ⟨w321, e322⟩ := Tk.yes c225 (by first | decide | omega)
          have q323 : h305 75 7 = h297 75 7 := by rw [← e307]; exact x_up_i (by first | decide | omega)
          have q324 : h297 75 7 = h288 75 7 := by rw [← e299]; exact x_up_k (by decide)
          have q325 : h288 75 7 = h255 75 7 := by rw [← e290]; exact x_up_k (by decide)
          obtain ⟨w326, e327⟩ := Tk.yes c225 (by first | decide | omega)
          have q328 : h305 75 7 = h297 75 7 := by rw [← e307]; exact x_up_i (by first | decide | omega)
          have q329 : h297 75 7 = h288 75 7 := by rw [← e299]; exact x_up_k (by decide)
          have q330 : h288 75 7 = h255 75 7 := by rw [← e290]; exact x_up_k (by decide)
          have k336 : Kp h h199 (h 75 13 - 2147483648) := Kp.less m209 (by first | decide | omega)
          have k335 : Kp h h219 (h 75 13 - 2147483648) := Kp.fr k336 f221 (by first | decide | omega) (by decide)
          have q337 : h219 75 13 = h199 75 13 := jK 0 f221 rg_75_13_0_1 (by first | decide | omega) (by first | decide | omega) (by decide)
          have k334 : Kp h h255 (h 75 13 - 2147483648) := Kp.trans k335 c263 (by first | decide | omega)
          have k333 : Kp h h288 (h 75 13 - 2147483648) := by rw [← e290]; exact Kp.up k334 (by first | decide | omega) (fun i hi => by first | decide | omega)
          have k332 : Kp h h297 (h 75 13 - 2147483648) := by rw [← e299]; exact Kp.up k333 (by first | decide | omega) (fun i hi => by first | decide | omega)
          have k331 : Kp h h305 (h 75 13 - 2147483648) := by rw [← e307]; exact Kp.oth k332 (by decide)
          have q338 : h305 75 13 = (1 + (h255 75 13)) := by rw [← e307]; exact x_up_at
          have q340 : h305 76 (1152 + 2 * u285) = h297 76 (1152 + 2 * u285) := by rw [← e307]; exact x_up_k (by decide)
          have q341 : h297 76 (1152 + 2 * u285) = h288 76 (1152 + 2 * u285) := by rw [← e299]; exact x_up_i (by first | decide | omega)
          have q342 : h288 76 (1152 + 2 * u285) = 2147483661 := by rw [← e290]; exact x_up_at
          have k347 : Kp h199 h219 (h199 75 13 - 2147483648) := Kp.fr Kp.refl f221 (by first | decide | omega) (by decide)
          have q348 : h219 75 13 = h199 75 13 := jK 0 f221 rg_75_13_0_1 (by first | decide | omega) (by first | decide | omega) (by decide)
          have k346 : Kp h199 h255 (h199 75 13 - 2147483648) := Kp.trans k347 c263 (by first | decide | omega)
          have k345 : Kp h199 h288 (h199 75 13 - 2147483648) := by rw [← e290]; exact Kp.up k346 (by first | decide | omega) (fun i hi => by first | decide | omega)
          have k344 : Kp h199 h297 (h199 75 13 - 2147483648) := by rw [← e299]; exact Kp.up k345 (by first | decide | omega) (fun i hi => by first | decide | omega)
          have k343 : Kp h199 h305 (h199 75 13 - 2147483648) := by rw [← e307]; exact Kp.oth k344 (by decide)
          have k351 : Kp h255 h288 (h255 75 13 - 2147483648) := by rw [← e290]; exact Kp.up Kp.refl (by first | decide | omega) (fun i hi => by first | decide | omega)
          have k350 : Kp h255 h297 (h255 75 13 - 2147483648) := by rw [← e299]; exact Kp.up k351 (by first | decide | omega) (fun i hi => by first | decide | omega)
          have k349 : Kp h255 h305 (h255 75 13 - 2147483648) := by rw [← e307]; exact Kp.oth k350 (by decide)
          have s339 : Seg (sg h305) (h 75 13 - 2147483648) (u285 + 1) := Seg.bin (Seg.kp m210 k343) (Seg.cast (a' := (h199 75 13 - 2147483648)) (b' := u285) (Seg.kp s281 k349) (by first | decide | omega) (by first | decide | omega)) (show 2147483656 < h305 76 (1152 + 2 * u285) by first | decide | omega) (show h305 76 (1152 + 2 * u285) ≠ 2147483660 by first | decide | omega)
          have s352 : Seg (sg h305) (h 75 13 - 2147483648) (h305 75 13 - 2147483648) := Seg.cast (Seg.kp s339 Kp.refl) (by first | decide | omega) (by first | decide | omega)
          exact i212  h305 (by first | decide | omega) (by first | decide | omega) (by first | decide | omega) (by first | decide | omega) (by first | decide | omega) j306 f309 (gQ_st (t := 1) m207 w321 rfl e322 c265 rfl (by first | decide | omega) (congrArg (sk tB tN) (show h255 75 7 = h305 75 7 by first | decide | omega))) (fQ_st (t := 1) m208 w326 rfl e327 c265 rfl (by first | decide | omega) (congrArg (sk tB tN) (show h255 75 7 = h305 75 7 by first | decide | omega))) k331 s352
        have q276 : ¬ (v251 ≠ 2147483648) := q276
        refine x_const (np := 27) (x := 9223372039002259456) (a := 2147483648) (by decide +kernel) (by decide) (by decide) ?_
        have k355 : Kp h h199 (h 75 13 - 2147483648) := Kp.less m209 (by first | decide | omega)
        have k354 : Kp h h219 (h 75 13 - 2147483648) := Kp.fr k355 f221 (by first | decide | omega) (by decide)
        have q356 : h219 75 13 = h199 75 13 := jK 0 f221 rg_75_13_0_1 (by first | decide | omega) (by first | decide | omega) (by decide)
        have k353 : Kp h h255 (h 75 13 - 2147483648) := Kp.trans k354 c263 (by first | decide | omega)
        obtain ⟨w357, e358⟩ := Tk.yes c225 (by first | decide | omega)
        obtain ⟨w359, e360⟩ := Tk.yes c225 (by first | decide | omega)
        refine x_retI (np := 28) (x := 0) (by decide +kernel) (by decide) (Or.inr ⟨by decide +kernel, by first | decide | omega, by first | decide | omega⟩) ⟨_, rfl, (by decide), ?_⟩
        exact ⟨j256, f267, (by first | decide | omega), (fun z => by first | decide | omega), (fun z => by first | decide | omega), (fun z => by first | decide | omega), (fun z => by first | decide | omega), k353, (fun z => absurd z (by first | decide | omega)), (gQ_f (t := 1) m207 w357 rfl e358 c265 rfl (by first | decide | omega) (by first | decide | omega)), (fun _ => fQ_f (t := 1) m208 w359 rfl e360 (c266 (by first | decide | omega)) rfl rfl)⟩
    have k361 : Kp h h7 (h 75 13 - 2147483648) := Kp.less c15 (by first | decide | omega)
    have s362 : Seg (sg h7) (h 75 13 - 2147483648) (h7 75 13 - 2147483648) := Seg.cast (Seg.kp s29 Kp.refl) (by first | decide | omega) (by first | decide | omega)
    exact p202 _  h7 (Nat.lt_succ_self _) (by first | decide | omega) (by first | decide | omega) (by first | decide | omega) (by first | decide | omega) j8 (Fr.refl _ _) (gQ_in (t := 1) c17 rfl (by first | decide | omega) rfl) (fQ_in (t := 1) c17 rfl (by first | decide | omega) rfl) k361 s362
  have q24 : ¬ (v4 ≠ 2147483648) := q24
  refine x_const (np := 8) (x := 9223372039002259456) (a := 2147483648) (by decide +kernel) (by decide) (by decide) ?_
  have k363 : Kp h h7 (h 75 13 - 2147483648) := Kp.less c15 (by first | decide | omega)
  refine x_retI (np := 9) (x := 0) (by decide +kernel) (by decide) (Or.inr ⟨by decide +kernel, by first | decide | omega, by first | decide | omega⟩) ⟨_, rfl, (by decide), ?_⟩
  exact ⟨j8, f19, (by first | decide | omega), (fun z => by first | decide | omega), (fun z => by first | decide | omega), (fun z => by first | decide | omega), (fun z => by first | decide | omega), k363, (fun z => absurd z (by first | decide | omega)), (gQ_no (t := 1) c17 rfl (by first | decide | omega) (by first | decide | omega)), (fun _ => fQ_no (t := 1) (c18 (by first | decide | omega)) rfl rfl)⟩
set_option maxHeartbeats 0 in
/-- LentNamesModel.readCond()Z -/
theorem c192_75_D0 {sc : Nat × Nat} {d  : Nat} {h : xh} {tB : Nat → Nat} {tN : Nat} (hJ : J h) (hr0 : (h 75 13) + 5 ≤ (h 75 7)) (hr1 : (h 75 10) = 2147483648) (hT : Tq tB tN h) : X sc 192 (d + 27) (xI fun r h' => J h' ∧ Fr 97517569 h h' ∧ (2147483648 ≤ r ∧ r ≤ 2147483649) ∧ (r = 2147483649 → h' 75 13 + h 75 7 ≤ h' 75 7 + h 75 13) ∧ (r = 2147483649 → h' 75 10 = h 75 10) ∧ (r = 2147483649 → h 75 7 + 0 ≤ h' 75 7) ∧ (r = 2147483649 → h 75 13 ≤ h' 75 13) ∧ Kp h h' (h 75 13 - 2147483648) ∧ (r = 2147483649 → Seg (sg h') (h 75 13 - 2147483648) (h' 75 13 - 2147483648)) ∧ G tB tN (Kd.seq 2) 0 (sk tB tN (h 75 7)) (rs r (sk tB tN (h' 75 7))) ∧ (r = 2147483648 → GF tB tN (Kd.seq 2) 0 (sk tB tN (h 75 7)) (h' 75 9))) 0 0 0 [x_r 75] [] h := by
  have hF := Fr.refl 97517569 h
  have b1 := jB (e := 13) 0 hJ rg_75_13_0_1 (by first | decide | omega) (by first | decide | omega)
  have b2 := jB (e := 7) 0 hJ rg_75_7_0_1 (by first | decide | omega) (by first | decide | omega)
  have b3 := jB (e := 10) 0 hJ rg_75_10_0_1 (by first | decide | omega) (by first | decide | omega)
  refine x_aload (np := 1) (x := 0) (by decide +kernel) rfl (x_nc_le (by decide)) ?_
  refine x_cI (t := 6) (mj := 191) (n := 1) (rc := 12) (ml := 1) (nr := 0) (np := 4) (as := [x_r 75]) (rest := []) (lo1 := [x_r 75]) (by decide +kernel) (by decide) (by decide +kernel) (x_rb_of (by decide +kernel)) rfl rfl (x_wr (by decide) x_wn) x_wn (by decide) rfl (c191_75_D0 hJ  (by first | decide | omega) (by first | decide | omega) hT) (fun v4 h7 l5 q6 => ?_)
  obtain ⟨j8, f9, b10, c11, c12, c13, c14, c15, c16, c17, c18⟩ := q6
  have f19 := Fr.trans hF f9 (by decide)
  have b20 := jB (e := 13) 0 j8 rg_75_13_0_1 (by first | decide | omega) (by first | decide | omega)
  have b21 := jB (e := 7) 0 j8 rg_75_7_0_1 (by first | decide | omega) (by first | decide | omega)
  have b22 := jB (e := 10) 0 j8 rg_75_10_0_1 (by first | decide | omega) (by first | decide | omega)
  refine x_ifz (k := 1) (tg := 9) (np := 7) (by decide +kernel) (by decide) l5 (fun q23 => ?_) (fun q24 => ?_)
  · have q23 : v4 ≠ 2147483648 := q23
    have b25 := c11 (by first | decide | omega)
    have b26 := c12 (by first | decide | omega)
    have b27 := c13 (by first | decide | omega)
    have b28 := c14 (by first | decide | omega)
    have s29 := c16 (by first | decide | omega)
    have p202 : ∀ (n : Nat) (h199 : xh), 4294967296 - h199 75 7 < n → h199 75 13 + h 75 7 ≤ h199 75 7 + h 75 13 → h199 75 10 = h 75 10 → h 75 7 ≤ h199 75 7 → h 75 13 ≤ h199 75 13 → J h199 → Fr 97517569 h7 h199 → Res tB tN (Kd.lp 2) 0 (sk tB tN (h199 75 7)) (Kd.seq 2) 0 (sk tB tN (h 75 7)) → ResF tB tN (Kd.lp 2) 0 (sk tB tN (h199 75 7)) (Kd.seq 2) 0 (sk tB tN (h 75 7)) → Kp h h199 (h 75 13 - 2147483648) → Seg (sg h199) (h 75 13 - 2147483648) (h199 75 13 - 2147483648) → X sc 192 (d + 27) (xI fun r h' => J h' ∧ Fr 97517569 h h' ∧ (2147483648 ≤ r ∧ r ≤ 2147483649) ∧ (r = 2147483649 → h' 75 13 + h 75 7 ≤ h' 75 7 + h 75 13) ∧ (r = 2147483649 → h' 75 10 = h 75 10) ∧ (r = 2147483649 → h 75 7 + 0 ≤ h' 75 7) ∧ (r = 2147483649 → h 75 13 ≤ h' 75 13) ∧ Kp h h' (h 75 13 - 2147483648) ∧ (r = 2147483649 → Seg (sg h') (h 75 13 - 2147483648) (h' 75 13 - 2147483648)) ∧ G tB tN (Kd.seq 2) 0 (sk tB tN (h 75 7)) (rs r (sk tB tN (h' 75 7))) ∧ (r = 2147483648 → GF tB tN (Kd.seq 2) 0 (sk tB tN (h 75 7)) (h' 75 9))) 0 0 9 [x_r 75] [] h199 := by
      intro n
      induction n with
      | zero => intro h199 q211; exact absurd q211 (Nat.not_lt_zero _)
      | succ n i212 =>
        intro h199 q211 b203 b204 b205 b206 j201 f200 m207 m208 m209 m210
        have f213 := Fr.trans f19 f200 (by decide)
        refine x_aload (np := 10) (x := 0) (by decide +kernel) rfl (x_nc_le (by decide)) ?_
        refine x_ldcB (i := 15) (idx := 179) (tx := "or") (by rw [tb_y192]; exact List.mem_of_getElem? (i := 54) rfl) (by decide) (by rw [tb_b192]; decide +kernel) ?_
        have m218 := Tq.fr hT f9 (by decide) (by decide)
        have m217 := Tq.fr m218 f200 (by decide) (by decide)
        refine x_cI (t := 6) (mj := 171) (n := 2) (rc := 12) (ml := 2) (nr := 0) (np := 15) (as := [x_r 75, x_b (15 + 1)]) (rest := []) (lo1 := [x_r 75, x_b (15 + 1)]) (by decide +kernel) (by decide) (by decide +kernel) (x_rb_of (by decide +kernel)) rfl rfl (x_wr (by decide) (x_wB (by decide) x_wn)) x_wn (by decide) rfl (c171_75_S0 j201  (by decide) m217) (fun v214 h219 l215 q216 => ?_)
        obtain ⟨j220, f221, b222, c223, c224, c225, c226⟩ := q216
        have f227 := Fr.trans f213 f221 (by decide)
        have f228 := Fr.trans f200 f221 (by decide)
        have b229 := jB (e := 7) 0 j201 rg_75_7_0_1 (by first | decide | omega) (by first | decide | omega)
        have b230 := jB (e := 7) 0 j220 rg_75_7_0_1 (by first | decide | omega) (by first | decide | omega)
        refine x_ifz (k := 0) (tg := 37) (np := 18) (by decide +kernel) (by decide) l215 (fun q231 => ?_) (fun q232 => ?_)
        · have q231 : v214 = 2147483648 := q231
          refine x_const (np := 38) (x := 9223372043297226753) (a := 2147483649) (by decide +kernel) (by decide) (by decide) ?_
          have q233 : h219 75 13 = h199 75 13 := jK 0 f221 rg_75_13_0_1 (by first | decide | omega) (by first | decide | omega) (by decide)
          have b234 := jB (e := 13) 0 j201 rg_75_13_0_1 (by first | decide | omega) (by first | decide | omega)
          have q235 : h219 75 10 = h199 75 10 := jK 0 f221 rg_75_10_0_1 (by first | decide | omega) (by first | decide | omega) (by decide)
          have b236 := jB (e := 10) 0 j201 rg_75_10_0_1 (by first | decide | omega) (by first | decide | omega)
          have q237 : h219 75 13 = h199 75 13 := jK 0 f221 rg_75_13_0_1 (by first | decide | omega) (by first | decide | omega) (by decide)
          have k239 : Kp h h199 (h 75 13 - 2147483648) := Kp.less m209 (by first | decide | omega)
          have k238 : Kp h h219 (h 75 13 - 2147483648) := Kp.fr k239 f221 (by first | decide | omega) (by decide)
          have q240 : h219 75 13 = h199 75 13 := jK 0 f221 rg_75_13_0_1 (by first | decide | omega) (by first | decide | omega) (by decide)
          have k241 : Kp h199 h219 (h199 75 13 - 2147483648) := Kp.fr Kp.refl f221 (by first | decide | omega) (by decide)
          have s242 : Seg (sg h219) (h 75 13 - 2147483648) (h219 75 13 - 2147483648) := Seg.cast (Seg.kp m210 k241) (by first | decide | omega) (by first | decide | omega)
          obtain ⟨w243, e244⟩ := Tk.no c225 (by first | decide | omega)
          refine x_retI (np := 39) (x := 0) (by decide +kernel) (by decide) (Or.inr ⟨by decide +kernel, by first | decide | omega, by first | decide | omega⟩) ⟨_, rfl, (by decide), ?_⟩
          exact ⟨j220, f227, (by first | decide | omega), (fun z => by first | decide | omega), (fun z => by first | decide | omega), (fun z => by first | decide | omega), (fun z => by first | decide | omega), k238, (fun _ => s242), (gQ_e (t := 2) m207 w243 rfl (by first | decide | omega) ((Eq.symm e244))), (fun z => absurd z (by first | decide | omega))⟩
        have q232 : ¬ (v214 = 2147483648) := q232
        have b245 := c224 (by first | decide | omega)
        refine x_aload (np := 19) (x := 0) (by decide +kernel) rfl (x_nc_le (by decide)) ?_
        have q246 : h219 75 10 = h199 75 10 := jK 0 f221 rg_75_10_0_1 (by first | decide | omega) (by first | decide | omega) (by decide)
        have b247 := jB (e := 10) 0 j201 rg_75_10_0_1 (by first | decide | omega) (by first | decide | omega)
        have q248 : h219 75 13 = h199 75 13 := jK 0 f221 rg_75_13_0_1 (by first | decide | omega) (by first | decide | omega) (by decide)
        have b249 := jB (e := 13) 0 j201 rg_75_13_0_1 (by first | decide | omega) (by first | decide | omega)
        have q250 : h219 75 10 = h199 75 10 := jK 0 f221 rg_75_10_0_1 (by first | decide | omega) (by first | decide | omega) (by decide)
        have m254 := Tq.fr m217 f221 (by decide) (by decide)
        refine x_cI (t := 6) (mj := 191) (n := 1) (rc := 12) (ml := 1) (nr := 0) (np := 22) (as := [x_r 75]) (rest := []) (lo1 := [x_r 75]) (by decide +kernel) (by decide) (by decide +kernel) (x_rb_of (by decide +kernel)) rfl rfl (x_wr (by decide) x_wn) x_wn (by decide) rfl (c191_75_D0 j220  (by first | decide | omega) (by first | decide | omega) m254) (fun v251 h255 l252 q253 => ?_)
        obtain ⟨j256, f257, b258, c259, c260, c261, c262, c263, c264, c265, c266⟩ := q253
        have f267 := Fr.trans f227 f257 (by decide)
        have f268 := Fr.trans f228 f257 (by decide)
        have q269 : h219 75 13 = h199 75 13 := jK 0 f221 rg_75_13_0_1 (by first | decide | omega) (by first | decide | omega) (by decide)
        have b270 := jB (e := 13) 0 j256 rg_75_13_0_1 (by first | decide | omega) (by first | decide | omega)
        have b271 := jB (e := 7) 0 j256 rg_75_7_0_1 (by first | decide | omega) (by first | decide | omega)
        have q272 : h219 75 10 = h199 75 10 := jK 0 f221 rg_75_10_0_1 (by first | decide | omega) (by first | decide | omega) (by decide)
        have b273 := jB (e := 10) 0 j256 rg_75_10_0_1 (by first | decide | omega) (by first | decide | omega)
        have q274 : h219 75 13 = h199 75 13 := jK 0 f221 rg_75_13_0_1 (by first | decide | omega) (by first | decide | omega) (by decide)
        refine x_ifz (k := 1) (tg := 27) (np := 25) (by decide +kernel) (by decide) l252 (fun q275 => ?_) (fun q276 => ?_)
        · have q275 : v251 ≠ 2147483648 := q275
          have b277 := c259 (by first | decide | omega)
          have b278 := c260 (by first | decide | omega)
          have b279 := c261 (by first | decide | omega)
          have b280 := c262 (by first | decide | omega)
          have s281 := c264 (by first | decide | omega)
          have q282 : h219 75 13 = h199 75 13 := jK 0 f221 rg_75_13_0_1 (by first | decide | omega) (by first | decide | omega) (by decide)
          refine x_aload (np := 28) (x := 0) (by decide +kernel) rfl (x_nc_le (by decide)) ?_
          refine x_const (np := 30) (x := 9223372099131801614) (a := 2147483662) (by decide +kernel) (by decide) (by decide) ?_
          refine x_const (np := 31) (x := 9223372039002259456) (a := 2147483648) (by decide +kernel) (by decide) (by decide) ?_
          refine x_nV (t := 6) (mj := 187) (n := 3) (rc := 12) (ml := 3) (nr := 0) (np := 34) (as := [x_r 75, iv_c 2147483662, iv_c 2147483648]) (rest := []) (lo1 := [x_r 75, iv_c 2147483662, iv_c 2147483648]) (by decide +kernel) (by decide) (by decide +kernel) (x_rb_of (by decide +kernel)) rfl rfl (x_wr (by decide) (x_wi (by decide) (x_wi (by decide) x_wn))) x_wn (by decide) rfl ?_
          refine x_aload (np := 1) (x := 0) (by decide +kernel) rfl (x_nc_le (by decide)) ?_
          have q283 : h255 75 1 = 76 := by have z := jB (e := 1) 0 j256 rg_75_1_0_1 (by decide) (by decide); omega
          refine x_getR (np := 4) (x := 705) (f := 1) (q := 76) (by decide +kernel) (by decide) (by decide +kernel) q283 ?_
          refine x_const (np := 7) (x := 9223376986804585600) (a := 2147484800) (by decide +kernel) (by decide) (by decide) ?_
          refine x_const (np := 8) (x := 9223372047592194050) (a := 2147483650) (by decide +kernel) (by decide) (by decide) ?_
          refine x_aload (np := 9) (x := 0) (by decide +kernel) rfl (x_nc_le (by decide)) ?_
          refine x_getC (np := 12) (x := 717) (f := 13) (q := (h255 75 13)) (by decide +kernel) (by decide) (by decide +kernel) rfl (fun l284 => ?_)
          obtain ⟨u285, q286⟩ : ∃ z, (h255 75 13) = 2147483648 + z := ⟨(h255 75 13) - 2147483648, by first | decide | omega⟩
          refine x_imul (np := 13) (x := 0) (i := 2) (j := u285) (v := (2147483648 + 2 * u285)) (by decide +kernel) (by first | decide | omega) (by first | decide | omega) (by first | decide | omega) (by first | decide | omega) (by decide) l284 ?_
          refine x_iadd (np := 14) (x := 0) (v := (2147484800 + 2 * u285)) (by decide +kernel) (by decide) (by first | decide | omega) (by first | decide | omega) (by first | decide | omega) ?_
          refine x_iload (np := 15) (x := 1) (by decide +kernel) rfl (by decide) ?_
          refine x_ast (np := 16) (x := 0) (kd := 1) (n := 1952) (i := (1152 + 2 * u285)) (by decide +kernel) (Or.inl rfl) (by decide +kernel) (by first | decide | omega) (by first | decide | omega) (by decide) (by decide) (fun z => absurd z (by decide)) ?_
          have j289 := jU (e := (1152 + 2 * u285)) (v := 2147483662) u285 j256 rg_76_1152_2_394 (by first | decide | omega) (by first | decide | omega) (by first | decide | omega)
          have f291 := jF (e := (1152 + 2 * u285)) (v := 2147483662) u285 f267 rg_76_1152_2_394 (by first | decide | omega) (by first | decide | omega) (by decide)
          have f292 := jF (e := (1152 + 2 * u285)) (v := 2147483662) u285 f268 rg_76_1152_2_394 (by first | decide | omega) (by first | decide | omega) (by decide)
          generalize e290 : x_up h255 76 (1152 + 2 * u285) 2147483662 = h288 at j289 f291 f292 ⊢
          refine x_aload (np := 17) (x := 0) (by decide +kernel) rfl (x_nc_le (by decide)) ?_
          have q293 : h288 75 1 = 76 := by have z := jB (e := 1) 0 j289 rg_75_1_0_1 (by decide) (by decide); omega
          refine x_getR (np := 20) (x := 705) (f := 1) (q := 76) (by decide +kernel) (by decide) (by decide +kernel) q293 ?_
          refine x_const (np := 23) (x := 9223376986804585600) (a := 2147484800) (by decide +kernel) (by decide) (by decide) ?_
          refine x_const (np := 24) (x := 9223372047592194050) (a := 2147483650) (by decide +kernel) (by decide) (by decide) ?_
          refine x_aload (np := 25) (x := 0) (by decide +kernel) rfl (x_nc_le (by decide)) ?_
          have q294 : h288 75 13 = h255 75 13 := by rw [← e290]; exact x_up_k (by decide)
          refine x_getC (np := 28) (x := 717) (f := 13) (q := (h255 75 13)) (by decide +kernel) (by decide) (by decide +kernel) q294 (fun l295 => ?_)
          refine x_imul (np := 29) (x := 0) (i := 2) (j := u285) (v := (2147483648 + 2 * u285)) (by decide +kernel) (by first | decide | omega) (by first | decide | omega) (by first | decide | omega) (by first | decide | omega) (by decide) l284 ?_
          refine x_iadd (np := 30) (x := 0) (v := (2147484800 + 2 * u285)) (by decide +kernel) (by decide) (by first | decide | omega) (by first | decide | omega) (by first | decide | omega) ?_
          refine x_const (np := 31) (x := 9223372043297226753) (a := 2147483649) (by decide +kernel) (by decide) (by decide) ?_
          refine x_iadd (np := 32) (x := 0) (v := (2147484801 + 2 * u285)) (by decide +kernel) (by first | decide | omega) (by decide) (by first | decide | omega) (by first | decide | omega) ?_
          refine x_iload (np := 33) (x := 2) (by decide +kernel) rfl (by decide) ?_
          refine x_ast (np := 34) (x := 0) (kd := 1) (n := 1952) (i := (1153 + 2 * u285)) (by decide +kernel) (Or.inl rfl) (by decide +kernel) (by first | decide | omega) (by first | decide | omega) (by decide) (by decide) (fun z => absurd z (by decide)) ?_
          have j298 := jU (e := (1153 + 2 * u285)) (v := 2147483648) u285 j289 rg_76_1153_2_394 (by first | decide | omega) (by first | decide | omega) (by first | decide | omega)
          have f300 := jF (e := (1153 + 2 * u285)) (v := 2147483648) u285 f291 rg_76_1153_2_394 (by first | decide | omega) (by first | decide | omega) (by decide)
          have f301 := jF (e := (1153 + 2 * u285)) (v := 2147483648) u285 f292 rg_76_1153_2_394 (by first | decide | omega) (by first | decide | omega) (by decide)
          generalize e299 : x_up h288 76 (1153 + 2 * u285) 2147483648 = h297 at j298 f300 f301 ⊢
          refine x_aload (np := 35) (x := 0) (by decide +kernel) rfl (x_nc_le (by decide)) ?_
          refine x_dup (np := 36) (x := 0) (by decide +kernel) (by have z := x_nc_le (k := 75) (by decide); unfold x_r; omega) ?_
          have q302 : h297 75 13 = h288 75 13 := by rw [← e299]; exact x_up_k (by decide)
          have q303 : h288 75 13 = h255 75 13 := by rw [← e290]; exact x_up_k (by decide)
          refine x_getC (np := 39) (x := 717) (f := 13) (q := (h255 75 13)) (by decide +kernel) (by decide) (by decide +kernel) (q302.trans q303) (fun l304 => ?_)
          refine x_const (np := 40) (x := 9223372043297226753) (a := 2147483649) (by decide +kernel) (by decide) (by decide) ?_
          refine x_iadd (np := 41) (x := 0) (v := (1 + (h255 75 13))) (by decide +kernel) l284 (by decide) (by first | decide | omega) (by first | decide | omega) ?_
          refine x_putI (np := 44) (x := 717) (f := 13) (by decide +kernel) (by decide +kernel) (by first | decide | omega) (Or.inl (by decide)) ?_
          have j306 := jU (e := 13) (v := (1 + (h255 75 13))) 0 j298 rg_75_13_0_1 (by first | decide | omega) (by first | decide | omega) (by first | decide | omega)
          have f308 := jF (e := 13) (v := (1 + (h255 75 13))) 0 f300 rg_75_13_0_1 (by first | decide | omega) (by first | decide | omega) (by decide)
          have f309 := jF (e := 13) (v := (1 + (h255 75 13))) 0 f301 rg_75_13_0_1 (by first | decide | omega) (by first | decide | omega) (by decide)
          generalize e307 : x_up h297 75 13 (1 + (h255 75 13)) = h305 at j306 f308 f309 ⊢
          refine x_retV (np := 45) (x := 0) (by decide +kernel) (by decide +kernel) ⟨rfl, ?_⟩
          have q310 : h305 75 13 = (1 + (h255 75 13)) := by rw [← e307]; exact x_up_at
          refine x_goto (np := 37) (x := 9) (by decide +kernel) ?_
          have q311 : h305 75 7 = h297 75 7 := by rw [← e307]; exact x_up_i (by first | decide | omega)
          have q312 : h297 75 7 = h288 75 7 := by rw [← e299]; exact x_up_k (by decide)
          have q313 : h288 75 7 = h255 75 7 := by rw [← e290]; exact x_up_k (by decide)
          have q314 : h305 75 7 = h297 75 7 := by rw [← e307]; exact x_up_i (by first | decide | omega)
          have q315 : h297 75 7 = h288 75 7 := by rw [← e299]; exact x_up_k (by decide)
          have q316 : h288 75 7 = h255 75 7 := by rw [← e290]; exact x_up_k (by decide)
          have q317 : h305 75 13 = (1 + (h255 75 13)) := by rw [← e307]; exact x_up_at
          have q318 : h305 75 10 = h297 75 10 := by rw [← e307]; exact x_up_i (by first | decide | omega)
          have q319 : h297 75 10 = h288 75 10 := by rw [← e299]; exact x_up_k (by decide)
          have q320 : h288 75 10 = h255 75 10 := by rw [← e290]; exact x_up_k (by decide)
          obtain ⟨w321, e322⟩ := Tk.yes c225 (by first | decide | omega)
          have q323 : h305 75 7 = h297 75 7 := by rw [← e307]; exact x_up_i (by first | decide | omega)
          have q324 : h297 75 7 = h288 75 7 := by rw [← e299]; exact x_up_k (by decide)
          have q325 : h288 75 7 = h255 75 7 := by rw [← e290]; exact x_up_k (by decide)
          obtain ⟨w326, e327⟩ := Tk.yes c225 (by first | decide | omega)
          have q328 : h305 75 7 = h297 75 7 := by rw [← e307]; exact x_up_i (by first | decide | omega)
          have q329 : h297 75 7 = h288 75 7 := by rw [← e299]; exact x_up_k (by decide)
          have q330 : h288 75 7 = h255 75 7 := by rw [← e290]; exact x_up_k (by decide)
          have k336 : Kp h h199 (h 75 13 - 2147483648) := Kp.less m209 (by first | decide | omega)
          have k335 : Kp h h219 (h 75 13 - 2147483648) := Kp.fr k336 f221 (by first | decide | omega) (by decide)
          have q337 : h219 75 13 = h199 75 13 := jK 0 f221 rg_75_13_0_1 (by first | decide | omega) (by first | decide | omega) (by decide)
          have k334 : Kp h h255 (h 75 13 - 2147483648) := Kp.trans k335 c263 (by first | decide | omega)
          have k333 : Kp h h288 (h 75 13 - 2147483648) := by rw [← e290]; exact Kp.up k334 (by first | decide | omega) (fun i hi => by first | decide | omega)
          have k332 : Kp h h297 (h 75 13 - 2147483648) := by rw [← e299]; exact Kp.up k333 (by first | decide | omega) (fun i hi => by first | decide | omega)
          have k331 : Kp h h305 (h 75 13 - 2147483648) := by rw [← e307]; exact Kp.oth k332 (by decide)
          have q338 : h305 75 13 = (1 + (h255 75 13)) := by rw [← e307]; exact x_up_at
          have q340 : h305 76 (1152 + 2 * u285) = h297 76 (1152 + 2 * u285) := by rw [← e307]; exact x_up_k (by decide)
          have q341 : h297 76 (1152 + 2 * u285) = h288 76 (1152 + 2 * u285) := by rw [← e299]; exact x_up_i (by first | decide | omega)
          have q342 : h288 76 (1152 + 2 * u285) = 2147483662 := by rw [← e290]; exact x_up_at
          have k347 : Kp h199 h219 (h199 75 13 - 2147483648) := Kp.fr Kp.refl f221 (by first | decide | omega) (by decide)
          have q348 : h219 75 13 = h199 75 13 := jK 0 f221 rg_75_13_0_1 (by first | decide | omega) (by first | decide | omega) (by decide)
          have k346 : Kp h199 h255 (h199 75 13 - 2147483648) := Kp.trans k347 c263 (by first | decide | omega)
          have k345 : Kp h199 h288 (h199 75 13 - 2147483648) := by rw [← e290]; exact Kp.up k346 (by first | decide | omega) (fun i hi => by first | decide | omega)
          have k344 : Kp h199 h297 (h199 75 13 - 2147483648) := by rw [← e299]; exact Kp.up k345 (by first | decide | omega) (fun i hi => by first | decide | omega)
          have k343 : Kp h199 h305 (h199 75 13 - 2147483648) := by rw [← e307]; exact Kp.oth k344 (by decide)
          have k351 : Kp h255 h288 (h255 75 13 - 2147483648) := by rw [← e290]; exact Kp.up Kp.refl (by first | decide | omega) (fun i hi => by first | decide | omega)
          have k350 : Kp h255 h297 (h255 75 13 - 2147483648) := by rw [← e299]; exact Kp.up k351 (by first | decide | omega) (fun i hi => by first | decide | omega)
          have k349 : Kp h255 h305 (h255 75 13 - 2147483648) := by rw [← e307]; exact Kp.oth k350 (by decide)
          have s339 : Seg (sg h305) (h 75 13 - 2147483648) (u285 + 1) := Seg.bin (Seg.kp m210 k343) (Seg.cast (a' := (h199 75 13 - 2147483648)) (b' := u285) (Seg.kp s281 k349) (by first | decide | omega) (by first | decide | omega)) (show 2147483656 < h305 76 (1152 + 2 * u285) by first | decide | omega) (show h305 76 (1152 + 2 * u285) ≠ 2147483660 by first | decide | omega)
          have s352 : Seg (sg h305) (h 75 13 - 2147483648) (h305 75 13 - 2147483648) := Seg.cast (Seg.kp s339 Kp.refl) (by first | decide | omega) (by first | decide | omega)
          exact i212  h305 (by first | decide | omega) (by first | decide | omega) (by first | decide | omega) (by first | decide | omega) (by first | decide | omega) j306 f309 (gQ_st (t := 2) m207 w321 rfl e322 c265 rfl (by first | decide | omega) (congrArg (sk tB tN) (show h255 75 7 = h305 75 7 by first | decide | omega))) (fQ_st (t := 2) m208 w326 rfl e327 c265 rfl (by first | decide | omega) (congrArg (sk tB tN) (show h255 75 7 = h305 75 7 by first | decide | omega))) k331 s352
        have q276 : ¬ (v251 ≠ 2147483648) := q276
        refine x_const (np := 26) (x := 9223372039002259456) (a := 2147483648) (by decide +kernel) (by decide) (by decide) ?_
        have k355 : Kp h h199 (h 75 13 - 2147483648) := Kp.less m209 (by first | decide | omega)
        have k354 : Kp h h219 (h 75 13 - 2147483648) := Kp.fr k355 f221 (by first | decide | omega) (by decide)
        have q356 : h219 75 13 = h199 75 13 := jK 0 f221 rg_75_13_0_1 (by first | decide | omega) (by first | decide | omega) (by decide)
        have k353 : Kp h h255 (h 75 13 - 2147483648) := Kp.trans k354 c263 (by first | decide | omega)
        obtain ⟨w357, e358⟩ := Tk.yes c225 (by first | decide | omega)
        obtain ⟨w359, e360⟩ := Tk.yes c225 (by first | decide | omega)
        refine x_retI (np := 27) (x := 0) (by decide +kernel) (by decide) (Or.inr ⟨by decide +kernel, by first | decide | omega, by first | decide | omega⟩) ⟨_, rfl, (by decide), ?_⟩
        exact ⟨j256, f267, (by first | decide | omega), (fun z => by first | decide | omega), (fun z => by first | decide | omega), (fun z => by first | decide | omega), (fun z => by first | decide | omega), k353, (fun z => absurd z (by first | decide | omega)), (gQ_f (t := 2) m207 w357 rfl e358 c265 rfl (by first | decide | omega) (by first | decide | omega)), (fun _ => fQ_f (t := 2) m208 w359 rfl e360 (c266 (by first | decide | omega)) rfl rfl)⟩
    have k361 : Kp h h7 (h 75 13 - 2147483648) := Kp.less c15 (by first | decide | omega)
    have s362 : Seg (sg h7) (h 75 13 - 2147483648) (h7 75 13 - 2147483648) := Seg.cast (Seg.kp s29 Kp.refl) (by first | decide | omega) (by first | decide | omega)
    exact p202 _  h7 (Nat.lt_succ_self _) (by first | decide | omega) (by first | decide | omega) (by first | decide | omega) (by first | decide | omega) j8 (Fr.refl _ _) (gQ_in (t := 2) c17 rfl (by first | decide | omega) rfl) (fQ_in (t := 2) c17 rfl (by first | decide | omega) rfl) k361 s362
  have q24 : ¬ (v4 ≠ 2147483648) := q24
  refine x_const (np := 8) (x := 9223372039002259456) (a := 2147483648) (by decide +kernel) (by decide) (by decide) ?_
  have k363 : Kp h h7 (h 75 13 - 2147483648) := Kp.less c15 (by first | decide | omega)
  refine x_retI (np := 9) (x := 0) (by decide +kernel) (by decide) (Or.inr ⟨by decide +kernel, by first | decide | omega, by first | decide | omega⟩) ⟨_, rfl, (by decide), ?_⟩
  exact ⟨j8, f19, (by first | decide | omega), (fun z => by first | decide | omega), (fun z => by first | decide | omega), (fun z => by first | decide | omega), (fun z => by first | decide | omega), k363, (fun z => absurd z (by first | decide | omega)), (gQ_no (t := 2) c17 rfl (by first | decide | omega) (by first | decide | omega)), (fun _ => fQ_no (t := 2) (c18 (by first | decide | omega)) rfl rfl)⟩
set_option maxHeartbeats 0 in
/-- LentNamesModel.readCustomLine(I)Z -/
theorem c193_75 {sc : Nat × Nat} {d a1 : Nat} {h : xh} {tB : Nat → Nat} {tN : Nat} (hJ : J h) (ba1 : 2147483648 ≤ a1 ∧ a1 ≤ 2147483657) (hr0 : (h 75 13) ≤ (h 75 9)) (hT : Tq tB tN h) (hp0 : h 75 7 = le9 tB tN (h 75 9)) : X sc 193 (d + 28) (xI fun r h' => J h' ∧ Fr 97517569 h h' ∧ (2147483648 ≤ r ∧ r ≤ 2147483649) ∧ (r = 2147483649 → h' 75 13 ≤ h' 75 7) ∧ Kq h h' (h 75 13 - 2147483648) ∧ Kl h h' (a1 - 2147483648) ∧ (r = 2147483649 → Lg h' (a1 - 2147483648) ∧ h' 76 (1124 + 3 * (a1 - 2147483648)) = h' 75 13 ∧ h 75 13 ≤ h' 75 13) ∧ G tB tN Kd.line 0 (h 75 9) (rs r (sk tB tN (h' 75 7))) ∧ (r = 2147483648 → GF tB tN Kd.line 0 (h 75 9) (h' 75 9))) 0 0 0 [x_r 75, iv_c a1, 147573952589676412928] [] h := by
  have la1 : a1 < 4294967296 := by first | decide | omega
  have hF := Fr.refl 97517569 h
  have b1 := jB (e := 13) 0 hJ rg_75_13_0_1 (by first | decide | omega) (by first | decide | omega)
  have b2 := jB (e := 9) 0 hJ rg_75_9_0_1 (by first | decide | omega) (by first | decide | omega)
  refine x_const (np := 3) (x := 9223376857955566690) (a := 2147484770) (by decide +kernel) (by decide) (by decide) ?_
  refine x_const (np := 4) (x := 9223372051887161347) (a := 2147483651) (by decide +kernel) (by decide) (by decide) ?_
  refine x_iload (np := 5) (x := 1) (by decide +kernel) rfl la1 ?_
  obtain ⟨u3, q4⟩ : ∃ z, a1 = 2147483648 + z := ⟨a1 - 2147483648, by first | decide | omega⟩
  refine x_imul (np := 6) (x := 0) (i := 3) (j := u3) (v := (2147483648 + 3 * u3)) (by decide +kernel) (by first | decide | omega) (by first | decide | omega) (by first | decide | omega) (by first | decide | omega) (by decide) la1 ?_
  refine x_iadd (np := 7) (x := 0) (v := (2147484770 + 3 * u3)) (by decide +kernel) (by decide) (by first | decide | omega) (by first | decide | omega) (by first | decide | omega) ?_
  refine x_istore (np := 8) (x := 2) (lo' := [x_r 75, iv_c a1, iv_c (2147484770 + 3 * u3)]) (by decide +kernel) (by first | decide | omega) (Nat.le_of_ble_eq_true rfl) rfl ?_
  refine x_aload (np := 9) (x := 0) (by decide +kernel) rfl (x_nc_le (by decide)) ?_
  refine x_ldcwB (i := 22) (idx := 262) (tx := "grant") (by rw [tb_y193]; exact List.mem_of_getElem? (i := 56) rfl) (by decide) (by rw [tb_b193]; decide +kernel) ?_
  refine x_cP (t := 6) (mj := 170) (n := 2) (rc := 12) (ml := 4) (nr := 0) (np := 15) (as := [x_r 75, x_b (22 + 1)]) (rest := []) (lo1 := [x_r 75, x_b (22 + 1), 147573952589676412928, 147573952589676412928]) (by decide +kernel) (by decide) (by decide +kernel) (x_rb_of (by decide +kernel)) rfl rfl (x_wr (by decide) (x_wB (by decide) x_wn)) x_wn (by decide) rfl (c170_75_S0 hJ  (by decide) hT) (fun v6 l7 q8 => ?_)
  obtain ⟨b11, c9, c10⟩ := q8
  have b12 := jB (e := 7) 0 hJ rg_75_7_0_1 (by first | decide | omega) (by first | decide | omega)
  have b13 : iv_tl 22 = 5 := by decide
  refine x_ifz (k := 1) (tg := 30) (np := 18) (by decide +kernel) (by decide) l7 (fun q14 => ?_) (fun q15 => ?_)
  · have q14 : v6 ≠ 2147483648 := q14
    have b16 := c9 (by first | decide | omega)
    refine x_aload (np := 31) (x := 0) (by decide +kernel) rfl (x_nc_le (by decide)) ?_
    have q17 : h 75 1 = 76 := by have z := jB (e := 1) 0 hJ rg_75_1_0_1 (by decide) (by decide); omega
    refine x_getR (np := 34) (x := 705) (f := 1) (q := 76) (by decide +kernel) (by decide) (by decide +kernel) q17 ?_
    refine x_iload (np := 35) (x := 2) (by decide +kernel) rfl (by first | decide | omega) ?_
    refine x_aload (np := 36) (x := 0) (by decide +kernel) rfl (x_nc_le (by decide)) ?_
    refine x_ldcwB (i := 22) (idx := 262) (tx := "grant") (by rw [tb_y193]; exact List.mem_of_getElem? (i := 56) rfl) (by decide) (by rw [tb_b193]; decide +kernel) ?_
    refine x_cP (t := 6) (mj := 170) (n := 2) (rc := 12) (ml := 4) (nr := 2) (np := 42) (as := [x_r 75, x_b (22 + 1)]) (rest := [iv_c (2147484770 + 3 * u3), x_r 76]) (lo1 := [x_r 75, x_b (22 + 1), 147573952589676412928, 147573952589676412928]) (by decide +kernel) (by decide) (by decide +kernel) (x_rb_of (by decide +kernel)) rfl rfl (x_wr (by decide) (x_wB (by decide) x_wn)) (x_wi (by first | decide | omega) (x_wr (by decide) x_wn)) (by decide) rfl (c170_75_S0 hJ  (by decide) hT) (fun v18 l19 q20 => ?_)
    obtain ⟨b23, c21, c22⟩ := q20
    have b24 : iv_tl 22 = 5 := by decide
    refine x_ifz (k := 0) (tg := 49) (np := 45) (by decide +kernel) (by decide) l19 (fun q25 => ?_) (fun q26 => ?_)
    · have q25 : v18 = 2147483648 := q25
      refine x_const (np := 50) (x := 9223372039002259456) (a := 2147483648) (by decide +kernel) (by decide) (by decide) ?_
      refine x_ast (np := 51) (x := 0) (kd := 1) (n := 1952) (i := (1122 + 3 * u3)) (by decide +kernel) (Or.inl rfl) (by decide +kernel) (by first | decide | omega) (by first | decide | omega) (by decide) (by decide) (fun z => absurd z (by decide)) ?_
      have j28 := jU (e := (1122 + 3 * u3)) (v := 2147483648) u3 hJ rg_76_1122_3_10 (by first | decide | omega) (by first | decide | omega) (by first | decide | omega)
      have f30 := jF (e := (1122 + 3 * u3)) (v := 2147483648) u3 hF rg_76_1122_3_10 (by first | decide | omega) (by first | decide | omega) (by decide)
      generalize e29 : x_up h 76 (1122 + 3 * u3) 2147483648 = h27 at j28 f30 ⊢
      refine x_aload (np := 52) (x := 0) (by decide +kernel) rfl (x_nc_le (by decide)) ?_
      have q31 : h27 75 1 = 76 := by have z := jB (e := 1) 0 j28 rg_75_1_0_1 (by decide) (by decide); omega
      refine x_getR (np := 55) (x := 705) (f := 1) (q := 76) (by decide +kernel) (by decide) (by decide +kernel) q31 ?_
      refine x_iload (np := 56) (x := 2) (by decide +kernel) rfl (by first | decide | omega) ?_
      refine x_const (np := 57) (x := 9223372043297226753) (a := 2147483649) (by decide +kernel) (by decide) (by decide) ?_
      refine x_iadd (np := 58) (x := 0) (v := (2147484771 + 3 * u3)) (by decide +kernel) (by first | decide | omega) (by decide) (by first | decide | omega) (by first | decide | omega) ?_
      refine x_aload (np := 59) (x := 0) (by decide +kernel) rfl (x_nc_le (by decide)) ?_
      have q32 : h27 75 13 = h 75 13 := by rw [← e29]; exact x_up_k (by decide)
      refine x_getC (np := 62) (x := 717) (f := 13) (q := (h 75 13)) (by decide +kernel) (by decide) (by decide +kernel) q32 (fun l33 => ?_)
      refine x_ast (np := 63) (x := 0) (kd := 1) (n := 1952) (i := (1123 + 3 * u3)) (by decide +kernel) (Or.inl rfl) (by decide +kernel) (by first | decide | omega) (by first | decide | omega) (by decide) l33 (fun z => absurd z (by decide)) ?_
      have j35 := jU (e := (1123 + 3 * u3)) (v := (h 75 13)) u3 j28 rg_76_1123_3_10 (by first | decide | omega) (by first | decide | omega) (by first | decide | omega)
      have f37 := jF (e := (1123 + 3 * u3)) (v := (h 75 13)) u3 f30 rg_76_1123_3_10 (by first | decide | omega) (by first | decide | omega) (by decide)
      generalize e36 : x_up h27 76 (1123 + 3 * u3) (h 75 13) = h34 at j35 f37 ⊢
      refine x_aload (np := 64) (x := 0) (by decide +kernel) rfl (x_nc_le (by decide)) ?_
      refine x_const (np := 65) (x := 9223372039002259456) (a := 2147483648) (by decide +kernel) (by decide) (by decide) ?_
      refine x_putI (np := 68) (x := 714) (f := 10) (by decide +kernel) (by decide +kernel) (by decide) (Or.inl (by decide)) ?_
      have j39 := jU (e := 10) (v := 2147483648) 0 j35 rg_75_10_0_1 (by first | decide | omega) (by first | decide | omega) (by first | decide | omega)
      have f41 := jF (e := 10) (v := 2147483648) 0 f37 rg_75_10_0_1 (by first | decide | omega) (by first | decide | omega) (by decide)
      generalize e40 : x_up h34 75 10 2147483648 = h38 at j39 f41 ⊢
      refine x_aload (np := 69) (x := 0) (by decide +kernel) rfl (x_nc_le (by decide)) ?_
      refine x_ldcwB (i := 23) (idx := 266) (tx := "if") (by rw [tb_y193]; exact List.mem_of_getElem? (i := 58) rfl) (by decide) (by rw [tb_b193]; decide +kernel) ?_
      have m47 : Tq tB tN h27 := by rw [← e29]; exact Tq.oth hT (by decide) (fun z => absurd z.1 (by decide))
      have m46 : Tq tB tN h34 := by rw [← e36]; exact Tq.oth m47 (by decide) (fun z => absurd z.1 (by decide))
      have m45 : Tq tB tN h38 := by rw [← e40]; exact Tq.oth m46 (by decide) (by decide)
      refine x_cI (t := 6) (mj := 171) (n := 2) (rc := 12) (ml := 2) (nr := 0) (np := 75) (as := [x_r 75, x_b (23 + 1)]) (rest := []) (lo1 := [x_r 75, x_b (23 + 1)]) (by decide +kernel) (by decide) (by decide +kernel) (x_rb_of (by decide +kernel)) rfl rfl (x_wr (by decide) (x_wB (by decide) x_wn)) x_wn (by decide) rfl (c171_75_S0 j39  (by decide) m45) (fun v42 h48 l43 q44 => ?_)
      obtain ⟨j49, f50, b51, c52, c53, c54, c55⟩ := q44
      have f56 := Fr.trans f41 f50 (by decide)
      have q57 : h38 75 7 = h34 75 7 := by rw [← e40]; exact x_up_i (by first | decide | omega)
      have q58 : h34 75 7 = h27 75 7 := by rw [← e36]; exact x_up_k (by decide)
      have q59 : h27 75 7 = h 75 7 := by rw [← e29]; exact x_up_k (by decide)
      have b60 := jB (e := 7) 0 j49 rg_75_7_0_1 (by first | decide | omega) (by first | decide | omega)
      have q61 : h38 75 7 = h34 75 7 := by rw [← e40]; exact x_up_i (by first | decide | omega)
      have q62 : h34 75 7 = h27 75 7 := by rw [← e36]; exact x_up_k (by decide)
      have q63 : h27 75 7 = h 75 7 := by rw [← e29]; exact x_up_k (by decide)
      refine x_ifz (k := 0) (tg := 87) (np := 78) (by decide +kernel) (by decide) l43 (fun q64 => ?_) (fun q65 => ?_)
      · have q64 : v42 = 2147483648 := q64
        refine x_aload (np := 88) (x := 0) (by decide +kernel) rfl (x_nc_le (by decide)) ?_
        have q66 : h48 75 1 = 76 := by have z := jB (e := 1) 0 j49 rg_75_1_0_1 (by decide) (by decide); omega
        refine x_getR (np := 91) (x := 705) (f := 1) (q := 76) (by decide +kernel) (by decide) (by decide +kernel) q66 ?_
        refine x_iload (np := 92) (x := 2) (by decide +kernel) rfl (by first | decide | omega) ?_
        refine x_const (np := 93) (x := 9223372047592194050) (a := 2147483650) (by decide +kernel) (by decide) (by decide) ?_
        refine x_iadd (np := 94) (x := 0) (v := (2147484772 + 3 * u3)) (by decide +kernel) (by first | decide | omega) (by decide) (by first | decide | omega) (by first | decide | omega) ?_
        refine x_aload (np := 95) (x := 0) (by decide +kernel) rfl (x_nc_le (by decide)) ?_
        have q67 : h48 75 13 = h38 75 13 := jK 0 f50 rg_75_13_0_1 (by first | decide | omega) (by first | decide | omega) (by decide)
        have q68 : h38 75 13 = h34 75 13 := by rw [← e40]; exact x_up_i (by first | decide | omega)
        have q69 : h34 75 13 = h27 75 13 := by rw [← e36]; exact x_up_k (by decide)
        have q70 : h27 75 13 = h 75 13 := by rw [← e29]; exact x_up_k (by decide)
        refine x_getC (np := 98) (x := 717) (f := 13) (q := (h 75 13)) (by decide +kernel) (by decide) (by decide +kernel) (((q67.trans q68).trans q69).trans q70) (fun l71 => ?_)
        refine x_ast (np := 99) (x := 0) (kd := 1) (n := 1952) (i := (1124 + 3 * u3)) (by decide +kernel) (Or.inl rfl) (by decide +kernel) (by first | decide | omega) (by first | decide | omega) (by decide) l33 (fun z => absurd z (by decide)) ?_
        have j73 := jU (e := (1124 + 3 * u3)) (v := (h 75 13)) u3 j49 rg_76_1124_3_10 (by first | decide | omega) (by first | decide | omega) (by first | decide | omega)
        have f75 := jF (e := (1124 + 3 * u3)) (v := (h 75 13)) u3 f56 rg_76_1124_3_10 (by first | decide | omega) (by first | decide | omega) (by decide)
        generalize e74 : x_up h48 76 (1124 + 3 * u3) (h 75 13) = h72 at j73 f75 ⊢
        refine x_const (np := 100) (x := 9223372043297226753) (a := 2147483649) (by decide +kernel) (by decide) (by decide) ?_
        have q76 : h72 75 13 = h48 75 13 := by rw [← e74]; exact x_up_k (by decide)
        have q77 : h48 75 13 = h38 75 13 := jK 0 f50 rg_75_13_0_1 (by first | decide | omega) (by first | decide | omega) (by decide)
        have q78 : h38 75 13 = h34 75 13 := by rw [← e40]; exact x_up_i (by first | decide | omega)
        have q79 : h34 75 13 = h27 75 13 := by rw [← e36]; exact x_up_k (by decide)
        have q80 : h27 75 13 = h 75 13 := by rw [← e29]; exact x_up_k (by decide)
        have q81 : h72 75 7 = h48 75 7 := by rw [← e74]; exact x_up_k (by decide)
        have q82 : h72 75 13 = h48 75 13 := by rw [← e74]; exact x_up_k (by decide)
        have q83 : h48 75 13 = h38 75 13 := jK 0 f50 rg_75_13_0_1 (by first | decide | omega) (by first | decide | omega) (by decide)
        have q84 : h38 75 13 = h34 75 13 := by rw [← e40]; exact x_up_i (by first | decide | omega)
        have q85 : h34 75 13 = h27 75 13 := by rw [← e36]; exact x_up_k (by decide)
        have q86 : h27 75 13 = h 75 13 := by rw [← e29]; exact x_up_k (by decide)
        have k91 : Kq h h27 (h 75 13 - 2147483648) := by rw [← e29]; exact Kq.up Kq.refl (by first | decide | omega)
        have k90 : Kq h h34 (h 75 13 - 2147483648) := by rw [← e36]; exact Kq.up k91 (by first | decide | omega)
        have k89 : Kq h h38 (h 75 13 - 2147483648) := by rw [← e40]; exact Kq.oth k90 (by decide)
        have k88 : Kq h h48 (h 75 13 - 2147483648) := Kq.fr k89 f50 (by first | decide | omega) (by decide)
        have k87 : Kq h h72 (h 75 13 - 2147483648) := by rw [← e74]; exact Kq.up k88 (by first | decide | omega)
        have k96 : Kl h h27 u3 := by rw [← e29]; exact Kl.up Kl.refl (by first | decide | omega)
        have k95 : Kl h h34 u3 := by rw [← e36]; exact Kl.up k96 (by first | decide | omega)
        have k94 : Kl h h38 u3 := by rw [← e40]; exact Kl.oth k95 (by decide)
        have k93 : Kl h h48 u3 := Kl.fr k94 f50 (by first | decide | omega) (by decide)
        have k92 : Kl h h72 u3 := by rw [← e74]; exact Kl.up k93 (by first | decide | omega)
        have e98 : a1 - 2147483648 = u3 := by first | decide | omega
        have k97 : Kl h h72 (a1 - 2147483648) := by rw [e98]; exact k92
        have q99 : h72 76 (1123 + 3 * u3) = h48 76 (1123 + 3 * u3) := by rw [← e74]; exact x_up_i (by first | decide | omega)
        have q100 : h48 76 (1123 + 3 * u3) = h38 76 (1123 + 3 * u3) := jK u3 f50 rg_76_1123_3_10 (by first | decide | omega) (by first | decide | omega) (by decide)
        have q101 : h38 76 (1123 + 3 * u3) = h34 76 (1123 + 3 * u3) := by rw [← e40]; exact x_up_k (by decide)
        have q102 : h34 76 (1123 + 3 * u3) = (h 75 13) := by rw [← e36]; exact x_up_at
        have q103 : h72 76 (1124 + 3 * u3) = (h 75 13) := by rw [← e74]; exact x_up_at
        have g104 : Lg h72 u3 := Or.inl (show h72 76 (1123 + 3 * u3) = h72 76 (1124 + 3 * u3) by first | decide | omega)
        have g105 : Lg h72 (a1 - 2147483648) ∧ h72 76 (1124 + 3 * (a1 - 2147483648)) = h72 75 13 ∧ h 75 13 ≤ h72 75 13 := by
          rw [e98]
          exact ⟨g104, by first | decide | omega, by first | decide | omega⟩
        have y106 := Is.yes c10 (by first | decide | omega)
        have q107 : h38 75 7 = h34 75 7 := by rw [← e40]; exact x_up_i (by first | decide | omega)
        have q108 : h34 75 7 = h27 75 7 := by rw [← e36]; exact x_up_k (by decide)
        have q109 : h27 75 7 = h 75 7 := by rw [← e29]; exact x_up_k (by decide)
        obtain ⟨w110, e111⟩ := Tk.no c54 (by first | decide | omega)
        have q112 : h72 75 7 = h48 75 7 := by rw [← e74]; exact x_up_k (by decide)
        refine x_retI (np := 101) (x := 0) (by decide +kernel) (by decide) (Or.inr ⟨by decide +kernel, by first | decide | omega, by first | decide | omega⟩) ⟨_, rfl, (by decide), ?_⟩
        exact ⟨j73, f75, (by first | decide | omega), (fun z => by first | decide | omega), k87, k97, (fun _ => g105), (gL_end (i := 22) (by decide) (Wd.of' (by decide) y106 hp0) rfl (congrArg (sk tB tN) ((show h38 75 7 = h 75 7 by first | decide | omega).trans y106.1)) w110 rfl (by first | decide | omega) (Eq.trans (Eq.symm e111) (congrArg (sk tB tN) (show h48 75 7 = h72 75 7 by first | decide | omega)))), (fun z => absurd z (by first | decide | omega))⟩
      have q65 : ¬ (v42 = 2147483648) := q65
      have b113 := c53 (by first | decide | omega)
      refine x_aload (np := 79) (x := 0) (by decide +kernel) rfl (x_nc_le (by decide)) ?_
      have q114 : h48 75 10 = h38 75 10 := jK 0 f50 rg_75_10_0_1 (by first | decide | omega) (by first | decide | omega) (by decide)
      have q115 : h38 75 10 = 2147483648 := by rw [← e40]; exact x_up_at
      have q116 : h48 75 13 = h38 75 13 := jK 0 f50 rg_75_13_0_1 (by first | decide | omega) (by first | decide | omega) (by decide)
      have q117 : h38 75 13 = h34 75 13 := by rw [← e40]; exact x_up_i (by first | decide | omega)
      have q118 : h34 75 13 = h27 75 13 := by rw [← e36]; exact x_up_k (by decide)
      have q119 : h27 75 13 = h 75 13 := by rw [← e29]; exact x_up_k (by decide)
      have q120 : h48 75 10 = h38 75 10 := jK 0 f50 rg_75_10_0_1 (by first | decide | omega) (by first | decide | omega) (by decide)
      have q121 : h38 75 10 = 2147483648 := by rw [← e40]; exact x_up_at
      have m125 := Tq.fr m45 f50 (by decide) (by decide)
      refine x_cI (t := 6) (mj := 192) (n := 1) (rc := 12) (ml := 1) (nr := 0) (np := 82) (as := [x_r 75]) (rest := []) (lo1 := [x_r 75]) (by decide +kernel) (by decide) (by decide +kernel) (x_rb_of (by decide +kernel)) rfl rfl (x_wr (by decide) x_wn) x_wn (by decide) rfl (c192_75_D0 j49  (by first | decide | omega) (by first | decide | omega) m125) (fun v122 h126 l123 q124 => ?_)
      obtain ⟨j127, f128, b129, c130, c131, c132, c133, c134, c135, c136, c137⟩ := q124
      have f138 := Fr.trans f56 f128 (by decide)
      have q139 : h48 75 13 = h38 75 13 := jK 0 f50 rg_75_13_0_1 (by first | decide | omega) (by first | decide | omega) (by decide)
      have q140 : h38 75 13 = h34 75 13 := by rw [← e40]; exact x_up_i (by first | decide | omega)
      have q141 : h34 75 13 = h27 75 13 := by rw [← e36]; exact x_up_k (by decide)
      have q142 : h27 75 13 = h 75 13 := by rw [← e29]; exact x_up_k (by decide)
      have b143 := jB (e := 13) 0 j127 rg_75_13_0_1 (by first | decide | omega) (by first | decide | omega)
      have b144 := jB (e := 7) 0 j127 rg_75_7_0_1 (by first | decide | omega) (by first | decide | omega)
      have q145 : h48 75 10 = h38 75 10 := jK 0 f50 rg_75_10_0_1 (by first | decide | omega) (by first | decide | omega) (by decide)
      have q146 : h38 75 10 = 2147483648 := by rw [← e40]; exact x_up_at
      have b147 := jB (e := 10) 0 j127 rg_75_10_0_1 (by first | decide | omega) (by first | decide | omega)
      have q148 : h48 75 13 = h38 75 13 := jK 0 f50 rg_75_13_0_1 (by first | decide | omega) (by first | decide | omega) (by decide)
      have q149 : h38 75 13 = h34 75 13 := by rw [← e40]; exact x_up_i (by first | decide | omega)
      have q150 : h34 75 13 = h27 75 13 := by rw [← e36]; exact x_up_k (by decide)
      have q151 : h27 75 13 = h 75 13 := by rw [← e29]; exact x_up_k (by decide)
      refine x_ifz (k := 1) (tg := 87) (np := 85) (by decide +kernel) (by decide) l123 (fun q152 => ?_) (fun q153 => ?_)
      · have q152 : v122 ≠ 2147483648 := q152
        have b154 := c130 (by first | decide | omega)
        have b155 := c131 (by first | decide | omega)
        have b156 := c132 (by first | decide | omega)
        have b157 := c133 (by first | decide | omega)
        have s158 := c135 (by first | decide | omega)
        have q159 : h48 75 13 = h38 75 13 := jK 0 f50 rg_75_13_0_1 (by first | decide | omega) (by first | decide | omega) (by decide)
        have q160 : h38 75 13 = h34 75 13 := by rw [← e40]; exact x_up_i (by first | decide | omega)
        have q161 : h34 75 13 = h27 75 13 := by rw [← e36]; exact x_up_k (by decide)
        have q162 : h27 75 13 = h 75 13 := by rw [← e29]; exact x_up_k (by decide)
        refine x_aload (np := 88) (x := 0) (by decide +kernel) rfl (x_nc_le (by decide)) ?_
        have q163 : h126 75 1 = 76 := by have z := jB (e := 1) 0 j127 rg_75_1_0_1 (by decide) (by decide); omega
        refine x_getR (np := 91) (x := 705) (f := 1) (q := 76) (by decide +kernel) (by decide) (by decide +kernel) q163 ?_
        refine x_iload (np := 92) (x := 2) (by decide +kernel) rfl (by first | decide | omega) ?_
        refine x_const (np := 93) (x := 9223372047592194050) (a := 2147483650) (by decide +kernel) (by decide) (by decide) ?_
        refine x_iadd (np := 94) (x := 0) (v := (2147484772 + 3 * u3)) (by decide +kernel) (by first | decide | omega) (by decide) (by first | decide | omega) (by first | decide | omega) ?_
        refine x_aload (np := 95) (x := 0) (by decide +kernel) rfl (x_nc_le (by decide)) ?_
        refine x_getC (np := 98) (x := 717) (f := 13) (q := (h126 75 13)) (by decide +kernel) (by decide) (by decide +kernel) rfl (fun l164 => ?_)
        refine x_ast (np := 99) (x := 0) (kd := 1) (n := 1952) (i := (1124 + 3 * u3)) (by decide +kernel) (Or.inl rfl) (by decide +kernel) (by first | decide | omega) (by first | decide | omega) (by decide) l164 (fun z => absurd z (by decide)) ?_
        have j166 := jU (e := (1124 + 3 * u3)) (v := (h126 75 13)) u3 j127 rg_76_1124_3_10 (by first | decide | omega) (by first | decide | omega) (by first | decide | omega)
        have f168 := jF (e := (1124 + 3 * u3)) (v := (h126 75 13)) u3 f138 rg_76_1124_3_10 (by first | decide | omega) (by first | decide | omega) (by decide)
        generalize e167 : x_up h126 76 (1124 + 3 * u3) (h126 75 13) = h165 at j166 f168 ⊢
        refine x_const (np := 100) (x := 9223372043297226753) (a := 2147483649) (by decide +kernel) (by decide) (by decide) ?_
        have q169 : h165 75 13 = h126 75 13 := by rw [← e167]; exact x_up_k (by decide)
        have q170 : h165 75 7 = h126 75 7 := by rw [← e167]; exact x_up_k (by decide)
        have q171 : h165 75 13 = h126 75 13 := by rw [← e167]; exact x_up_k (by decide)
        have k177 : Kq h h27 (h 75 13 - 2147483648) := by rw [← e29]; exact Kq.up Kq.refl (by first | decide | omega)
        have k176 : Kq h h34 (h 75 13 - 2147483648) := by rw [← e36]; exact Kq.up k177 (by first | decide | omega)
        have k175 : Kq h h38 (h 75 13 - 2147483648) := by rw [← e40]; exact Kq.oth k176 (by decide)
        have k174 : Kq h h48 (h 75 13 - 2147483648) := Kq.fr k175 f50 (by first | decide | omega) (by decide)
        have q178 : h48 75 13 = h38 75 13 := jK 0 f50 rg_75_13_0_1 (by first | decide | omega) (by first | decide | omega) (by decide)
        have q179 : h38 75 13 = h34 75 13 := by rw [← e40]; exact x_up_i (by first | decide | omega)
        have q180 : h34 75 13 = h27 75 13 := by rw [← e36]; exact x_up_k (by decide)
        have q181 : h27 75 13 = h 75 13 := by rw [← e29]; exact x_up_k (by decide)
        have k173 : Kq h h126 (h 75 13 - 2147483648) := Kq.kp k174 c134 (by first | decide | omega)
        have k172 : Kq h h165 (h 75 13 - 2147483648) := by rw [← e167]; exact Kq.up k173 (by first | decide | omega)
        have k187 : Kl h h27 u3 := by rw [← e29]; exact Kl.up Kl.refl (by first | decide | omega)
        have k186 : Kl h h34 u3 := by rw [← e36]; exact Kl.up k187 (by first | decide | omega)
        have k185 : Kl h h38 u3 := by rw [← e40]; exact Kl.oth k186 (by decide)
        have k184 : Kl h h48 u3 := Kl.fr k185 f50 (by first | decide | omega) (by decide)
        have k183 : Kl h h126 u3 := Kl.kp k184 c134 (by first | decide | omega)
        have k182 : Kl h h165 u3 := by rw [← e167]; exact Kl.up k183 (by first | decide | omega)
        have e189 : a1 - 2147483648 = u3 := by first | decide | omega
        have k188 : Kl h h165 (a1 - 2147483648) := by rw [e189]; exact k182
        have q190 : h165 76 (1123 + 3 * u3) = h126 76 (1123 + 3 * u3) := by rw [← e167]; exact x_up_i (by first | decide | omega)
        have b191 := jB (e := (1123 + 3 * u3)) u3 j127 rg_76_1123_3_10 (by first | decide | omega) (by first | decide | omega)
        have q192 : h165 76 (1124 + 3 * u3) = (h126 75 13) := by rw [← e167]; exact x_up_at
        have k194 : Kq h126 h165 (h126 75 13 - 2147483648) := by rw [← e167]; exact Kq.up Kq.refl (by first | decide | omega)
        have q195 := c134.2 (1123 + 3 * u3) (by first | decide | omega) (by first | decide | omega)
        have q196 : h48 76 (1123 + 3 * u3) = h38 76 (1123 + 3 * u3) := jK u3 f50 rg_76_1123_3_10 (by first | decide | omega) (by first | decide | omega) (by decide)
        have q197 : h38 76 (1123 + 3 * u3) = h34 76 (1123 + 3 * u3) := by rw [← e40]; exact x_up_k (by decide)
        have q198 : h34 76 (1123 + 3 * u3) = (h 75 13) := by rw [← e36]; exact x_up_at
        have g193 : Lg h165 u3 := Or.inr (Seg.cast (a' := h165 76 (1123 + 3 * u3) - 2147483648) (b' := h165 76 (1124 + 3 * u3) - 2147483648) (Seg.kq s158 k194) (by rw [show h165 76 (1123 + 3 * u3) = h48 75 13 by first | decide | omega]) (by rw [show h165 76 (1124 + 3 * u3) = h126 75 13 by first | decide | omega]))
        have g199 : Lg h165 (a1 - 2147483648) ∧ h165 76 (1124 + 3 * (a1 - 2147483648)) = h165 75 13 ∧ h 75 13 ≤ h165 75 13 := by
          rw [e189]
          exact ⟨g193, by first | decide | omega, by first | decide | omega⟩
        have y200 := Is.yes c10 (by first | decide | omega)
        have q201 : h38 75 7 = h34 75 7 := by rw [← e40]; exact x_up_i (by first | decide | omega)
        have q202 : h34 75 7 = h27 75 7 := by rw [← e36]; exact x_up_k (by decide)
        have q203 : h27 75 7 = h 75 7 := by rw [← e29]; exact x_up_k (by decide)
        obtain ⟨w204, e205⟩ := Tk.yes c54 (by first | decide | omega)
        have q206 : h165 75 7 = h126 75 7 := by rw [← e167]; exact x_up_k (by decide)
        refine x_retI (np := 101) (x := 0) (by decide +kernel) (by decide) (Or.inr ⟨by decide +kernel, by first | decide | omega, by first | decide | omega⟩) ⟨_, rfl, (by decide), ?_⟩
        exact ⟨j166, f168, (by first | decide | omega), (fun z => by first | decide | omega), k172, k188, (fun _ => g199), (gL_if (i := 22) (by decide) (Wd.of' (by decide) y200 hp0) rfl (congrArg (sk tB tN) ((show h38 75 7 = h 75 7 by first | decide | omega).trans y200.1)) w204 rfl e205 c136 rfl (by first | decide | omega) (fun z => (congrArg (sk tB tN) (show h126 75 7 = h165 75 7 by first | decide | omega)))), (fun z => absurd z (by first | decide | omega))⟩
      have q153 : ¬ (v122 ≠ 2147483648) := q153
      refine x_const (np := 86) (x := 9223372039002259456) (a := 2147483648) (by decide +kernel) (by decide) (by decide) ?_
      have k211 : Kq h h27 (h 75 13 - 2147483648) := by rw [← e29]; exact Kq.up Kq.refl (by first | decide | omega)
      have k210 : Kq h h34 (h 75 13 - 2147483648) := by rw [← e36]; exact Kq.up k211 (by first | decide | omega)
      have k209 : Kq h h38 (h 75 13 - 2147483648) := by rw [← e40]; exact Kq.oth k210 (by decide)
      have k208 : Kq h h48 (h 75 13 - 2147483648) := Kq.fr k209 f50 (by first | decide | omega) (by decide)
      have q212 : h48 75 13 = h38 75 13 := jK 0 f50 rg_75_13_0_1 (by first | decide | omega) (by first | decide | omega) (by decide)
      have q213 : h38 75 13 = h34 75 13 := by rw [← e40]; exact x_up_i (by first | decide | omega)
      have q214 : h34 75 13 = h27 75 13 := by rw [← e36]; exact x_up_k (by decide)
      have q215 : h27 75 13 = h 75 13 := by rw [← e29]; exact x_up_k (by decide)
      have k207 : Kq h h126 (h 75 13 - 2147483648) := Kq.kp k208 c134 (by first | decide | omega)
      have k220 : Kl h h27 u3 := by rw [← e29]; exact Kl.up Kl.refl (by first | decide | omega)
      have k219 : Kl h h34 u3 := by rw [← e36]; exact Kl.up k220 (by first | decide | omega)
      have k218 : Kl h h38 u3 := by rw [← e40]; exact Kl.oth k219 (by decide)
      have k217 : Kl h h48 u3 := Kl.fr k218 f50 (by first | decide | omega) (by decide)
      have k216 : Kl h h126 u3 := Kl.kp k217 c134 (by first | decide | omega)
      have e222 : a1 - 2147483648 = u3 := by first | decide | omega
      have k221 : Kl h h126 (a1 - 2147483648) := by rw [e222]; exact k216
      have y223 := Is.yes c10 (by first | decide | omega)
      have q224 : h38 75 7 = h34 75 7 := by rw [← e40]; exact x_up_i (by first | decide | omega)
      have q225 : h34 75 7 = h27 75 7 := by rw [← e36]; exact x_up_k (by decide)
      have q226 : h27 75 7 = h 75 7 := by rw [← e29]; exact x_up_k (by decide)
      obtain ⟨w227, e228⟩ := Tk.yes c54 (by first | decide | omega)
      have y229 := Is.yes c10 (by first | decide | omega)
      have q230 : h38 75 7 = h34 75 7 := by rw [← e40]; exact x_up_i (by first | decide | omega)
      have q231 : h34 75 7 = h27 75 7 := by rw [← e36]; exact x_up_k (by decide)
      have q232 : h27 75 7 = h 75 7 := by rw [← e29]; exact x_up_k (by decide)
      obtain ⟨w233, e234⟩ := Tk.yes c54 (by first | decide | omega)
      refine x_retI (np := 87) (x := 0) (by decide +kernel) (by decide) (Or.inr ⟨by decide +kernel, by first | decide | omega, by first | decide | omega⟩) ⟨_, rfl, (by decide), ?_⟩
      exact ⟨j127, f138, (by first | decide | omega), (fun z => by first | decide | omega), k207, k221, (fun z => absurd z (by first | decide | omega)), (gL_if (i := 22) (by decide) (Wd.of' (by decide) y223 hp0) rfl (congrArg (sk tB tN) ((show h38 75 7 = h 75 7 by first | decide | omega).trans y223.1)) w227 rfl e228 c136 rfl (by first | decide | omega) (fun z => absurd z (by first | decide | omega))), (fun _ => fL_if (i := 22) (by decide) (Wd.of' (by decide) y229 hp0) rfl (congrArg (sk tB tN) ((show h38 75 7 = h 75 7 by first | decide | omega).trans y229.1)) w233 rfl e234 (c137 (by first | decide | omega)) rfl rfl)⟩
    have q26 : ¬ (v18 = 2147483648) := q26
    have b235 := c21 (by first | decide | omega)
    refine x_const (np := 46) (x := 9223372043297226753) (a := 2147483649) (by decide +kernel) (by decide) (by decide) ?_
    refine x_goto (np := 49) (x := 50) (by decide +kernel) ?_
    refine x_ast (np := 51) (x := 0) (kd := 1) (n := 1952) (i := (1122 + 3 * u3)) (by decide +kernel) (Or.inl rfl) (by decide +kernel) (by first | decide | omega) (by first | decide | omega) (by decide) (by decide) (fun z => absurd z (by decide)) ?_
    have j237 := jU (e := (1122 + 3 * u3)) (v := 2147483649) u3 hJ rg_76_1122_3_10 (by first | decide | omega) (by first | decide | omega) (by first | decide | omega)
    have f239 := jF (e := (1122 + 3 * u3)) (v := 2147483649) u3 hF rg_76_1122_3_10 (by first | decide | omega) (by first | decide | omega) (by decide)
    generalize e238 : x_up h 76 (1122 + 3 * u3) 2147483649 = h236 at j237 f239 ⊢
    refine x_aload (np := 52) (x := 0) (by decide +kernel) rfl (x_nc_le (by decide)) ?_
    have q240 : h236 75 1 = 76 := by have z := jB (e := 1) 0 j237 rg_75_1_0_1 (by decide) (by decide); omega
    refine x_getR (np := 55) (x := 705) (f := 1) (q := 76) (by decide +kernel) (by decide) (by decide +kernel) q240 ?_
    refine x_iload (np := 56) (x := 2) (by decide +kernel) rfl (by first | decide | omega) ?_
    refine x_const (np := 57) (x := 9223372043297226753) (a := 2147483649) (by decide +kernel) (by decide) (by decide) ?_
    refine x_iadd (np := 58) (x := 0) (v := (2147484771 + 3 * u3)) (by decide +kernel) (by first | decide | omega) (by decide) (by first | decide | omega) (by first | decide | omega) ?_
    refine x_aload (np := 59) (x := 0) (by decide +kernel) rfl (x_nc_le (by decide)) ?_
    have q241 : h236 75 13 = h 75 13 := by rw [← e238]; exact x_up_k (by decide)
    refine x_getC (np := 62) (x := 717) (f := 13) (q := (h 75 13)) (by decide +kernel) (by decide) (by decide +kernel) q241 (fun l242 => ?_)
    refine x_ast (np := 63) (x := 0) (kd := 1) (n := 1952) (i := (1123 + 3 * u3)) (by decide +kernel) (Or.inl rfl) (by decide +kernel) (by first | decide | omega) (by first | decide | omega) (by decide) l242 (fun z => absurd z (by decide)) ?_
    have j244 := jU (e := (1123 + 3 * u3)) (v := (h 75 13)) u3 j237 rg_76_1123_3_10 (by first | decide | omega) (by first | decide | omega) (by first | decide | omega)
    have f246 := jF (e := (1123 + 3 * u3)) (v := (h 75 13)) u3 f239 rg_76_1123_3_10 (by first | decide | omega) (by first | decide | omega) (by decide)
    generalize e245 : x_up h236 76 (1123 + 3 * u3) (h 75 13) = h243 at j244 f246 ⊢
    refine x_aload (np := 64) (x := 0) (by decide +kernel) rfl (x_nc_le (by decide)) ?_
    refine x_const (np := 65) (x := 9223372039002259456) (a := 2147483648) (by decide +kernel) (by decide) (by decide) ?_
    refine x_putI (np := 68) (x := 714) (f := 10) (by decide +kernel) (by decide +kernel) (by decide) (Or.inl (by decide)) ?_
    have j248 := jU (e := 10) (v := 2147483648) 0 j244 rg_75_10_0_1 (by first | decide | omega) (by first | decide | omega) (by first | decide | omega)
    have f250 := jF (e := 10) (v := 2147483648) 0 f246 rg_75_10_0_1 (by first | decide | omega) (by first | decide | omega) (by decide)
    generalize e249 : x_up h243 75 10 2147483648 = h247 at j248 f250 ⊢
    refine x_aload (np := 69) (x := 0) (by decide +kernel) rfl (x_nc_le (by decide)) ?_
    refine x_ldcwB (i := 23) (idx := 266) (tx := "if") (by rw [tb_y193]; exact List.mem_of_getElem? (i := 58) rfl) (by decide) (by rw [tb_b193]; decide +kernel) ?_
    have m256 : Tq tB tN h236 := by rw [← e238]; exact Tq.oth hT (by decide) (fun z => absurd z.1 (by decide))
    have m255 : Tq tB tN h243 := by rw [← e245]; exact Tq.oth m256 (by decide) (fun z => absurd z.1 (by decide))
    have m254 : Tq tB tN h247 := by rw [← e249]; exact Tq.oth m255 (by decide) (by decide)
    refine x_cI (t := 6) (mj := 171) (n := 2) (rc := 12) (ml := 2) (nr := 0) (np := 75) (as := [x_r 75, x_b (23 + 1)]) (rest := []) (lo1 := [x_r 75, x_b (23 + 1)]) (by decide +kernel) (by decide) (by decide +kernel) (x_rb_of (by decide +kernel)) rfl rfl (x_wr (by decide) (x_wB (by decide) x_wn)) x_wn (by decide) rfl (c171_75_S0 j248  (by decide) m254) (fun v251 h257 l252 q253 => ?_)
    obtain ⟨j258, f259, b260, c261, c262, c263, c264⟩ := q253
    have f265 := Fr.trans f250 f259 (by decide)
    have q266 : h247 75 7 = h243 75 7 := by rw [← e249]; exact x_up_i (by first | decide | omega)
    have q267 : h243 75 7 = h236 75 7 := by rw [← e245]; exact x_up_k (by decide)
    have q268 : h236 75 7 = h 75 7 := by rw [← e238]; exact x_up_k (by decide)
    have b269 := jB (e := 7) 0 j258 rg_75_7_0_1 (by first | decide | omega) (by first | decide | omega)
    have q270 : h247 75 7 = h243 75 7 := by rw [← e249]; exact x_up_i (by first | decide | omega)
    have q271 : h243 75 7 = h236 75 7 := by rw [← e245]; exact x_up_k (by decide)
    have q272 : h236 75 7 = h 75 7 := by rw [← e238]; exact x_up_k (by decide)
    refine x_ifz (k := 0) (tg := 87) (np := 78) (by decide +kernel) (by decide) l252 (fun q273 => ?_) (fun q274 => ?_)
    · have q273 : v251 = 2147483648 := q273
      refine x_aload (np := 88) (x := 0) (by decide +kernel) rfl (x_nc_le (by decide)) ?_
      have q275 : h257 75 1 = 76 := by have z := jB (e := 1) 0 j258 rg_75_1_0_1 (by decide) (by decide); omega
      refine x_getR (np := 91) (x := 705) (f := 1) (q := 76) (by decide +kernel) (by decide) (by decide +kernel) q275 ?_
      refine x_iload (np := 92) (x := 2) (by decide +kernel) rfl (by first | decide | omega) ?_
      refine x_const (np := 93) (x := 9223372047592194050) (a := 2147483650) (by decide +kernel) (by decide) (by decide) ?_
      refine x_iadd (np := 94) (x := 0) (v := (2147484772 + 3 * u3)) (by decide +kernel) (by first | decide | omega) (by decide) (by first | decide | omega) (by first | decide | omega) ?_
      refine x_aload (np := 95) (x := 0) (by decide +kernel) rfl (x_nc_le (by decide)) ?_
      have q276 : h257 75 13 = h247 75 13 := jK 0 f259 rg_75_13_0_1 (by first | decide | omega) (by first | decide | omega) (by decide)
      have q277 : h247 75 13 = h243 75 13 := by rw [← e249]; exact x_up_i (by first | decide | omega)
      have q278 : h243 75 13 = h236 75 13 := by rw [← e245]; exact x_up_k (by decide)
      have q279 : h236 75 13 = h 75 13 := by rw [← e238]; exact x_up_k (by decide)
      refine x_getC (np := 98) (x := 717) (f := 13) (q := (h 75 13)) (by decide +kernel) (by decide) (by decide +kernel) (((q276.trans q277).trans q278).trans q279) (fun l280 => ?_)
      refine x_ast (np := 99) (x := 0) (kd := 1) (n := 1952) (i := (1124 + 3 * u3)) (by decide +kernel) (Or.inl rfl) (by decide +kernel) (by first | decide | omega) (by first | decide | omega) (by decide) l242 (fun z => absurd z (by decide)) ?_
      have j282 := jU (e := (1124 + 3 * u3)) (v := (h 75 13)) u3 j258 rg_76_1124_3_10 (by first | decide | omega) (by first | decide | omega) (by first | decide | omega)
      have f284 := jF (e := (1124 + 3 * u3)) (v := (h 75 13)) u3 f265 rg_76_1124_3_10 (by first | decide | omega) (by first | decide | omega) (by decide)
      generalize e283 : x_up h257 76 (1124 + 3 * u3) (h 75 13) = h281 at j282 f284 ⊢
      refine x_const (np := 100) (x := 9223372043297226753) (a := 2147483649) (by decide +kernel) (by decide) (by decide) ?_
      have q285 : h281 75 13 = h257 75 13 := by rw [← e283]; exact x_up_k (by decide)
      have q286 : h257 75 13 = h247 75 13 := jK 0 f259 rg_75_13_0_1 (by first | decide | omega) (by first | decide | omega) (by decide)
      have q287 : h247 75 13 = h243 75 13 := by rw [← e249]; exact x_up_i (by first | decide | omega)
      have q288 : h243 75 13 = h236 75 13 := by rw [← e245]; exact x_up_k (by decide)
      have q289 : h236 75 13 = h 75 13 := by rw [← e238]; exact x_up_k (by decide)
      have q290 : h281 75 7 = h257 75 7 := by rw [← e283]; exact x_up_k (by decide)
      have q291 : h281 75 13 = h257 75 13 := by rw [← e283]; exact x_up_k (by decide)
      have q292 : h257 75 13 = h247 75 13 := jK 0 f259 rg_75_13_0_1 (by first | decide | omega) (by first | decide | omega) (by decide)
      have q293 : h247 75 13 = h243 75 13 := by rw [← e249]; exact x_up_i (by first | decide | omega)
      have q294 : h243 75 13 = h236 75 13 := by rw [← e245]; exact x_up_k (by decide)
      have q295 : h236 75 13 = h 75 13 := by rw [← e238]; exact x_up_k (by decide)
      have k300 : Kq h h236 (h 75 13 - 2147483648) := by rw [← e238]; exact Kq.up Kq.refl (by first | decide | omega)
      have k299 : Kq h h243 (h 75 13 - 2147483648) := by rw [← e245]; exact Kq.up k300 (by first | decide | omega)
      have k298 : Kq h h247 (h 75 13 - 2147483648) := by rw [← e249]; exact Kq.oth k299 (by decide)
      have k297 : Kq h h257 (h 75 13 - 2147483648) := Kq.fr k298 f259 (by first | decide | omega) (by decide)
      have k296 : Kq h h281 (h 75 13 - 2147483648) := by rw [← e283]; exact Kq.up k297 (by first | decide | omega)
      have k305 : Kl h h236 u3 := by rw [← e238]; exact Kl.up Kl.refl (by first | decide | omega)
      have k304 : Kl h h243 u3 := by rw [← e245]; exact Kl.up k305 (by first | decide | omega)
      have k303 : Kl h h247 u3 := by rw [← e249]; exact Kl.oth k304 (by decide)
      have k302 : Kl h h257 u3 := Kl.fr k303 f259 (by first | decide | omega) (by decide)
      have k301 : Kl h h281 u3 := by rw [← e283]; exact Kl.up k302 (by first | decide | omega)
      have e307 : a1 - 2147483648 = u3 := by first | decide | omega
      have k306 : Kl h h281 (a1 - 2147483648) := by rw [e307]; exact k301
      have q308 : h281 76 (1123 + 3 * u3) = h257 76 (1123 + 3 * u3) := by rw [← e283]; exact x_up_i (by first | decide | omega)
      have q309 : h257 76 (1123 + 3 * u3) = h247 76 (1123 + 3 * u3) := jK u3 f259 rg_76_1123_3_10 (by first | decide | omega) (by first | decide | omega) (by decide)
      have q310 : h247 76 (1123 + 3 * u3) = h243 76 (1123 + 3 * u3) := by rw [← e249]; exact x_up_k (by decide)
      have q311 : h243 76 (1123 + 3 * u3) = (h 75 13) := by rw [← e245]; exact x_up_at
      have q312 : h281 76 (1124 + 3 * u3) = (h 75 13) := by rw [← e283]; exact x_up_at
      have g313 : Lg h281 u3 := Or.inl (show h281 76 (1123 + 3 * u3) = h281 76 (1124 + 3 * u3) by first | decide | omega)
      have g314 : Lg h281 (a1 - 2147483648) ∧ h281 76 (1124 + 3 * (a1 - 2147483648)) = h281 75 13 ∧ h 75 13 ≤ h281 75 13 := by
        rw [e307]
        exact ⟨g313, by first | decide | omega, by first | decide | omega⟩
      have y315 := Is.yes c10 (by first | decide | omega)
      have q316 : h247 75 7 = h243 75 7 := by rw [← e249]; exact x_up_i (by first | decide | omega)
      have q317 : h243 75 7 = h236 75 7 := by rw [← e245]; exact x_up_k (by decide)
      have q318 : h236 75 7 = h 75 7 := by rw [← e238]; exact x_up_k (by decide)
      obtain ⟨w319, e320⟩ := Tk.no c263 (by first | decide | omega)
      have q321 : h281 75 7 = h257 75 7 := by rw [← e283]; exact x_up_k (by decide)
      refine x_retI (np := 101) (x := 0) (by decide +kernel) (by decide) (Or.inr ⟨by decide +kernel, by first | decide | omega, by first | decide | omega⟩) ⟨_, rfl, (by decide), ?_⟩
      exact ⟨j282, f284, (by first | decide | omega), (fun z => by first | decide | omega), k296, k306, (fun _ => g314), (gL_end (i := 22) (by decide) (Wd.of' (by decide) y315 hp0) rfl (congrArg (sk tB tN) ((show h247 75 7 = h 75 7 by first | decide | omega).trans y315.1)) w319 rfl (by first | decide | omega) (Eq.trans (Eq.symm e320) (congrArg (sk tB tN) (show h257 75 7 = h281 75 7 by first | decide | omega)))), (fun z => absurd z (by first | decide | omega))⟩
    have q274 : ¬ (v251 = 2147483648) := q274
    have b322 := c262 (by first | decide | omega)
    refine x_aload (np := 79) (x := 0) (by decide +kernel) rfl (x_nc_le (by decide)) ?_
    have q323 : h257 75 10 = h247 75 10 := jK 0 f259 rg_75_10_0_1 (by first | decide | omega) (by first | decide | omega) (by decide)
    have q324 : h247 75 10 = 2147483648 := by rw [← e249]; exact x_up_at
    have q325 : h257 75 13 = h247 75 13 := jK 0 f259 rg_75_13_0_1 (by first | decide | omega) (by first | decide | omega) (by decide)
    have q326 : h247 75 13 = h243 75 13 := by rw [← e249]; exact x_up_i (by first | decide | omega)
    have q327 : h243 75 13 = h236 75 13 := by rw [← e245]; exact x_up_k (by decide)
    have q328 : h236 75 13 = h 75 13 := by rw [← e238]; exact x_up_k (by decide)
    have q329 : h257 75 10 = h247 75 10 := jK 0 f259 rg_75_10_0_1 (by first | decide | omega) (by first | decide | omega) (by decide)
    have q330 : h247 75 10 = 2147483648 := by rw [← e249]; exact x_up_at
    have m334 := Tq.fr m254 f259 (by decide) (by decide)
    refine x_cI (t := 6) (mj := 192) (n := 1) (rc := 12) (ml := 1) (nr := 0) (np := 82) (as := [x_r 75]) (rest := []) (lo1 := [x_r 75]) (by decide +kernel) (by decide) (by decide +kernel) (x_rb_of (by decide +kernel)) rfl rfl (x_wr (by decide) x_wn) x_wn (by decide) rfl (c192_75_D0 j258  (by first | decide | omega) (by first | decide | omega) m334) (fun v331 h335 l332 q333 => ?_)
    obtain ⟨j336, f337, b338, c339, c340, c341, c342, c343, c344, c345, c346⟩ := q333
    have f347 := Fr.trans f265 f337 (by decide)
    have q348 : h257 75 13 = h247 75 13 := jK 0 f259 rg_75_13_0_1 (by first | decide | omega) (by first | decide | omega) (by decide)
    have q349 : h247 75 13 = h243 75 13 := by rw [← e249]; exact x_up_i (by first | decide | omega)
    have q350 : h243 75 13 = h236 75 13 := by rw [← e245]; exact x_up_k (by decide)
    have q351 : h236 75 13 = h 75 13 := by rw [← e238]; exact x_up_k (by decide)
    have b352 := jB (e := 13) 0 j336 rg_75_13_0_1 (by first | decide | omega) (by first | decide | omega)
    have b353 := jB (e := 7) 0 j336 rg_75_7_0_1 (by first | decide | omega) (by first | decide | omega)
    have q354 : h257 75 10 = h247 75 10 := jK 0 f259 rg_75_10_0_1 (by first | decide | omega) (by first | decide | omega) (by decide)
    have q355 : h247 75 10 = 2147483648 := by rw [← e249]; exact x_up_at
    have b356 := jB (e := 10) 0 j336 rg_75_10_0_1 (by first | decide | omega) (by first | decide | omega)
    have q357 : h257 75 13 = h247 75 13 := jK 0 f259 rg_75_13_0_1 (by first | decide | omega) (by first | decide | omega) (by decide)
    have q358 : h247 75 13 = h243 75 13 := by rw [← e249]; exact x_up_i (by first | decide | omega)
    have q359 : h243 75 13 = h236 75 13 := by rw [← e245]; exact x_up_k (by decide)
    have q360 : h236 75 13 = h 75 13 := by rw [← e238]; exact x_up_k (by decide)
    refine x_ifz (k := 1) (tg := 87) (np := 85) (by decide +kernel) (by decide) l332 (fun q361 => ?_) (fun q362 => ?_)
    · have q361 : v331 ≠ 2147483648 := q361
      have b363 := c339 (by first | decide | omega)
      have b364 := c340 (by first | decide | omega)
      have b365 := c341 (by first | decide | omega)
      have b366 := c342 (by first | decide | omega)
      have s367 := c344 (by first | decide | omega)
      have q368 : h257 75 13 = h247 75 13 := jK 0 f259 rg_75_13_0_1 (by first | decide | omega) (by first | decide | omega) (by decide)
      have q369 : h247 75 13 = h243 75 13 := by rw [← e249]; exact x_up_i (by first | decide | omega)
      have q370 : h243 75 13 = h236 75 13 := by rw [← e245]; exact x_up_k (by decide)
      have q371 : h236 75 13 = h 75 13 := by rw [← e238]; exact x_up_k (by decide)
      refine x_aload (np := 88) (x := 0) (by decide +kernel) rfl (x_nc_le (by decide)) ?_
      have q372 : h335 75 1 = 76 := by have z := jB (e := 1) 0 j336 rg_75_1_0_1 (by decide) (by decide); omega
      refine x_getR (np := 91) (x := 705) (f := 1) (q := 76) (by decide +kernel) (by decide) (by decide +kernel) q372 ?_
      refine x_iload (np := 92) (x := 2) (by decide +kernel) rfl (by first | decide | omega) ?_
      refine x_const (np := 93) (x := 9223372047592194050) (a := 2147483650) (by decide +kernel) (by decide) (by decide) ?_
      refine x_iadd (np := 94) (x := 0) (v := (2147484772 + 3 * u3)) (by decide +kernel) (by first | decide | omega) (by decide) (by first | decide | omega) (by first | decide | omega) ?_
      refine x_aload (np := 95) (x := 0) (by decide +kernel) rfl (x_nc_le (by decide)) ?_
      refine x_getC (np := 98) (x := 717) (f := 13) (q := (h335 75 13)) (by decide +kernel) (by decide) (by decide +kernel) rfl (fun l373 => ?_)
      refine x_ast (np := 99) (x := 0) (kd := 1) (n := 1952) (i := (1124 + 3 * u3)) (by decide +kernel) (Or.inl rfl) (by decide +kernel) (by first | decide | omega) (by first | decide | omega) (by decide) l373 (fun z => absurd z (by decide)) ?_
      have j375 := jU (e := (1124 + 3 * u3)) (v := (h335 75 13)) u3 j336 rg_76_1124_3_10 (by first | decide | omega) (by first | decide | omega) (by first | decide | omega)
      have f377 := jF (e := (1124 + 3 * u3)) (v := (h335 75 13)) u3 f347 rg_76_1124_3_10 (by first | decide | omega) (by first | decide | omega) (by decide)
      generalize e376 : x_up h335 76 (1124 + 3 * u3) (h335 75 13) = h374 at j375 f377 ⊢
      refine x_const (np := 100) (x := 9223372043297226753) (a := 2147483649) (by decide +kernel) (by decide) (by decide) ?_
      have q378 : h374 75 13 = h335 75 13 := by rw [← e376]; exact x_up_k (by decide)
      have q379 : h374 75 7 = h335 75 7 := by rw [← e376]; exact x_up_k (by decide)
      have q380 : h374 75 13 = h335 75 13 := by rw [← e376]; exact x_up_k (by decide)
      have k386 : Kq h h236 (h 75 13 - 2147483648) := by rw [← e238]; exact Kq.up Kq.refl (by first | decide | omega)
      have k385 : Kq h h243 (h 75 13 - 2147483648) := by rw [← e245]; exact Kq.up k386 (by first | decide | omega)
      have k384 : Kq h h247 (h 75 13 - 2147483648) := by rw [← e249]; exact Kq.oth k385 (by decide)
      have k383 : Kq h h257 (h 75 13 - 2147483648) := Kq.fr k384 f259 (by first | decide | omega) (by decide)
      have q387 : h257 75 13 = h247 75 13 := jK 0 f259 rg_75_13_0_1 (by first | decide | omega) (by first | decide | omega) (by decide)
      have q388 : h247 75 13 = h243 75 13 := by rw [← e249]; exact x_up_i (by first | decide | omega)
      have q389 : h243 75 13 = h236 75 13 := by rw [← e245]; exact x_up_k (by decide)
      have q390 : h236 75 13 = h 75 13 := by rw [← e238]; exact x_up_k (by decide)
      have k382 : Kq h h335 (h 75 13 - 2147483648) := Kq.kp k383 c343 (by first | decide | omega)
      have k381 : Kq h h374 (h 75 13 - 2147483648) := by rw [← e376]; exact Kq.up k382 (by first | decide | omega)
      have k396 : Kl h h236 u3 := by rw [← e238]; exact Kl.up Kl.refl (by first | decide | omega)
      have k395 : Kl h h243 u3 := by rw [← e245]; exact Kl.up k396 (by first | decide | omega)
      have k394 : Kl h h247 u3 := by rw [← e249]; exact Kl.oth k395 (by decide)
      have k393 : Kl h h257 u3 := Kl.fr k394 f259 (by first | decide | omega) (by decide)
      have k392 : Kl h h335 u3 := Kl.kp k393 c343 (by first | decide | omega)
      have k391 : Kl h h374 u3 := by rw [← e376]; exact Kl.up k392 (by first | decide | omega)
      have e398 : a1 - 2147483648 = u3 := by first | decide | omega
      have k397 : Kl h h374 (a1 - 2147483648) := by rw [e398]; exact k391
      have q399 : h374 76 (1123 + 3 * u3) = h335 76 (1123 + 3 * u3) := by rw [← e376]; exact x_up_i (by first | decide | omega)
      have b400 := jB (e := (1123 + 3 * u3)) u3 j336 rg_76_1123_3_10 (by first | decide | omega) (by first | decide | omega)
      have q401 : h374 76 (1124 + 3 * u3) = (h335 75 13) := by rw [← e376]; exact x_up_at
      have k403 : Kq h335 h374 (h335 75 13 - 2147483648) := by rw [← e376]; exact Kq.up Kq.refl (by first | decide | omega)
      have q404 := c343.2 (1123 + 3 * u3) (by first | decide | omega) (by first | decide | omega)
      have q405 : h257 76 (1123 + 3 * u3) = h247 76 (1123 + 3 * u3) := jK u3 f259 rg_76_1123_3_10 (by first | decide | omega) (by first | decide | omega) (by decide)
      have q406 : h247 76 (1123 + 3 * u3) = h243 76 (1123 + 3 * u3) := by rw [← e249]; exact x_up_k (by decide)
      have q407 : h243 76 (1123 + 3 * u3) = (h 75 13) := by rw [← e245]; exact x_up_at
      have g402 : Lg h374 u3 := Or.inr (Seg.cast (a' := h374 76 (1123 + 3 * u3) - 2147483648) (b' := h374 76 (1124 + 3 * u3) - 2147483648) (Seg.kq s367 k403) (by rw [show h374 76 (1123 + 3 * u3) = h257 75 13 by first | decide | omega]) (by rw [show h374 76 (1124 + 3 * u3) = h335 75 13 by first | decide | omega]))
      have g408 : Lg h374 (a1 - 2147483648) ∧ h374 76 (1124 + 3 * (a1 - 2147483648)) = h374 75 13 ∧ h 75 13 ≤ h374 75 13 := by
        rw [e398]
        exact ⟨g402, by first | decide | omega, by first | decide | omega⟩
      have y409 := Is.yes c10 (by first | decide | omega)
      have q410 : h247 75 7 = h243 75 7 := by rw [← e249]; exact x_up_i (by first | decide | omega)
      have q411 : h243 75 7 = h236 75 7 := by rw [← e245]; exact x_up_k (by decide)
      have q412 : h236 75 7 = h 75 7 := by rw [← e238]; exact x_up_k (by decide)
      obtain ⟨w413, e414⟩ := Tk.yes c263 (by first | decide | omega)
      have q415 : h374 75 7 = h335 75 7 := by rw [← e376]; exact x_up_k (by decide)
      refine x_retI (np := 101) (x := 0) (by decide +kernel) (by decide) (Or.inr ⟨by decide +kernel, by first | decide | omega, by first | decide | omega⟩) ⟨_, rfl, (by decide), ?_⟩
      exact ⟨j375, f377, (by first | decide | omega), (fun z => by first | decide | omega), k381, k397, (fun _ => g408), (gL_if (i := 22) (by decide) (Wd.of' (by decide) y409 hp0) rfl (congrArg (sk tB tN) ((show h247 75 7 = h 75 7 by first | decide | omega).trans y409.1)) w413 rfl e414 c345 rfl (by first | decide | omega) (fun z => (congrArg (sk tB tN) (show h335 75 7 = h374 75 7 by first | decide | omega)))), (fun z => absurd z (by first | decide | omega))⟩
    have q362 : ¬ (v331 ≠ 2147483648) := q362
    refine x_const (np := 86) (x := 9223372039002259456) (a := 2147483648) (by decide +kernel) (by decide) (by decide) ?_
    have k420 : Kq h h236 (h 75 13 - 2147483648) := by rw [← e238]; exact Kq.up Kq.refl (by first | decide | omega)
    have k419 : Kq h h243 (h 75 13 - 2147483648) := by rw [← e245]; exact Kq.up k420 (by first | decide | omega)
    have k418 : Kq h h247 (h 75 13 - 2147483648) := by rw [← e249]; exact Kq.oth k419 (by decide)
    have k417 : Kq h h257 (h 75 13 - 2147483648) := Kq.fr k418 f259 (by first | decide | omega) (by decide)
    have q421 : h257 75 13 = h247 75 13 := jK 0 f259 rg_75_13_0_1 (by first | decide | omega) (by first | decide | omega) (by decide)
    have q422 : h247 75 13 = h243 75 13 := by rw [← e249]; exact x_up_i (by first | decide | omega)
    have q423 : h243 75 13 = h236 75 13 := by rw [← e245]; exact x_up_k (by decide)
    have q424 : h236 75 13 = h 75 13 := by rw [← e238]; exact x_up_k (by decide)
    have k416 : Kq h h335 (h 75 13 - 2147483648) := Kq.kp k417 c343 (by first | decide | omega)
    have k429 : Kl h h236 u3 := by rw [← e238]; exact Kl.up Kl.refl (by first | decide | omega)
    have k428 : Kl h h243 u3 := by rw [← e245]; exact Kl.up k429 (by first | decide | omega)
    have k427 : Kl h h247 u3 := by rw [← e249]; exact Kl.oth k428 (by decide)
    have k426 : Kl h h257 u3 := Kl.fr k427 f259 (by first | decide | omega) (by decide)
    have k425 : Kl h h335 u3 := Kl.kp k426 c343 (by first | decide | omega)
    have e431 : a1 - 2147483648 = u3 := by first | decide | omega
    have k430 : Kl h h335 (a1 - 2147483648) := by rw [e431]; exact k425
    have y432 := Is.yes c10 (by first | decide | omega)
    have q433 : h247 75 7 = h243 75 7 := by rw [← e249]; exact x_up_i (by first | decide | omega)
    have q434 : h243 75 7 = h236 75 7 := by rw [← e245]; exact x_up_k (by decide)
    have q435 : h236 75 7 = h 75 7 := by rw [← e238]; exact x_up_k (by decide)
    obtain ⟨w436, e437⟩ := Tk.yes c263 (by first | decide | omega)
    have y438 := Is.yes c10 (by first | decide | omega)
    have q439 : h247 75 7 = h243 75 7 := by rw [← e249]; exact x_up_i (by first | decide | omega)
    have q440 : h243 75 7 = h236 75 7 := by rw [← e245]; exact x_up_k (by decide)
    have q441 : h236 75 7 = h 75 7 := by rw [← e238]; exact x_up_k (by decide)
    obtain ⟨w442, e443⟩ := Tk.yes c263 (by first | decide | omega)
    refine x_retI (np := 87) (x := 0) (by decide +kernel) (by decide) (Or.inr ⟨by decide +kernel, by first | decide | omega, by first | decide | omega⟩) ⟨_, rfl, (by decide), ?_⟩
    exact ⟨j336, f347, (by first | decide | omega), (fun z => by first | decide | omega), k416, k430, (fun z => absurd z (by first | decide | omega)), (gL_if (i := 22) (by decide) (Wd.of' (by decide) y432 hp0) rfl (congrArg (sk tB tN) ((show h247 75 7 = h 75 7 by first | decide | omega).trans y432.1)) w436 rfl e437 c345 rfl (by first | decide | omega) (fun z => absurd z (by first | decide | omega))), (fun _ => fL_if (i := 22) (by decide) (Wd.of' (by decide) y438 hp0) rfl (congrArg (sk tB tN) ((show h247 75 7 = h 75 7 by first | decide | omega).trans y438.1)) w442 rfl e443 (c346 (by first | decide | omega)) rfl rfl)⟩
  have q15 : ¬ (v6 ≠ 2147483648) := q15
  refine x_aload (np := 19) (x := 0) (by decide +kernel) rfl (x_nc_le (by decide)) ?_
  refine x_ldcwB (i := 21) (idx := 264) (tx := "refuse") (by rw [tb_y193]; exact List.mem_of_getElem? (i := 57) rfl) (by decide) (by rw [tb_b193]; decide +kernel) ?_
  refine x_cP (t := 6) (mj := 170) (n := 2) (rc := 12) (ml := 4) (nr := 0) (np := 25) (as := [x_r 75, x_b (21 + 1)]) (rest := []) (lo1 := [x_r 75, x_b (21 + 1), 147573952589676412928, 147573952589676412928]) (by decide +kernel) (by decide) (by decide +kernel) (x_rb_of (by decide +kernel)) rfl rfl (x_wr (by decide) (x_wB (by decide) x_wn)) x_wn (by decide) rfl (c170_75_S0 hJ  (by decide) hT) (fun v444 l445 q446 => ?_)
  obtain ⟨b449, c447, c448⟩ := q446
  have b450 : iv_tl 21 = 6 := by decide
  refine x_ifz (k := 1) (tg := 30) (np := 28) (by decide +kernel) (by decide) l445 (fun q451 => ?_) (fun q452 => ?_)
  · have q451 : v444 ≠ 2147483648 := q451
    have b453 := c447 (by first | decide | omega)
    refine x_aload (np := 31) (x := 0) (by decide +kernel) rfl (x_nc_le (by decide)) ?_
    have q454 : h 75 1 = 76 := by have z := jB (e := 1) 0 hJ rg_75_1_0_1 (by decide) (by decide); omega
    refine x_getR (np := 34) (x := 705) (f := 1) (q := 76) (by decide +kernel) (by decide) (by decide +kernel) q454 ?_
    refine x_iload (np := 35) (x := 2) (by decide +kernel) rfl (by first | decide | omega) ?_
    refine x_aload (np := 36) (x := 0) (by decide +kernel) rfl (x_nc_le (by decide)) ?_
    refine x_ldcwB (i := 22) (idx := 262) (tx := "grant") (by rw [tb_y193]; exact List.mem_of_getElem? (i := 56) rfl) (by decide) (by rw [tb_b193]; decide +kernel) ?_
    refine x_cP (t := 6) (mj := 170) (n := 2) (rc := 12) (ml := 4) (nr := 2) (np := 42) (as := [x_r 75, x_b (22 + 1)]) (rest := [iv_c (2147484770 + 3 * u3), x_r 76]) (lo1 := [x_r 75, x_b (22 + 1), 147573952589676412928, 147573952589676412928]) (by decide +kernel) (by decide) (by decide +kernel) (x_rb_of (by decide +kernel)) rfl rfl (x_wr (by decide) (x_wB (by decide) x_wn)) (x_wi (by first | decide | omega) (x_wr (by decide) x_wn)) (by decide) rfl (c170_75_S0 hJ  (by decide) hT) (fun v455 l456 q457 => ?_)
    obtain ⟨b460, c458, c459⟩ := q457
    have b461 : iv_tl 22 = 5 := by decide
    refine x_ifz (k := 0) (tg := 49) (np := 45) (by decide +kernel) (by decide) l456 (fun q462 => ?_) (fun q463 => ?_)
    · have q462 : v455 = 2147483648 := q462
      refine x_const (np := 50) (x := 9223372039002259456) (a := 2147483648) (by decide +kernel) (by decide) (by decide) ?_
      refine x_ast (np := 51) (x := 0) (kd := 1) (n := 1952) (i := (1122 + 3 * u3)) (by decide +kernel) (Or.inl rfl) (by decide +kernel) (by first | decide | omega) (by first | decide | omega) (by decide) (by decide) (fun z => absurd z (by decide)) ?_
      have j465 := jU (e := (1122 + 3 * u3)) (v := 2147483648) u3 hJ rg_76_1122_3_10 (by first | decide | omega) (by first | decide | omega) (by first | decide | omega)
      have f467 := jF (e := (1122 + 3 * u3)) (v := 2147483648) u3 hF rg_76_1122_3_10 (by first | decide | omega) (by first | decide | omega) (by decide)
      generalize e466 : x_up h 76 (1122 + 3 * u3) 2147483648 = h464 at j465 f467 ⊢
      refine x_aload (np := 52) (x := 0) (by decide +kernel) rfl (x_nc_le (by decide)) ?_
      have q468 : h464 75 1 = 76 := by have z := jB (e := 1) 0 j465 rg_75_1_0_1 (by decide) (by decide); omega
      refine x_getR (np := 55) (x := 705) (f := 1) (q := 76) (by decide +kernel) (by decide) (by decide +kernel) q468 ?_
      refine x_iload (np := 56) (x := 2) (by decide +kernel) rfl (by first | decide | omega) ?_
      refine x_const (np := 57) (x := 9223372043297226753) (a := 2147483649) (by decide +kernel) (by decide) (by decide) ?_
      refine x_iadd (np := 58) (x := 0) (v := (2147484771 + 3 * u3)) (by decide +kernel) (by first | decide | omega) (by decide) (by first | decide | omega) (by first | decide | omega) ?_
      refine x_aload (np := 59) (x := 0) (by decide +kernel) rfl (x_nc_le (by decide)) ?_
      have q469 : h464 75 13 = h 75 13 := by rw [← e466]; exact x_up_k (by decide)
      refine x_getC (np := 62) (x := 717) (f := 13) (q := (h 75 13)) (by decide +kernel) (by decide) (by decide +kernel) q469 (fun l470 => ?_)
      refine x_ast (np := 63) (x := 0) (kd := 1) (n := 1952) (i := (1123 + 3 * u3)) (by decide +kernel) (Or.inl rfl) (by decide +kernel) (by first | decide | omega) (by first | decide | omega) (by decide) l470 (fun z => absurd z (by decide)) ?_
      have j472 := jU (e := (1123 + 3 * u3)) (v := (h 75 13)) u3 j465 rg_76_1123_3_10 (by first | decide | omega) (by first | decide | omega) (by first | decide | omega)
      have f474 := jF (e := (1123 + 3 * u3)) (v := (h 75 13)) u3 f467 rg_76_1123_3_10 (by first | decide | omega) (by first | decide | omega) (by decide)
      generalize e473 : x_up h464 76 (1123 + 3 * u3) (h 75 13) = h471 at j472 f474 ⊢
      refine x_aload (np := 64) (x := 0) (by decide +kernel) rfl (x_nc_le (by decide)) ?_
      refine x_const (np := 65) (x := 9223372039002259456) (a := 2147483648) (by decide +kernel) (by decide) (by decide) ?_
      refine x_putI (np := 68) (x := 714) (f := 10) (by decide +kernel) (by decide +kernel) (by decide) (Or.inl (by decide)) ?_
      have j476 := jU (e := 10) (v := 2147483648) 0 j472 rg_75_10_0_1 (by first | decide | omega) (by first | decide | omega) (by first | decide | omega)
      have f478 := jF (e := 10) (v := 2147483648) 0 f474 rg_75_10_0_1 (by first | decide | omega) (by first | decide | omega) (by decide)
      generalize e477 : x_up h471 75 10 2147483648 = h475 at j476 f478 ⊢
      refine x_aload (np := 69) (x := 0) (by decide +kernel) rfl (x_nc_le (by decide)) ?_
      refine x_ldcwB (i := 23) (idx := 266) (tx := "if") (by rw [tb_y193]; exact List.mem_of_getElem? (i := 58) rfl) (by decide) (by rw [tb_b193]; decide +kernel) ?_
      have m484 : Tq tB tN h464 := by rw [← e466]; exact Tq.oth hT (by decide) (fun z => absurd z.1 (by decide))
      have m483 : Tq tB tN h471 := by rw [← e473]; exact Tq.oth m484 (by decide) (fun z => absurd z.1 (by decide))
      have m482 : Tq tB tN h475 := by rw [← e477]; exact Tq.oth m483 (by decide) (by decide)
      refine x_cI (t := 6) (mj := 171) (n := 2) (rc := 12) (ml := 2) (nr := 0) (np := 75) (as := [x_r 75, x_b (23 + 1)]) (rest := []) (lo1 := [x_r 75, x_b (23 + 1)]) (by decide +kernel) (by decide) (by decide +kernel) (x_rb_of (by decide +kernel)) rfl rfl (x_wr (by decide) (x_wB (by decide) x_wn)) x_wn (by decide) rfl (c171_75_S0 j476  (by decide) m482) (fun v479 h485 l480 q481 => ?_)
      obtain ⟨j486, f487, b488, c489, c490, c491, c492⟩ := q481
      have f493 := Fr.trans f478 f487 (by decide)
      have q494 : h475 75 7 = h471 75 7 := by rw [← e477]; exact x_up_i (by first | decide | omega)
      have q495 : h471 75 7 = h464 75 7 := by rw [← e473]; exact x_up_k (by decide)
      have q496 : h464 75 7 = h 75 7 := by rw [← e466]; exact x_up_k (by decide)
      have b497 := jB (e := 7) 0 j486 rg_75_7_0_1 (by first | decide | omega) (by first | decide | omega)
      have q498 : h475 75 7 = h471 75 7 := by rw [← e477]; exact x_up_i (by first | decide | omega)
      have q499 : h471 75 7 = h464 75 7 := by rw [← e473]; exact x_up_k (by decide)
      have q500 : h464 75 7 = h 75 7 := by rw [← e466]; exact x_up_k (by decide)
      refine x_ifz (k := 0) (tg := 87) (np := 78) (by decide +kernel) (by decide) l480 (fun q501 => ?_) (fun q502 => ?_)
      · have q501 : v479 = 2147483648 := q501
        refine x_aload (np := 88) (x := 0) (by decide +kernel) rfl (x_nc_le (by decide)) ?_
        have q503 : h485 75 1 = 76 := by have z := jB (e := 1) 0 j486 rg_75_1_0_1 (by decide) (by decide); omega
        refine x_getR (np := 91) (x := 705) (f := 1) (q := 76) (by decide +kernel) (by decide) (by decide +kernel) q503 ?_
        refine x_iload (np := 92) (x := 2) (by decide +kernel) rfl (by first | decide | omega) ?_
        refine x_const (np := 93) (x := 9223372047592194050) (a := 2147483650) (by decide +kernel) (by decide) (by decide) ?_
        refine x_iadd (np := 94) (x := 0) (v := (2147484772 + 3 * u3)) (by decide +kernel) (by first | decide | omega) (by decide) (by first | decide | omega) (by first | decide | omega) ?_
        refine x_aload (np := 95) (x := 0) (by decide +kernel) rfl (x_nc_le (by decide)) ?_
        have q504 : h485 75 13 = h475 75 13 := jK 0 f487 rg_75_13_0_1 (by first | decide | omega) (by first | decide | omega) (by decide)
        have q505 : h475 75 13 = h471 75 13 := by rw [← e477]; exact x_up_i (by first | decide | omega)
        have q506 : h471 75 13 = h464 75 13 := by rw [← e473]; exact x_up_k (by decide)
        have q507 : h464 75 13 = h 75 13 := by rw [← e466]; exact x_up_k (by decide)
        refine x_getC (np := 98) (x := 717) (f := 13) (q := (h 75 13)) (by decide +kernel) (by decide) (by decide +kernel) (((q504.trans q505).trans q506).trans q507) (fun l508 => ?_)
        refine x_ast (np := 99) (x := 0) (kd := 1) (n := 1952) (i := (1124 + 3 * u3)) (by decide +kernel) (Or.inl rfl) (by decide +kernel) (by first | decide | omega) (by first | decide | omega) (by decide) l470 (fun z => absurd z (by decide)) ?_
        have j510 := jU (e := (1124 + 3 * u3)) (v := (h 75 13)) u3 j486 rg_76_1124_3_10 (by first | decide | omega) (by first | decide | omega) (by first | decide | omega)
        have f512 := jF (e := (1124 + 3 * u3)) (v := (h 75 13)) u3 f493 rg_76_1124_3_10 (by first | decide | omega) (by first | decide | omega) (by decide)
        generalize e511 : x_up h485 76 (1124 + 3 * u3) (h 75 13) = h509 at j510 f512 ⊢
        refine x_const (np := 100) (x := 9223372043297226753) (a := 2147483649) (by decide +kernel) (by decide) (by decide) ?_
        have q513 : h509 75 13 = h485 75 13 := by rw [← e511]; exact x_up_k (by decide)
        have q514 : h485 75 13 = h475 75 13 := jK 0 f487 rg_75_13_0_1 (by first | decide | omega) (by first | decide | omega) (by decide)
        have q515 : h475 75 13 = h471 75 13 := by rw [← e477]; exact x_up_i (by first | decide | omega)
        have q516 : h471 75 13 = h464 75 13 := by rw [← e473]; exact x_up_k (by decide)
        have q517 : h464 75 13 = h 75 13 := by rw [← e466]; exact x_up_k (by decide)
        have q518 : h509 75 7 = h485 75 7 := by rw [← e511]; exact x_up_k (by decide)
        have q519 : h509 75 13 = h485 75 13 := by rw [← e511]; exact x_up_k (by decide)
        have q520 : h485 75 13 = h475 75 13 := jK 0 f487 rg_75_13_0_1 (by first | decide | omega) (by first | decide | omega) (by decide)
        have q521 : h475 75 13 = h471 75 13 := by rw [← e477]; exact x_up_i (by first | decide | omega)
        have q522 : h471 75 13 = h464 75 13 := by rw [← e473]; exact x_up_k (by decide)
        have q523 : h464 75 13 = h 75 13 := by rw [← e466]; exact x_up_k (by decide)
        have k528 : Kq h h464 (h 75 13 - 2147483648) := by rw [← e466]; exact Kq.up Kq.refl (by first | decide | omega)
        have k527 : Kq h h471 (h 75 13 - 2147483648) := by rw [← e473]; exact Kq.up k528 (by first | decide | omega)
        have k526 : Kq h h475 (h 75 13 - 2147483648) := by rw [← e477]; exact Kq.oth k527 (by decide)
        have k525 : Kq h h485 (h 75 13 - 2147483648) := Kq.fr k526 f487 (by first | decide | omega) (by decide)
        have k524 : Kq h h509 (h 75 13 - 2147483648) := by rw [← e511]; exact Kq.up k525 (by first | decide | omega)
        have k533 : Kl h h464 u3 := by rw [← e466]; exact Kl.up Kl.refl (by first | decide | omega)
        have k532 : Kl h h471 u3 := by rw [← e473]; exact Kl.up k533 (by first | decide | omega)
        have k531 : Kl h h475 u3 := by rw [← e477]; exact Kl.oth k532 (by decide)
        have k530 : Kl h h485 u3 := Kl.fr k531 f487 (by first | decide | omega) (by decide)
        have k529 : Kl h h509 u3 := by rw [← e511]; exact Kl.up k530 (by first | decide | omega)
        have e535 : a1 - 2147483648 = u3 := by first | decide | omega
        have k534 : Kl h h509 (a1 - 2147483648) := by rw [e535]; exact k529
        have q536 : h509 76 (1123 + 3 * u3) = h485 76 (1123 + 3 * u3) := by rw [← e511]; exact x_up_i (by first | decide | omega)
        have q537 : h485 76 (1123 + 3 * u3) = h475 76 (1123 + 3 * u3) := jK u3 f487 rg_76_1123_3_10 (by first | decide | omega) (by first | decide | omega) (by decide)
        have q538 : h475 76 (1123 + 3 * u3) = h471 76 (1123 + 3 * u3) := by rw [← e477]; exact x_up_k (by decide)
        have q539 : h471 76 (1123 + 3 * u3) = (h 75 13) := by rw [← e473]; exact x_up_at
        have q540 : h509 76 (1124 + 3 * u3) = (h 75 13) := by rw [← e511]; exact x_up_at
        have g541 : Lg h509 u3 := Or.inl (show h509 76 (1123 + 3 * u3) = h509 76 (1124 + 3 * u3) by first | decide | omega)
        have g542 : Lg h509 (a1 - 2147483648) ∧ h509 76 (1124 + 3 * (a1 - 2147483648)) = h509 75 13 ∧ h 75 13 ≤ h509 75 13 := by
          rw [e535]
          exact ⟨g541, by first | decide | omega, by first | decide | omega⟩
        have y543 := Is.yes c448 (by first | decide | omega)
        have q544 : h475 75 7 = h471 75 7 := by rw [← e477]; exact x_up_i (by first | decide | omega)
        have q545 : h471 75 7 = h464 75 7 := by rw [← e473]; exact x_up_k (by decide)
        have q546 : h464 75 7 = h 75 7 := by rw [← e466]; exact x_up_k (by decide)
        obtain ⟨w547, e548⟩ := Tk.no c491 (by first | decide | omega)
        have q549 : h509 75 7 = h485 75 7 := by rw [← e511]; exact x_up_k (by decide)
        refine x_retI (np := 101) (x := 0) (by decide +kernel) (by decide) (Or.inr ⟨by decide +kernel, by first | decide | omega, by first | decide | omega⟩) ⟨_, rfl, (by decide), ?_⟩
        exact ⟨j510, f512, (by first | decide | omega), (fun z => by first | decide | omega), k524, k534, (fun _ => g542), (gL_end (i := 21) (by decide) (Wd.of' (by decide) y543 hp0) rfl (congrArg (sk tB tN) ((show h475 75 7 = h 75 7 by first | decide | omega).trans y543.1)) w547 rfl (by first | decide | omega) (Eq.trans (Eq.symm e548) (congrArg (sk tB tN) (show h485 75 7 = h509 75 7 by first | decide | omega)))), (fun z => absurd z (by first | decide | omega))⟩
      have q502 : ¬ (v479 = 2147483648) := q502
      have b550 := c490 (by first | decide | omega)
      refine x_aload (np := 79) (x := 0) (by decide +kernel) rfl (x_nc_le (by decide)) ?_
      have q551 : h485 75 10 = h475 75 10 := jK 0 f487 rg_75_10_0_1 (by first | decide | omega) (by first | decide | omega) (by decide)
      have q552 : h475 75 10 = 2147483648 := by rw [← e477]; exact x_up_at
      have q553 : h485 75 13 = h475 75 13 := jK 0 f487 rg_75_13_0_1 (by first | decide | omega) (by first | decide | omega) (by decide)
      have q554 : h475 75 13 = h471 75 13 := by rw [← e477]; exact x_up_i (by first | decide | omega)
      have q555 : h471 75 13 = h464 75 13 := by rw [← e473]; exact x_up_k (by decide)
      have q556 : h464 75 13 = h 75 13 := by rw [← e466]; exact x_up_k (by decide)
      have q557 : h485 75 10 = h475 75 10 := jK 0 f487 rg_75_10_0_1 (by first | decide | omega) (by first | decide | omega) (by decide)
      have q558 : h475 75 10 = 2147483648 := by rw [← e477]; exact x_up_at
      have m562 := Tq.fr m482 f487 (by decide) (by decide)
      refine x_cI (t := 6) (mj := 192) (n := 1) (rc := 12) (ml := 1) (nr := 0) (np := 82) (as := [x_r 75]) (rest := []) (lo1 := [x_r 75]) (by decide +kernel) (by decide) (by decide +kernel) (x_rb_of (by decide +kernel)) rfl rfl (x_wr (by decide) x_wn) x_wn (by decide) rfl (c192_75_D0 j486  (by first | decide | omega) (by first | decide | omega) m562) (fun v559 h563 l560 q561 => ?_)
      obtain ⟨j564, f565, b566, c567, c568, c569, c570, c571, c572, c573, c574⟩ := q561
      have f575 := Fr.trans f493 f565 (by decide)
      have q576 : h485 75 13 = h475 75 13 := jK 0 f487 rg_75_13_0_1 (by first | decide | omega) (by first | decide | omega) (by decide)
      have q577 : h475 75 13 = h471 75 13 := by rw [← e477]; exact x_up_i (by first | decide | omega)
      have q578 : h471 75 13 = h464 75 13 := by rw [← e473]; exact x_up_k (by decide)
      have q579 : h464 75 13 = h 75 13 := by rw [← e466]; exact x_up_k (by decide)
      have b580 := jB (e := 13) 0 j564 rg_75_13_0_1 (by first | decide | omega) (by first | decide | omega)
      have b581 := jB (e := 7) 0 j564 rg_75_7_0_1 (by first | decide | omega) (by first | decide | omega)
      have q582 : h485 75 10 = h475 75 10 := jK 0 f487 rg_75_10_0_1 (by first | decide | omega) (by first | decide | omega) (by decide)
      have q583 : h475 75 10 = 2147483648 := by rw [← e477]; exact x_up_at
      have b584 := jB (e := 10) 0 j564 rg_75_10_0_1 (by first | decide | omega) (by first | decide | omega)
      have q585 : h485 75 13 = h475 75 13 := jK 0 f487 rg_75_13_0_1 (by first | decide | omega) (by first | decide | omega) (by decide)
      have q586 : h475 75 13 = h471 75 13 := by rw [← e477]; exact x_up_i (by first | decide | omega)
      have q587 : h471 75 13 = h464 75 13 := by rw [← e473]; exact x_up_k (by decide)
      have q588 : h464 75 13 = h 75 13 := by rw [← e466]; exact x_up_k (by decide)
      refine x_ifz (k := 1) (tg := 87) (np := 85) (by decide +kernel) (by decide) l560 (fun q589 => ?_) (fun q590 => ?_)
      · have q589 : v559 ≠ 2147483648 := q589
        have b591 := c567 (by first | decide | omega)
        have b592 := c568 (by first | decide | omega)
        have b593 := c569 (by first | decide | omega)
        have b594 := c570 (by first | decide | omega)
        have s595 := c572 (by first | decide | omega)
        have q596 : h485 75 13 = h475 75 13 := jK 0 f487 rg_75_13_0_1 (by first | decide | omega) (by first | decide | omega) (by decide)
        have q597 : h475 75 13 = h471 75 13 := by rw [← e477]; exact x_up_i (by first | decide | omega)
        have q598 : h471 75 13 = h464 75 13 := by rw [← e473]; exact x_up_k (by decide)
        have q599 : h464 75 13 = h 75 13 := by rw [← e466]; exact x_up_k (by decide)
        refine x_aload (np := 88) (x := 0) (by decide +kernel) rfl (x_nc_le (by decide)) ?_
        have q600 : h563 75 1 = 76 := by have z := jB (e := 1) 0 j564 rg_75_1_0_1 (by decide) (by decide); omega
        refine x_getR (np := 91) (x := 705) (f := 1) (q := 76) (by decide +kernel) (by decide) (by decide +kernel) q600 ?_
        refine x_iload (np := 92) (x := 2) (by decide +kernel) rfl (by first | decide | omega) ?_
        refine x_const (np := 93) (x := 9223372047592194050) (a := 2147483650) (by decide +kernel) (by decide) (by decide) ?_
        refine x_iadd (np := 94) (x := 0) (v := (2147484772 + 3 * u3)) (by decide +kernel) (by first | decide | omega) (by decide) (by first | decide | omega) (by first | decide | omega) ?_
        refine x_aload (np := 95) (x := 0) (by decide +kernel) rfl (x_nc_le (by decide)) ?_
        refine x_getC (np := 98) (x := 717) (f := 13) (q := (h563 75 13)) (by decide +kernel) (by decide) (by decide +kernel) rfl (fun l601 => ?_)
        refine x_ast (np := 99) (x := 0) (kd := 1) (n := 1952) (i := (1124 + 3 * u3)) (by decide +kernel) (Or.inl rfl) (by decide +kernel) (by first | decide | omega) (by first | decide | omega) (by decide) l601 (fun z => absurd z (by decide)) ?_
        have j603 := jU (e := (1124 + 3 * u3)) (v := (h563 75 13)) u3 j564 rg_76_1124_3_10 (by first | decide | omega) (by first | decide | omega) (by first | decide | omega)
        have f605 := jF (e := (1124 + 3 * u3)) (v := (h563 75 13)) u3 f575 rg_76_1124_3_10 (by first | decide | omega) (by first | decide | omega) (by decide)
        generalize e604 : x_up h563 76 (1124 + 3 * u3) (h563 75 13) = h602 at j603 f605 ⊢
        refine x_const (np := 100) (x := 9223372043297226753) (a := 2147483649) (by decide +kernel) (by decide) (by decide) ?_
        have q606 : h602 75 13 = h563 75 13 := by rw [← e604]; exact x_up_k (by decide)
        have q607 : h602 75 7 = h563 75 7 := by rw [← e604]; exact x_up_k (by decide)
        have q608 : h602 75 13 = h563 75 13 := by rw [← e604]; exact x_up_k (by decide)
        have k614 : Kq h h464 (h 75 13 - 2147483648) := by rw [← e466]; exact Kq.up Kq.refl (by first | decide | omega)
        have k613 : Kq h h471 (h 75 13 - 2147483648) := by rw [← e473]; exact Kq.up k614 (by first | decide | omega)
        have k612 : Kq h h475 (h 75 13 - 2147483648) := by rw [← e477]; exact Kq.oth k613 (by decide)
        have k611 : Kq h h485 (h 75 13 - 2147483648) := Kq.fr k612 f487 (by first | decide | omega) (by decide)
        have q615 : h485 75 13 = h475 75 13 := jK 0 f487 rg_75_13_0_1 (by first | decide | omega) (by first | decide | omega) (by decide)
        have q616 : h475 75 13 = h471 75 13 := by rw [← e477]; exact x_up_i (by first | decide | omega)
        have q617 : h471 75 13 = h464 75 13 := by rw [← e473]; exact x_up_k (by decide)
        have q618 : h464 75 13 = h 75 13 := by rw [← e466]; exact x_up_k (by decide)
        have k610 : Kq h h563 (h 75 13 - 2147483648) := Kq.kp k611 c571 (by first | decide | omega)
        have k609 : Kq h h602 (h 75 13 - 2147483648) := by rw [← e604]; exact Kq.up k610 (by first | decide | omega)
        have k624 : Kl h h464 u3 := by rw [← e466]; exact Kl.up Kl.refl (by first | decide | omega)
        have k623 : Kl h h471 u3 := by rw [← e473]; exact Kl.up k624 (by first | decide | omega)
        have k622 : Kl h h475 u3 := by rw [← e477]; exact Kl.oth k623 (by decide)
        have k621 : Kl h h485 u3 := Kl.fr k622 f487 (by first | decide | omega) (by decide)
        have k620 : Kl h h563 u3 := Kl.kp k621 c571 (by first | decide | omega)
        have k619 : Kl h h602 u3 := by rw [← e604]; exact Kl.up k620 (by first | decide | omega)
        have e626 : a1 - 2147483648 = u3 := by first | decide | omega
        have k625 : Kl h h602 (a1 - 2147483648) := by rw [e626]; exact k619
        have q627 : h602 76 (1123 + 3 * u3) = h563 76 (1123 + 3 * u3) := by rw [← e604]; exact x_up_i (by first | decide | omega)
        have b628 := jB (e := (1123 + 3 * u3)) u3 j564 rg_76_1123_3_10 (by first | decide | omega) (by first | decide | omega)
        have q629 : h602 76 (1124 + 3 * u3) = (h563 75 13) := by rw [← e604]; exact x_up_at
        have k631 : Kq h563 h602 (h563 75 13 - 2147483648) := by rw [← e604]; exact Kq.up Kq.refl (by first | decide | omega)
        have q632 := c571.2 (1123 + 3 * u3) (by first | decide | omega) (by first | decide | omega)
        have q633 : h485 76 (1123 + 3 * u3) = h475 76 (1123 + 3 * u3) := jK u3 f487 rg_76_1123_3_10 (by first | decide | omega) (by first | decide | omega) (by decide)
        have q634 : h475 76 (1123 + 3 * u3) = h471 76 (1123 + 3 * u3) := by rw [← e477]; exact x_up_k (by decide)
        have q635 : h471 76 (1123 + 3 * u3) = (h 75 13) := by rw [← e473]; exact x_up_at
        have g630 : Lg h602 u3 := Or.inr (Seg.cast (a' := h602 76 (1123 + 3 * u3) - 2147483648) (b' := h602 76 (1124 + 3 * u3) - 2147483648) (Seg.kq s595 k631) (by rw [show h602 76 (1123 + 3 * u3) = h485 75 13 by first | decide | omega]) (by rw [show h602 76 (1124 + 3 * u3) = h563 75 13 by first | decide | omega]))
        have g636 : Lg h602 (a1 - 2147483648) ∧ h602 76 (1124 + 3 * (a1 - 2147483648)) = h602 75 13 ∧ h 75 13 ≤ h602 75 13 := by
          rw [e626]
          exact ⟨g630, by first | decide | omega, by first | decide | omega⟩
        have y637 := Is.yes c448 (by first | decide | omega)
        have q638 : h475 75 7 = h471 75 7 := by rw [← e477]; exact x_up_i (by first | decide | omega)
        have q639 : h471 75 7 = h464 75 7 := by rw [← e473]; exact x_up_k (by decide)
        have q640 : h464 75 7 = h 75 7 := by rw [← e466]; exact x_up_k (by decide)
        obtain ⟨w641, e642⟩ := Tk.yes c491 (by first | decide | omega)
        have q643 : h602 75 7 = h563 75 7 := by rw [← e604]; exact x_up_k (by decide)
        refine x_retI (np := 101) (x := 0) (by decide +kernel) (by decide) (Or.inr ⟨by decide +kernel, by first | decide | omega, by first | decide | omega⟩) ⟨_, rfl, (by decide), ?_⟩
        exact ⟨j603, f605, (by first | decide | omega), (fun z => by first | decide | omega), k609, k625, (fun _ => g636), (gL_if (i := 21) (by decide) (Wd.of' (by decide) y637 hp0) rfl (congrArg (sk tB tN) ((show h475 75 7 = h 75 7 by first | decide | omega).trans y637.1)) w641 rfl e642 c573 rfl (by first | decide | omega) (fun z => (congrArg (sk tB tN) (show h563 75 7 = h602 75 7 by first | decide | omega)))), (fun z => absurd z (by first | decide | omega))⟩
      have q590 : ¬ (v559 ≠ 2147483648) := q590
      refine x_const (np := 86) (x := 9223372039002259456) (a := 2147483648) (by decide +kernel) (by decide) (by decide) ?_
      have k648 : Kq h h464 (h 75 13 - 2147483648) := by rw [← e466]; exact Kq.up Kq.refl (by first | decide | omega)
      have k647 : Kq h h471 (h 75 13 - 2147483648) := by rw [← e473]; exact Kq.up k648 (by first | decide | omega)
      have k646 : Kq h h475 (h 75 13 - 2147483648) := by rw [← e477]; exact Kq.oth k647 (by decide)
      have k645 : Kq h h485 (h 75 13 - 2147483648) := Kq.fr k646 f487 (by first | decide | omega) (by decide)
      have q649 : h485 75 13 = h475 75 13 := jK 0 f487 rg_75_13_0_1 (by first | decide | omega) (by first | decide | omega) (by decide)
      have q650 : h475 75 13 = h471 75 13 := by rw [← e477]; exact x_up_i (by first | decide | omega)
      have q651 : h471 75 13 = h464 75 13 := by rw [← e473]; exact x_up_k (by decide)
      have q652 : h464 75 13 = h 75 13 := by rw [← e466]; exact x_up_k (by decide)
      have k644 : Kq h h563 (h 75 13 - 2147483648) := Kq.kp k645 c571 (by first | decide | omega)
      have k657 : Kl h h464 u3 := by rw [← e466]; exact Kl.up Kl.refl (by first | decide | omega)
      have k656 : Kl h h471 u3 := by rw [← e473]; exact Kl.up k657 (by first | decide | omega)
      have k655 : Kl h h475 u3 := by rw [← e477]; exact Kl.oth k656 (by decide)
      have k654 : Kl h h485 u3 := Kl.fr k655 f487 (by first | decide | omega) (by decide)
      have k653 : Kl h h563 u3 := Kl.kp k654 c571 (by first | decide | omega)
      have e659 : a1 - 2147483648 = u3 := by first | decide | omega
      have k658 : Kl h h563 (a1 - 2147483648) := by rw [e659]; exact k653
      have y660 := Is.yes c448 (by first | decide | omega)
      have q661 : h475 75 7 = h471 75 7 := by rw [← e477]; exact x_up_i (by first | decide | omega)
      have q662 : h471 75 7 = h464 75 7 := by rw [← e473]; exact x_up_k (by decide)
      have q663 : h464 75 7 = h 75 7 := by rw [← e466]; exact x_up_k (by decide)
      obtain ⟨w664, e665⟩ := Tk.yes c491 (by first | decide | omega)
      have y666 := Is.yes c448 (by first | decide | omega)
      have q667 : h475 75 7 = h471 75 7 := by rw [← e477]; exact x_up_i (by first | decide | omega)
      have q668 : h471 75 7 = h464 75 7 := by rw [← e473]; exact x_up_k (by decide)
      have q669 : h464 75 7 = h 75 7 := by rw [← e466]; exact x_up_k (by decide)
      obtain ⟨w670, e671⟩ := Tk.yes c491 (by first | decide | omega)
      refine x_retI (np := 87) (x := 0) (by decide +kernel) (by decide) (Or.inr ⟨by decide +kernel, by first | decide | omega, by first | decide | omega⟩) ⟨_, rfl, (by decide), ?_⟩
      exact ⟨j564, f575, (by first | decide | omega), (fun z => by first | decide | omega), k644, k658, (fun z => absurd z (by first | decide | omega)), (gL_if (i := 21) (by decide) (Wd.of' (by decide) y660 hp0) rfl (congrArg (sk tB tN) ((show h475 75 7 = h 75 7 by first | decide | omega).trans y660.1)) w664 rfl e665 c573 rfl (by first | decide | omega) (fun z => absurd z (by first | decide | omega))), (fun _ => fL_if (i := 21) (by decide) (Wd.of' (by decide) y666 hp0) rfl (congrArg (sk tB tN) ((show h475 75 7 = h 75 7 by first | decide | omega).trans y666.1)) w670 rfl e671 (c574 (by first | decide | omega)) rfl rfl)⟩
    have q463 : ¬ (v455 = 2147483648) := q463
    have b672 := c458 (by first | decide | omega)
    refine x_const (np := 46) (x := 9223372043297226753) (a := 2147483649) (by decide +kernel) (by decide) (by decide) ?_
    refine x_goto (np := 49) (x := 50) (by decide +kernel) ?_
    refine x_ast (np := 51) (x := 0) (kd := 1) (n := 1952) (i := (1122 + 3 * u3)) (by decide +kernel) (Or.inl rfl) (by decide +kernel) (by first | decide | omega) (by first | decide | omega) (by decide) (by decide) (fun z => absurd z (by decide)) ?_
    have j674 := jU (e := (1122 + 3 * u3)) (v := 2147483649) u3 hJ rg_76_1122_3_10 (by first | decide | omega) (by first | decide | omega) (by first | decide | omega)
    have f676 := jF (e := (1122 + 3 * u3)) (v := 2147483649) u3 hF rg_76_1122_3_10 (by first | decide | omega) (by first | decide | omega) (by decide)
    generalize e675 : x_up h 76 (1122 + 3 * u3) 2147483649 = h673 at j674 f676 ⊢
    refine x_aload (np := 52) (x := 0) (by decide +kernel) rfl (x_nc_le (by decide)) ?_
    have q677 : h673 75 1 = 76 := by have z := jB (e := 1) 0 j674 rg_75_1_0_1 (by decide) (by decide); omega
    refine x_getR (np := 55) (x := 705) (f := 1) (q := 76) (by decide +kernel) (by decide) (by decide +kernel) q677 ?_
    refine x_iload (np := 56) (x := 2) (by decide +kernel) rfl (by first | decide | omega) ?_
    refine x_const (np := 57) (x := 9223372043297226753) (a := 2147483649) (by decide +kernel) (by decide) (by decide) ?_
    refine x_iadd (np := 58) (x := 0) (v := (2147484771 + 3 * u3)) (by decide +kernel) (by first | decide | omega) (by decide) (by first | decide | omega) (by first | decide | omega) ?_
    refine x_aload (np := 59) (x := 0) (by decide +kernel) rfl (x_nc_le (by decide)) ?_
    have q678 : h673 75 13 = h 75 13 := by rw [← e675]; exact x_up_k (by decide)
    refine x_getC (np := 62) (x := 717) (f := 13) (q := (h 75 13)) (by decide +kernel) (by decide) (by decide +kernel) q678 (fun l679 => ?_)
    refine x_ast (np := 63) (x := 0) (kd := 1) (n := 1952) (i := (1123 + 3 * u3)) (by decide +kernel) (Or.inl rfl) (by decide +kernel) (by first | decide | omega) (by first | decide | omega) (by decide) l679 (fun z => absurd z (by decide)) ?_
    have j681 := jU (e := (1123 + 3 * u3)) (v := (h 75 13)) u3 j674 rg_76_1123_3_10 (by first | decide | omega) (by first | decide | omega) (by first | decide | omega)
    have f683 := jF (e := (1123 + 3 * u3)) (v := (h 75 13)) u3 f676 rg_76_1123_3_10 (by first | decide | omega) (by first | decide | omega) (by decide)
    generalize e682 : x_up h673 76 (1123 + 3 * u3) (h 75 13) = h680 at j681 f683 ⊢
    refine x_aload (np := 64) (x := 0) (by decide +kernel) rfl (x_nc_le (by decide)) ?_
    refine x_const (np := 65) (x := 9223372039002259456) (a := 2147483648) (by decide +kernel) (by decide) (by decide) ?_
    refine x_putI (np := 68) (x := 714) (f := 10) (by decide +kernel) (by decide +kernel) (by decide) (Or.inl (by decide)) ?_
    have j685 := jU (e := 10) (v := 2147483648) 0 j681 rg_75_10_0_1 (by first | decide | omega) (by first | decide | omega) (by first | decide | omega)
    have f687 := jF (e := 10) (v := 2147483648) 0 f683 rg_75_10_0_1 (by first | decide | omega) (by first | decide | omega) (by decide)
    generalize e686 : x_up h680 75 10 2147483648 = h684 at j685 f687 ⊢
    refine x_aload (np := 69) (x := 0) (by decide +kernel) rfl (x_nc_le (by decide)) ?_
    refine x_ldcwB (i := 23) (idx := 266) (tx := "if") (by rw [tb_y193]; exact List.mem_of_getElem? (i := 58) rfl) (by decide) (by rw [tb_b193]; decide +kernel) ?_
    have m693 : Tq tB tN h673 := by rw [← e675]; exact Tq.oth hT (by decide) (fun z => absurd z.1 (by decide))
    have m692 : Tq tB tN h680 := by rw [← e682]; exact Tq.oth m693 (by decide) (fun z => absurd z.1 (by decide))
    have m691 : Tq tB tN h684 := by rw [← e686]; exact Tq.oth m692 (by decide) (by decide)
    refine x_cI (t := 6) (mj := 171) (n := 2) (rc := 12) (ml := 2) (nr := 0) (np := 75) (as := [x_r 75, x_b (23 + 1)]) (rest := []) (lo1 := [x_r 75, x_b (23 + 1)]) (by decide +kernel) (by decide) (by decide +kernel) (x_rb_of (by decide +kernel)) rfl rfl (x_wr (by decide) (x_wB (by decide) x_wn)) x_wn (by decide) rfl (c171_75_S0 j685  (by decide) m691) (fun v688 h694 l689 q690 => ?_)
    obtain ⟨j695, f696, b697, c698, c699, c700, c701⟩ := q690
    have f702 := Fr.trans f687 f696 (by decide)
    have q703 : h684 75 7 = h680 75 7 := by rw [← e686]; exact x_up_i (by first | decide | omega)
    have q704 : h680 75 7 = h673 75 7 := by rw [← e682]; exact x_up_k (by decide)
    have q705 : h673 75 7 = h 75 7 := by rw [← e675]; exact x_up_k (by decide)
    have b706 := jB (e := 7) 0 j695 rg_75_7_0_1 (by first | decide | omega) (by first | decide | omega)
    have q707 : h684 75 7 = h680 75 7 := by rw [← e686]; exact x_up_i (by first | decide | omega)
    have q708 : h680 75 7 = h673 75 7 := by rw [← e682]; exact x_up_k (by decide)
    have q709 : h673 75 7 = h 75 7 := by rw [← e675]; exact x_up_k (by decide)
    refine x_ifz (k := 0) (tg := 87) (np := 78) (by decide +kernel) (by decide) l689 (fun q710 => ?_) (fun q711 => ?_)
    · have q710 : v688 = 2147483648 := q710
      refine x_aload (np := 88) (x := 0) (by decide +kernel) rfl (x_nc_le (by decide)) ?_
      have q712 : h694 75 1 = 76 := by have z := jB (e := 1) 0 j695 rg_75_1_0_1 (by decide) (by decide); omega
      refine x_getR (np := 91) (x := 705) (f := 1) (q := 76) (by decide +kernel) (by decide) (by decide +kernel) q712 ?_
      refine x_iload (np := 92) (x := 2) (by decide +kernel) rfl (by first | decide | omega) ?_
      refine x_const (np := 93) (x := 9223372047592194050) (a := 2147483650) (by decide +kernel) (by decide) (by decide) ?_
      refine x_iadd (np := 94) (x := 0) (v := (2147484772 + 3 * u3)) (by decide +kernel) (by first | decide | omega) (by decide) (by first | decide | omega) (by first | decide | omega) ?_
      refine x_aload (np := 95) (x := 0) (by decide +kernel) rfl (x_nc_le (by decide)) ?_
      have q713 : h694 75 13 = h684 75 13 := jK 0 f696 rg_75_13_0_1 (by first | decide | omega) (by first | decide | omega) (by decide)
      have q714 : h684 75 13 = h680 75 13 := by rw [← e686]; exact x_up_i (by first | decide | omega)
      have q715 : h680 75 13 = h673 75 13 := by rw [← e682]; exact x_up_k (by decide)
      have q716 : h673 75 13 = h 75 13 := by rw [← e675]; exact x_up_k (by decide)
      refine x_getC (np := 98) (x := 717) (f := 13) (q := (h 75 13)) (by decide +kernel) (by decide) (by decide +kernel) (((q713.trans q714).trans q715).trans q716) (fun l717 => ?_)
      refine x_ast (np := 99) (x := 0) (kd := 1) (n := 1952) (i := (1124 + 3 * u3)) (by decide +kernel) (Or.inl rfl) (by decide +kernel) (by first | decide | omega) (by first | decide | omega) (by decide) l679 (fun z => absurd z (by decide)) ?_
      have j719 := jU (e := (1124 + 3 * u3)) (v := (h 75 13)) u3 j695 rg_76_1124_3_10 (by first | decide | omega) (by first | decide | omega) (by first | decide | omega)
      have f721 := jF (e := (1124 + 3 * u3)) (v := (h 75 13)) u3 f702 rg_76_1124_3_10 (by first | decide | omega) (by first | decide | omega) (by decide)
      generalize e720 : x_up h694 76 (1124 + 3 * u3) (h 75 13) = h718 at j719 f721 ⊢
      refine x_const (np := 100) (x := 9223372043297226753) (a := 2147483649) (by decide +kernel) (by decide) (by decide) ?_
      have q722 : h718 75 13 = h694 75 13 := by rw [← e720]; exact x_up_k (by decide)
      have q723 : h694 75 13 = h684 75 13 := jK 0 f696 rg_75_13_0_1 (by first | decide | omega) (by first | decide | omega) (by decide)
      have q724 : h684 75 13 = h680 75 13 := by rw [← e686]; exact x_up_i (by first | decide | omega)
      have q725 : h680 75 13 = h673 75 13 := by rw [← e682]; exact x_up_k (by decide)
      have q726 : h673 75 13 = h 75 13 := by rw [← e675]; exact x_up_k (by decide)
      have q727 : h718 75 7 = h694 75 7 := by rw [← e720]; exact x_up_k (by decide)
      have q728 : h718 75 13 = h694 75 13 := by rw [← e720]; exact x_up_k (by decide)
      have q729 : h694 75 13 = h684 75 13 := jK 0 f696 rg_75_13_0_1 (by first | decide | omega) (by first | decide | omega) (by decide)
      have q730 : h684 75 13 = h680 75 13 := by rw [← e686]; exact x_up_i (by first | decide | omega)
      have q731 : h680 75 13 = h673 75 13 := by rw [← e682]; exact x_up_k (by decide)
      have q732 : h673 75 13 = h 75 13 := by rw [← e675]; exact x_up_k (by decide)
      have k737 : Kq h h673 (h 75 13 - 2147483648) := by rw [← e675]; exact Kq.up Kq.refl (by first | decide | omega)
      have k736 : Kq h h680 (h 75 13 - 2147483648) := by rw [← e682]; exact Kq.up k737 (by first | decide | omega)
      have k735 : Kq h h684 (h 75 13 - 2147483648) := by rw [← e686]; exact Kq.oth k736 (by decide)
      have k734 : Kq h h694 (h 75 13 - 2147483648) := Kq.fr k735 f696 (by first | decide | omega) (by decide)
      have k733 : Kq h h718 (h 75 13 - 2147483648) := by rw [← e720]; exact Kq.up k734 (by first | decide | omega)
      have k742 : Kl h h673 u3 := by rw [← e675]; exact Kl.up Kl.refl (by first | decide | omega)
      have k741 : Kl h h680 u3 := by rw [← e682]; exact Kl.up k742 (by first | decide | omega)
      have k740 : Kl h h684 u3 := by rw [← e686]; exact Kl.oth k741 (by decide)
      have k739 : Kl h h694 u3 := Kl.fr k740 f696 (by first | decide | omega) (by decide)
      have k738 : Kl h h718 u3 := by rw [← e720]; exact Kl.up k739 (by first | decide | omega)
      have e744 : a1 - 2147483648 = u3 := by first | decide | omega
      have k743 : Kl h h718 (a1 - 2147483648) := by rw [e744]; exact k738
      have q745 : h718 76 (1123 + 3 * u3) = h694 76 (1123 + 3 * u3) := by rw [← e720]; exact x_up_i (by first | decide | omega)
      have q746 : h694 76 (1123 + 3 * u3) = h684 76 (1123 + 3 * u3) := jK u3 f696 rg_76_1123_3_10 (by first | decide | omega) (by first | decide | omega) (by decide)
      have q747 : h684 76 (1123 + 3 * u3) = h680 76 (1123 + 3 * u3) := by rw [← e686]; exact x_up_k (by decide)
      have q748 : h680 76 (1123 + 3 * u3) = (h 75 13) := by rw [← e682]; exact x_up_at
      have q749 : h718 76 (1124 + 3 * u3) = (h 75 13) := by rw [← e720]; exact x_up_at
      have g750 : Lg h718 u3 := Or.inl (show h718 76 (1123 + 3 * u3) = h718 76 (1124 + 3 * u3) by first | decide | omega)
      have g751 : Lg h718 (a1 - 2147483648) ∧ h718 76 (1124 + 3 * (a1 - 2147483648)) = h718 75 13 ∧ h 75 13 ≤ h718 75 13 := by
        rw [e744]
        exact ⟨g750, by first | decide | omega, by first | decide | omega⟩
      have y752 := Is.yes c448 (by first | decide | omega)
      have q753 : h684 75 7 = h680 75 7 := by rw [← e686]; exact x_up_i (by first | decide | omega)
      have q754 : h680 75 7 = h673 75 7 := by rw [← e682]; exact x_up_k (by decide)
      have q755 : h673 75 7 = h 75 7 := by rw [← e675]; exact x_up_k (by decide)
      obtain ⟨w756, e757⟩ := Tk.no c700 (by first | decide | omega)
      have q758 : h718 75 7 = h694 75 7 := by rw [← e720]; exact x_up_k (by decide)
      refine x_retI (np := 101) (x := 0) (by decide +kernel) (by decide) (Or.inr ⟨by decide +kernel, by first | decide | omega, by first | decide | omega⟩) ⟨_, rfl, (by decide), ?_⟩
      exact ⟨j719, f721, (by first | decide | omega), (fun z => by first | decide | omega), k733, k743, (fun _ => g751), (gL_end (i := 21) (by decide) (Wd.of' (by decide) y752 hp0) rfl (congrArg (sk tB tN) ((show h684 75 7 = h 75 7 by first | decide | omega).trans y752.1)) w756 rfl (by first | decide | omega) (Eq.trans (Eq.symm e757) (congrArg (sk tB tN) (show h694 75 7 = h718 75 7 by first | decide | omega)))), (fun z => absurd z (by first | decide | omega))⟩
    have q711 : ¬ (v688 = 2147483648) := q711
    have b759 := c699 (by first | decide | omega)
    refine x_aload (np := 79) (x := 0) (by decide +kernel) rfl (x_nc_le (by decide)) ?_
    have q760 : h694 75 10 = h684 75 10 := jK 0 f696 rg_75_10_0_1 (by first | decide | omega) (by first | decide | omega) (by decide)
    have q761 : h684 75 10 = 2147483648 := by rw [← e686]; exact x_up_at
    have q762 : h694 75 13 = h684 75 13 := jK 0 f696 rg_75_13_0_1 (by first | decide | omega) (by first | decide | omega) (by decide)
    have q763 : h684 75 13 = h680 75 13 := by rw [← e686]; exact x_up_i (by first | decide | omega)
    have q764 : h680 75 13 = h673 75 13 := by rw [← e682]; exact x_up_k (by decide)
    have q765 : h673 75 13 = h 75 13 := by rw [← e675]; exact x_up_k (by decide)
    have q766 : h694 75 10 = h684 75 10 := jK 0 f696 rg_75_10_0_1 (by first | decide | omega) (by first | decide | omega) (by decide)
    have q767 : h684 75 10 = 2147483648 := by rw [← e686]; exact x_up_at
    have m771 := Tq.fr m691 f696 (by decide) (by decide)
    refine x_cI (t := 6) (mj := 192) (n := 1) (rc := 12) (ml := 1) (nr := 0) (np := 82) (as := [x_r 75]) (rest := []) (lo1 := [x_r 75]) (by decide +kernel) (by decide) (by decide +kernel) (x_rb_of (by decide +kernel)) rfl rfl (x_wr (by decide) x_wn) x_wn (by decide) rfl (c192_75_D0 j695  (by first | decide | omega) (by first | decide | omega) m771) (fun v768 h772 l769 q770 => ?_)
    obtain ⟨j773, f774, b775, c776, c777, c778, c779, c780, c781, c782, c783⟩ := q770
    have f784 := Fr.trans f702 f774 (by decide)
    have q785 : h694 75 13 = h684 75 13 := jK 0 f696 rg_75_13_0_1 (by first | decide | omega) (by first | decide | omega) (by decide)
    have q786 : h684 75 13 = h680 75 13 := by rw [← e686]; exact x_up_i (by first | decide | omega)
    have q787 : h680 75 13 = h673 75 13 := by rw [← e682]; exact x_up_k (by decide)
    have q788 : h673 75 13 = h 75 13 := by rw [← e675]; exact x_up_k (by decide)
    have b789 := jB (e := 13) 0 j773 rg_75_13_0_1 (by first | decide | omega) (by first | decide | omega)
    have b790 := jB (e := 7) 0 j773 rg_75_7_0_1 (by first | decide | omega) (by first | decide | omega)
    have q791 : h694 75 10 = h684 75 10 := jK 0 f696 rg_75_10_0_1 (by first | decide | omega) (by first | decide | omega) (by decide)
    have q792 : h684 75 10 = 2147483648 := by rw [← e686]; exact x_up_at
    have b793 := jB (e := 10) 0 j773 rg_75_10_0_1 (by first | decide | omega) (by first | decide | omega)
    have q794 : h694 75 13 = h684 75 13 := jK 0 f696 rg_75_13_0_1 (by first | decide | omega) (by first | decide | omega) (by decide)
    have q795 : h684 75 13 = h680 75 13 := by rw [← e686]; exact x_up_i (by first | decide | omega)
    have q796 : h680 75 13 = h673 75 13 := by rw [← e682]; exact x_up_k (by decide)
    have q797 : h673 75 13 = h 75 13 := by rw [← e675]; exact x_up_k (by decide)
    refine x_ifz (k := 1) (tg := 87) (np := 85) (by decide +kernel) (by decide) l769 (fun q798 => ?_) (fun q799 => ?_)
    · have q798 : v768 ≠ 2147483648 := q798
      have b800 := c776 (by first | decide | omega)
      have b801 := c777 (by first | decide | omega)
      have b802 := c778 (by first | decide | omega)
      have b803 := c779 (by first | decide | omega)
      have s804 := c781 (by first | decide | omega)
      have q805 : h694 75 13 = h684 75 13 := jK 0 f696 rg_75_13_0_1 (by first | decide | omega) (by first | decide | omega) (by decide)
      have q806 : h684 75 13 = h680 75 13 := by rw [← e686]; exact x_up_i (by first | decide | omega)
      have q807 : h680 75 13 = h673 75 13 := by rw [← e682]; exact x_up_k (by decide)
      have q808 : h673 75 13 = h 75 13 := by rw [← e675]; exact x_up_k (by decide)
      refine x_aload (np := 88) (x := 0) (by decide +kernel) rfl (x_nc_le (by decide)) ?_
      have q809 : h772 75 1 = 76 := by have z := jB (e := 1) 0 j773 rg_75_1_0_1 (by decide) (by decide); omega
      refine x_getR (np := 91) (x := 705) (f := 1) (q := 76) (by decide +kernel) (by decide) (by decide +kernel) q809 ?_
      refine x_iload (np := 92) (x := 2) (by decide +kernel) rfl (by first | decide | omega) ?_
      refine x_const (np := 93) (x := 9223372047592194050) (a := 2147483650) (by decide +kernel) (by decide) (by decide) ?_
      refine x_iadd (np := 94) (x := 0) (v := (2147484772 + 3 * u3)) (by decide +kernel) (by first | decide | omega) (by decide) (by first | decide | omega) (by first | decide | omega) ?_
      refine x_aload (np := 95) (x := 0) (by decide +kernel) rfl (x_nc_le (by decide)) ?_
      refine x_getC (np := 98) (x := 717) (f := 13) (q := (h772 75 13)) (by decide +kernel) (by decide) (by decide +kernel) rfl (fun l810 => ?_)
      refine x_ast (np := 99) (x := 0) (kd := 1) (n := 1952) (i := (1124 + 3 * u3)) (by decide +kernel) (Or.inl rfl) (by decide +kernel) (by first | decide | omega) (by first | decide | omega) (by decide) l810 (fun z => absurd z (by decide)) ?_
      have j812 := jU (e := (1124 + 3 * u3)) (v := (h772 75 13)) u3 j773 rg_76_1124_3_10 (by first | decide | omega) (by first | decide | omega) (by first | decide | omega)
      have f814 := jF (e := (1124 + 3 * u3)) (v := (h772 75 13)) u3 f784 rg_76_1124_3_10 (by first | decide | omega) (by first | decide | omega) (by decide)
      generalize e813 : x_up h772 76 (1124 + 3 * u3) (h772 75 13) = h811 at j812 f814 ⊢
      refine x_const (np := 100) (x := 9223372043297226753) (a := 2147483649) (by decide +kernel) (by decide) (by decide) ?_
      have q815 : h811 75 13 = h772 75 13 := by rw [← e813]; exact x_up_k (by decide)
      have q816 : h811 75 7 = h772 75 7 := by rw [← e813]; exact x_up_k (by decide)
      have q817 : h811 75 13 = h772 75 13 := by rw [← e813]; exact x_up_k (by decide)
      have k823 : Kq h h673 (h 75 13 - 2147483648) := by rw [← e675]; exact Kq.up Kq.refl (by first | decide | omega)
      have k822 : Kq h h680 (h 75 13 - 2147483648) := by rw [← e682]; exact Kq.up k823 (by first | decide | omega)
      have k821 : Kq h h684 (h 75 13 - 2147483648) := by rw [← e686]; exact Kq.oth k822 (by decide)
      have k820 : Kq h h694 (h 75 13 - 2147483648) := Kq.fr k821 f696 (by first | decide | omega) (by decide)
      have q824 : h694 75 13 = h684 75 13 := jK 0 f696 rg_75_13_0_1 (by first | decide | omega) (by first | decide | omega) (by decide)
      have q825 : h684 75 13 = h680 75 13 := by rw [← e686]; exact x_up_i (by first | decide | omega)
      have q826 : h680 75 13 = h673 75 13 := by rw [← e682]; exact x_up_k (by decide)
      have q827 : h673 75 13 = h 75 13 := by rw [← e675]; exact x_up_k (by decide)
      have k819 : Kq h h772 (h 75 13 - 2147483648) := Kq.kp k820 c780 (by first | decide | omega)
      have k818 : Kq h h811 (h 75 13 - 2147483648) := by rw [← e813]; exact Kq.up k819 (by first | decide | omega)
      have k833 : Kl h h673 u3 := by rw [← e675]; exact Kl.up Kl.refl (by first | decide | omega)
      have k832 : Kl h h680 u3 := by rw [← e682]; exact Kl.up k833 (by first | decide | omega)
      have k831 : Kl h h684 u3 := by rw [← e686]; exact Kl.oth k832 (by decide)
      have k830 : Kl h h694 u3 := Kl.fr k831 f696 (by first | decide | omega) (by decide)
      have k829 : Kl h h772 u3 := Kl.kp k830 c780 (by first | decide | omega)
      have k828 : Kl h h811 u3 := by rw [← e813]; exact Kl.up k829 (by first | decide | omega)
      have e835 : a1 - 2147483648 = u3 := by first | decide | omega
      have k834 : Kl h h811 (a1 - 2147483648) := by rw [e835]; exact k828
      have q836 : h811 76 (1123 + 3 * u3) = h772 76 (1123 + 3 * u3) := by rw [← e813]; exact x_up_i (by first | decide | omega)
      have b837 := jB (e := (1123 + 3 * u3)) u3 j773 rg_76_1123_3_10 (by first | decide | omega) (by first | decide | omega)
      have q838 : h811 76 (1124 + 3 * u3) = (h772 75 13) := by rw [← e813]; exact x_up_at
      have k840 : Kq h772 h811 (h772 75 13 - 2147483648) := by rw [← e813]; exact Kq.up Kq.refl (by first | decide | omega)
      have q841 := c780.2 (1123 + 3 * u3) (by first | decide | omega) (by first | decide | omega)
      have q842 : h694 76 (1123 + 3 * u3) = h684 76 (1123 + 3 * u3) := jK u3 f696 rg_76_1123_3_10 (by first | decide | omega) (by first | decide | omega) (by decide)
      have q843 : h684 76 (1123 + 3 * u3) = h680 76 (1123 + 3 * u3) := by rw [← e686]; exact x_up_k (by decide)
      have q844 : h680 76 (1123 + 3 * u3) = (h 75 13) := by rw [← e682]; exact x_up_at
      have g839 : Lg h811 u3 := Or.inr (Seg.cast (a' := h811 76 (1123 + 3 * u3) - 2147483648) (b' := h811 76 (1124 + 3 * u3) - 2147483648) (Seg.kq s804 k840) (by rw [show h811 76 (1123 + 3 * u3) = h694 75 13 by first | decide | omega]) (by rw [show h811 76 (1124 + 3 * u3) = h772 75 13 by first | decide | omega]))
      have g845 : Lg h811 (a1 - 2147483648) ∧ h811 76 (1124 + 3 * (a1 - 2147483648)) = h811 75 13 ∧ h 75 13 ≤ h811 75 13 := by
        rw [e835]
        exact ⟨g839, by first | decide | omega, by first | decide | omega⟩
      have y846 := Is.yes c448 (by first | decide | omega)
      have q847 : h684 75 7 = h680 75 7 := by rw [← e686]; exact x_up_i (by first | decide | omega)
      have q848 : h680 75 7 = h673 75 7 := by rw [← e682]; exact x_up_k (by decide)
      have q849 : h673 75 7 = h 75 7 := by rw [← e675]; exact x_up_k (by decide)
      obtain ⟨w850, e851⟩ := Tk.yes c700 (by first | decide | omega)
      have q852 : h811 75 7 = h772 75 7 := by rw [← e813]; exact x_up_k (by decide)
      refine x_retI (np := 101) (x := 0) (by decide +kernel) (by decide) (Or.inr ⟨by decide +kernel, by first | decide | omega, by first | decide | omega⟩) ⟨_, rfl, (by decide), ?_⟩
      exact ⟨j812, f814, (by first | decide | omega), (fun z => by first | decide | omega), k818, k834, (fun _ => g845), (gL_if (i := 21) (by decide) (Wd.of' (by decide) y846 hp0) rfl (congrArg (sk tB tN) ((show h684 75 7 = h 75 7 by first | decide | omega).trans y846.1)) w850 rfl e851 c782 rfl (by first | decide | omega) (fun z => (congrArg (sk tB tN) (show h772 75 7 = h811 75 7 by first | decide | omega)))), (fun z => absurd z (by first | decide | omega))⟩
    have q799 : ¬ (v768 ≠ 2147483648) := q799
    refine x_const (np := 86) (x := 9223372039002259456) (a := 2147483648) (by decide +kernel) (by decide) (by decide) ?_
    have k857 : Kq h h673 (h 75 13 - 2147483648) := by rw [← e675]; exact Kq.up Kq.refl (by first | decide | omega)
    have k856 : Kq h h680 (h 75 13 - 2147483648) := by rw [← e682]; exact Kq.up k857 (by first | decide | omega)
    have k855 : Kq h h684 (h 75 13 - 2147483648) := by rw [← e686]; exact Kq.oth k856 (by decide)
    have k854 : Kq h h694 (h 75 13 - 2147483648) := Kq.fr k855 f696 (by first | decide | omega) (by decide)
    have q858 : h694 75 13 = h684 75 13 := jK 0 f696 rg_75_13_0_1 (by first | decide | omega) (by first | decide | omega) (by decide)
    have q859 : h684 75 13 = h680 75 13 := by rw [← e686]; exact x_up_i (by first | decide | omega)
    have q860 : h680 75 13 = h673 75 13 := by rw [← e682]; exact x_up_k (by decide)
    have q861 : h673 75 13 = h 75 13 := by rw [← e675]; exact x_up_k (by decide)
    have k853 : Kq h h772 (h 75 13 - 2147483648) := Kq.kp k854 c780 (by first | decide | omega)
    have k866 : Kl h h673 u3 := by rw [← e675]; exact Kl.up Kl.refl (by first | decide | omega)
    have k865 : Kl h h680 u3 := by rw [← e682]; exact Kl.up k866 (by first | decide | omega)
    have k864 : Kl h h684 u3 := by rw [← e686]; exact Kl.oth k865 (by decide)
    have k863 : Kl h h694 u3 := Kl.fr k864 f696 (by first | decide | omega) (by decide)
    have k862 : Kl h h772 u3 := Kl.kp k863 c780 (by first | decide | omega)
    have e868 : a1 - 2147483648 = u3 := by first | decide | omega
    have k867 : Kl h h772 (a1 - 2147483648) := by rw [e868]; exact k862
    have y869 := Is.yes c448 (by first | decide | omega)
    have q870 : h684 75 7 = h680 75 7 := by rw [← e686]; exact x_up_i (by first | decide | omega)
    have q871 : h680 75 7 = h673 75 7 := by rw [← e682]; exact x_up_k (by decide)
    have q872 : h673 75 7 = h 75 7 := by rw [← e675]; exact x_up_k (by decide)
    obtain ⟨w873, e874⟩ := Tk.yes c700 (by first | decide | omega)
    have y875 := Is.yes c448 (by first | decide | omega)
    have q876 : h684 75 7 = h680 75 7 := by rw [← e686]; exact x_up_i (by first | decide | omega)
    have q877 : h680 75 7 = h673 75 7 := by rw [← e682]; exact x_up_k (by decide)
    have q878 : h673 75 7 = h 75 7 := by rw [← e675]; exact x_up_k (by decide)
    obtain ⟨w879, e880⟩ := Tk.yes c700 (by first | decide | omega)
    refine x_retI (np := 87) (x := 0) (by decide +kernel) (by decide) (Or.inr ⟨by decide +kernel, by first | decide | omega, by first | decide | omega⟩) ⟨_, rfl, (by decide), ?_⟩
    exact ⟨j773, f784, (by first | decide | omega), (fun z => by first | decide | omega), k853, k867, (fun z => absurd z (by first | decide | omega)), (gL_if (i := 21) (by decide) (Wd.of' (by decide) y869 hp0) rfl (congrArg (sk tB tN) ((show h684 75 7 = h 75 7 by first | decide | omega).trans y869.1)) w873 rfl e874 c782 rfl (by first | decide | omega) (fun z => absurd z (by first | decide | omega))), (fun _ => fL_if (i := 21) (by decide) (Wd.of' (by decide) y875 hp0) rfl (congrArg (sk tB tN) ((show h684 75 7 = h 75 7 by first | decide | omega).trans y875.1)) w879 rfl e880 (c783 (by first | decide | omega)) rfl rfl)⟩
  have q452 : ¬ (v444 ≠ 2147483648) := q452
  refine x_const (np := 29) (x := 9223372039002259456) (a := 2147483648) (by decide +kernel) (by decide) (by decide) ?_
  have e882 : a1 - 2147483648 = u3 := by first | decide | omega
  have k881 : Kl h h (a1 - 2147483648) := by rw [e882]; exact Kl.refl
  refine x_retI (np := 30) (x := 0) (by decide +kernel) (by decide) (Or.inr ⟨by decide +kernel, by first | decide | omega, by first | decide | omega⟩) ⟨_, rfl, (by decide), ?_⟩
  exact ⟨hJ, hF, (by first | decide | omega), (fun z => by first | decide | omega), Kq.refl, k881, (fun z => absurd z (by first | decide | omega)), (gL_no (Wd.no (by decide) (Is.no c448 (by first | decide | omega)) hp0) rfl (Wd.no (by decide) (Is.no c10 (by first | decide | omega)) hp0) rfl (by first | decide | omega)), (fun _ => fL_no (Wd.no (by decide) (Is.no c448 (by first | decide | omega)) hp0) rfl (Wd.no (by decide) (Is.no c10 (by first | decide | omega)) hp0) rfl rfl)⟩
