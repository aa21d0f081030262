/-! ===== methods ===== -/
set_option maxHeartbeats 0 in
/-- LentNamesModel.readAllOf()Z -/
theorem c191_75_D5 {sc : Nat × Nat} {d  : Nat} {h : xh} {tB : Nat → Nat} {tN : Nat} (hJ : J h) (hr0 : (h 75 13) + 5 ≤ (h 75 7)) (hr1 : (h 75 10) = 2147483653) (hT : Tq tB tN h) : X sc 191 (d + 11) (xI fun r h' => J h' ∧ Fr 97517569 h h' ∧ (2147483648 ≤ r ∧ r ≤ 2147483649) ∧ (r = 2147483649 → h' 75 13 + h 75 7 ≤ h' 75 7 + h 75 13) ∧ (r = 2147483649 → h' 75 10 = h 75 10) ∧ (r = 2147483649 → h 75 7 + 0 ≤ h' 75 7) ∧ (r = 2147483649 → h 75 13 ≤ h' 75 13) ∧ Kp h h' (h 75 13 - 2147483648) ∧ (r = 2147483649 → Seg (sg h') (h 75 13 - 2147483648) (h' 75 13 - 2147483648)) ∧ G tB tN (Kd.seq 1) 5 (sk tB tN (h 75 7)) (rs r (sk tB tN (h' 75 7))) ∧ (r = 2147483648 → GF tB tN (Kd.seq 1) 5 (sk tB tN (h 75 7)) (h' 75 9))) 0 0 0 [x_r 75] [] h := by
  have hF := Fr.refl 97517569 h
  have b1 := jB (e := 13) 0 hJ rg_75_13_0_1 (by first | decide | omega) (by first | decide | omega)
  have b2 := jB (e := 7) 0 hJ rg_75_7_0_1 (by first | decide | omega) (by first | decide | omega)
  have b3 := jB (e := 10) 0 hJ rg_75_10_0_1 (by first | decide | omega) (by first | decide | omega)
  refine x_aload (np := 1) (x := 0) (by decide +kernel) rfl (x_nc_le (by decide)) ?_
  refine x_cI (t := 6) (mj := 190) (n := 1) (rc := 12) (ml := 3) (nr := 0) (np := 4) (as := [x_r 75]) (rest := []) (lo1 := [x_r 75, 147573952589676412928, 147573952589676412928]) (by decide +kernel) (by decide) (by decide +kernel) (x_rb_of (by decide +kernel)) rfl rfl (x_wr (by decide) x_wn) x_wn (by decide) rfl (c190_75_D5 hJ  (by first | decide | omega) (by first | decide | omega) hT) (fun v4 h7 l5 q6 => ?_)
  obtain ⟨j8, f9, b10, c11, c12, c13, c14, c15, c16, c17, c18⟩ := q6
  have f19 := Fr.trans hF f9 (by decide)
  have b20 := jB (e := 13) 0 j8 rg_75_13_0_1 (by first | decide | omega) (by first | decide | omega)
  have b21 := jB (e := 7) 0 j8 rg_75_7_0_1 (by first | decide | omega) (by first | decide | omega)
  have b22 := jB (e := 10) 0 j8 rg_75_10_0_1 (by first | decide | omega) (by first | decide | omega)
  refine x_ifz (k := 1) (tg := 9) (np := 7) (by decide +kernel) (by decide) l5 (fun q23 => ?_) (fun q24 => ?_)
  · have q23 : v4 ≠ 2147483648 := q23
    have b25 := c11 (by first | decide | omega)
    have b26 := c12 (by first | decide | omega)
    have b27 := c13 (by first | decide | omega)
    have b28 := c14 (by first | decide | omega)
    have s29 := c16 (by first | decide | omega)
    have p202 : ∀ (n : Nat) (h199 : xh), 4294967296 - h199 75 7 < n → h199 75 13 + h 75 7 ≤ h199 75 7 + h 75 13 → h199 75 10 = h 75 10 → h 75 7 ≤ h199 75 7 → h 75 13 ≤ h199 75 13 → J h199 → Fr 97517569 h7 h199 → Res tB tN (Kd.lp 1) 5 (sk tB tN (h199 75 7)) (Kd.seq 1) 5 (sk tB tN (h 75 7)) → ResF tB tN (Kd.lp 1) 5 (sk tB tN (h199 75 7)) (Kd.seq 1) 5 (sk tB tN (h 75 7)) → Kp h h199 (h 75 13 - 2147483648) → Seg (sg h199) (h 75 13 - 2147483648) (h199 75 13 - 2147483648) → X sc 191 (d + 11) (xI fun r h' => J h' ∧ Fr 97517569 h h' ∧ (2147483648 ≤ r ∧ r ≤ 2147483649) ∧ (r = 2147483649 → h' 75 13 + h 75 7 ≤ h' 75 7 + h 75 13) ∧ (r = 2147483649 → h' 75 10 = h 75 10) ∧ (r = 2147483649 → h 75 7 + 0 ≤ h' 75 7) ∧ (r = 2147483649 → h 75 13 ≤ h' 75 13) ∧ Kp h h' (h 75 13 - 2147483648) ∧ (r = 2147483649 → Seg (sg h') (h 75 13 - 2147483648) (h' 75 13 - 2147483648)) ∧ G tB tN (Kd.seq 1) 5 (sk tB tN (h 75 7)) (rs r (sk tB tN (h' 75 7))) ∧ (r = 2147483648 → GF tB tN (Kd.seq 1) 5 (sk tB tN (h 75 7)) (h' 75 9))) 0 0 9 [x_r 75] [] h199 := by
      intro n
      induction n with
      | zero => intro h199 q211; exact absurd q211 (Nat.not_lt_zero _)
      | succ n i212 =>
        intro h199 q211 b203 b204 b205 b206 j201 f200 m207 m208 m209 m210
        have f213 := Fr.trans f19 f200 (by decide)
        refine x_aload (np := 10) (x := 0) (by decide +kernel) rfl (x_nc_le (by decide)) ?_
        refine x_ldcwB (i := 31) (idx := 257) (tx := "and") (by rw [tb_y191]; exact List.mem_of_getElem? (i := 66) rfl) (by decide) (by rw [tb_b191]; decide +kernel) ?_
        have m218 := Tq.fr hT f9 (by decide) (by decide)
        have m217 := Tq.fr m218 f200 (by decide) (by decide)
        refine x_cI (t := 6) (mj := 171) (n := 2) (rc := 12) (ml := 2) (nr := 0) (np := 16) (as := [x_r 75, x_b (31 + 1)]) (rest := []) (lo1 := [x_r 75, x_b (31 + 1)]) (by decide +kernel) (by decide) (by decide +kernel) (x_rb_of (by decide +kernel)) rfl rfl (x_wr (by decide) (x_wB (by decide) x_wn)) x_wn (by decide) rfl (c171_75_S0 j201  (by decide) m217) (fun v214 h219 l215 q216 => ?_)
        obtain ⟨j220, f221, b222, c223, c224, c225, c226⟩ := q216
        have f227 := Fr.trans f213 f221 (by decide)
        have f228 := Fr.trans f200 f221 (by decide)
        have b229 := jB (e := 7) 0 j201 rg_75_7_0_1 (by first | decide | omega) (by first | decide | omega)
        have b230 := jB (e := 7) 0 j220 rg_75_7_0_1 (by first | decide | omega) (by first | decide | omega)
        refine x_ifz (k := 0) (tg := 38) (np := 19) (by decide +kernel) (by decide) l215 (fun q231 => ?_) (fun q232 => ?_)
        · have q231 : v214 = 2147483648 := q231
          refine x_const (np := 39) (x := 9223372043297226753) (a := 2147483649) (by decide +kernel) (by decide) (by decide) ?_
          have q233 : h219 75 13 = h199 75 13 := jK 0 f221 rg_75_13_0_1 (by first | decide | omega) (by first | decide | omega) (by decide)
          have b234 := jB (e := 13) 0 j201 rg_75_13_0_1 (by first | decide | omega) (by first | decide | omega)
          have q235 : h219 75 10 = h199 75 10 := jK 0 f221 rg_75_10_0_1 (by first | decide | omega) (by first | decide | omega) (by decide)
          have b236 := jB (e := 10) 0 j201 rg_75_10_0_1 (by first | decide | omega) (by first | decide | omega)
          have q237 : h219 75 13 = h199 75 13 := jK 0 f221 rg_75_13_0_1 (by first | decide | omega) (by first | decide | omega) (by decide)
          have k239 : Kp h h199 (h 75 13 - 2147483648) := Kp.less m209 (by first | decide | omega)
          have k238 : Kp h h219 (h 75 13 - 2147483648) := Kp.fr k239 f221 (by first | decide | omega) (by decide)
          have q240 : h219 75 13 = h199 75 13 := jK 0 f221 rg_75_13_0_1 (by first | decide | omega) (by first | decide | omega) (by decide)
          have k241 : Kp h199 h219 (h199 75 13 - 2147483648) := Kp.fr Kp.refl f221 (by first | decide | omega) (by decide)
          have s242 : Seg (sg h219) (h 75 13 - 2147483648) (h219 75 13 - 2147483648) := Seg.cast (Seg.kp m210 k241) (by first | decide | omega) (by first | decide | omega)
          obtain ⟨w243, e244⟩ := Tk.no c225 (by first | decide | omega)
          refine x_retI (np := 40) (x := 0) (by decide +kernel) (by decide) (Or.inr ⟨by decide +kernel, by first | decide | omega, by first | decide | omega⟩) ⟨_, rfl, (by decide), ?_⟩
          exact ⟨j220, f227, (by first | decide | omega), (fun z => by first | decide | omega), (fun z => by first | decide | omega), (fun z => by first | decide | omega), (fun z => by first | decide | omega), k238, (fun _ => s242), (gQ_e (t := 1) m207 w243 rfl (by first | decide | omega) ((Eq.symm e244))), (fun z => absurd z (by first | decide | omega))⟩
        have q232 : ¬ (v214 = 2147483648) := q232
        have b245 := c224 (by first | decide | omega)
        refine x_aload (np := 20) (x := 0) (by decide +kernel) rfl (x_nc_le (by decide)) ?_
        have q246 : h219 75 10 = h199 75 10 := jK 0 f221 rg_75_10_0_1 (by first | decide | omega) (by first | decide | omega) (by decide)
        have b247 := jB (e := 10) 0 j201 rg_75_10_0_1 (by first | decide | omega) (by first | decide | omega)
        have q248 : h219 75 13 = h199 75 13 := jK 0 f221 rg_75_13_0_1 (by first | decide | omega) (by first | decide | omega) (by decide)
        have b249 := jB (e := 13) 0 j201 rg_75_13_0_1 (by first | decide | omega) (by first | decide | omega)
        have q250 : h219 75 10 = h199 75 10 := jK 0 f221 rg_75_10_0_1 (by first | decide | omega) (by first | decide | omega) (by decide)
        have m254 := Tq.fr m217 f221 (by decide) (by decide)
        refine x_cI (t := 6) (mj := 190) (n := 1) (rc := 12) (ml := 3) (nr := 0) (np := 23) (as := [x_r 75]) (rest := []) (lo1 := [x_r 75, 147573952589676412928, 147573952589676412928]) (by decide +kernel) (by decide) (by decide +kernel) (x_rb_of (by decide +kernel)) rfl rfl (x_wr (by decide) x_wn) x_wn (by decide) rfl (c190_75_D5 j220  (by first | decide | omega) (by first | decide | omega) m254) (fun v251 h255 l252 q253 => ?_)
        obtain ⟨j256, f257, b258, c259, c260, c261, c262, c263, c264, c265, c266⟩ := q253
        have f267 := Fr.trans f227 f257 (by decide)
        have f268 := Fr.trans f228 f257 (by decide)
        have q269 : h219 75 13 = h199 75 13 := jK 0 f221 rg_75_13_0_1 (by first | decide | omega) (by first | decide | omega) (by decide)
        have b270 := jB (e := 13) 0 j256 rg_75_13_0_1 (by first | decide | omega) (by first | decide | omega)
        have b271 := jB (e := 7) 0 j256 rg_75_7_0_1 (by first | decide | omega) (by first | decide | omega)
        have q272 : h219 75 10 = h199 75 10 := jK 0 f221 rg_75_10_0_1 (by first | decide | omega) (by first | decide | omega) (by decide)
        have b273 := jB (e := 10) 0 j256 rg_75_10_0_1 (by first | decide | omega) (by first | decide | omega)
        have q274 : h219 75 13 = h199 75 13 := jK 0 f221 rg_75_13_0_1 (by first | decide | omega) (by first | decide | omega) (by decide)
        refine x_ifz (k := 1) (tg := 28) (np := 26) (by decide +kernel) (by decide) l252 (fun q275 => ?_) (fun q276 => ?_)
        · have q275 : v251 ≠ 2147483648 := q275
          have b277 := c259 (by first | decide | omega)
          have b278 := c260 (by first | decide | omega)
          have b279 := c261 (by first | decide | omega)
          have b280 := c262 (by first | decide | omega)
          have s281 := c264 (by first | decide | omega)
          have q282 : h219 75 13 = h199 75 13 := jK 0 f221 rg_75_13_0_1 (by first | decide | omega) (by first | decide | omega) (by decide)
          refine x_aload (np := 29) (x := 0) (by decide +kernel) rfl (x_nc_le (by decide)) ?_
          refine x_const (np := 31) (x := 9223372094836834317) (a := 2147483661) (by decide +kernel) (by decide) (by decide) ?_
          refine x_const (np := 32) (x := 9223372039002259456) (a := 2147483648) (by decide +kernel) (by decide) (by decide) ?_
          refine x_nV (t := 6) (mj := 187) (n := 3) (rc := 12) (ml := 3) (nr := 0) (np := 35) (as := [x_r 75, iv_c 2147483661, iv_c 2147483648]) (rest := []) (lo1 := [x_r 75, iv_c 2147483661, iv_c 2147483648]) (by decide +kernel) (by decide) (by decide +kernel) (x_rb_of (by decide +kernel)) rfl rfl (x_wr (by decide) (x_wi (by decide) (x_wi (by decide) x_wn))) x_wn (by decide) rfl ?_
          refine x_aload (np := 1) (x := 0) (by decide +kernel) rfl (x_nc_le (by decide)) ?_
          have q283 : h255 75 1 = 76 := by have z := jB (e := 1) 0 j256 rg_75_1_0_1 (by decide) (by decide); omega
          refine x_getR (np := 4) (x := 705) (f := 1) (q := 76) (by decide +kernel) (by decide) (by decide +kernel) q283 ?_
          refine x_const (np := 7) (x := 9223376986804585600) (a := 2147484800) (by decide +kernel) (by decide) (by decide) ?_
          refine x_const (np := 8) (x := 9223372047592194050) (a := 2147483650) (by decide +kernel) (by decide) (by decide) ?_
          refine x_aload (np := 9) (x := 0) (by decide +kernel) rfl (x_nc_le (by decide)) ?_
          refine x_getC (np := 12) (x := 717) (f := 13) (q := (h255 75 13)) (by decide +kernel) (by decide) (by decide +kernel) rfl (fun l284 => ?_)
          obtain ⟨u285, q286⟩ : ∃ z, (h255 75 13) = 2147483648 + z := ⟨(h255 75 13) - 2147483648, by first | decide | omega⟩
          refine x_imul (np := 13) (x := 0) (i := 2) (j := u285) (v := (2147483648 + 2 * u285)) (by decide +kernel) (by first | decide | omega) (by first | decide | omega) (by first | decide | omega) (by first | decide | omega) (by decide) l284 ?_
          refine x_iadd (np := 14) (x := 0) (v := (2147484800 + 2 * u285)) (by decide +kernel) (by decide) (by first | decide | omega) (by first | decide | omega) (by first | decide | omega) ?_
          refine x_iload (np := 15) (x := 1) (by decide +kernel) rfl (by decide) ?_
          refine x_ast (np := 16) (x := 0) (kd := 1) (n := 1952) (i := (1152 + 2 * u285)) (by decide +kernel) (Or.inl rfl) (by decide +kernel) (by first | decide | omega) (by first | decide | omega) (by decide) (by decide) (fun z => absurd z (by decide)) ?_
          have j289 := jU (e := (1152 + 2 * u285)) (v := 2147483661) u285 j256 rg_76_1152_2_394 (by first | decide | omega) (by first | decide | omega) (by first | decide | omega)
          have f291 := jF (e := (1152 + 2 * u285)) (v := 2147483661) u285 f267 rg_76_1152_2_394 (by first | decide | omega) (by first | decide | omega) (by decide)
          have f292 := jF (e := (1152 + 2 * u285)) (v := 2147483661) u285 f268 rg_76_1152_2_394 (by first | decide | omega) (by first | decide | omega) (by decide)
          generalize e290 : x_up h255 76 (1152 + 2 * u285) 2147483661 = h288 at j289 f291 f292 ⊢
          refine x_aload (np := 17) (x := 0) (by decide +kernel) rfl (x_nc_le (by decide)) ?_
          have q293 : h288 75 1 = 76 := by have z := jB (e := 1) 0 j289 rg_75_1_0_1 (by decide) (by decide); omega
          refine x_getR (np := 20) (x := 705) (f := 1) (q := 76) (by decide +kernel) (by decide) (by decide +kernel) q293 ?_
          refine x_const (np := 23) (x := 9223376986804585600) (a := 2147484800) (by decide +kernel) (by decide) (by decide) ?_
          refine x_const (np := 24) (x := 9223372047592194050) (a := 2147483650) (by decide +kernel) (by decide) (by decide) ?_
          refine x_aload (np := 25) (x := 0) (by decide +kernel) rfl (x_nc_le (by decide)) ?_
          have q294 : h288 75 13 = h255 75 13 := by rw [← e290]; exact x_up_k (by decide)
          refine x_getC (np := 28) (x := 717) (f := 13) (q := (h255 75 13)) (by decide +kernel) (by decide) (by decide +kernel) q294 (fun l295 => ?_)
          refine x_imul (np := 29) (x := 0) (i := 2) (j := u285) (v := (2147483648 + 2 * u285)) (by decide +kernel) (by first | decide | omega) (by first | decide | omega) (by first | decide | omega) (by first | decide | omega) (by decide) l284 ?_
          refine x_iadd (np := 30) (x := 0) (v := (2147484800 + 2 * u285)) (by decide +kernel) (by decide) (by first | decide | omega) (by first | decide | omega) (by first | decide | omega) ?_
          refine x_const (np := 31) (x := 9223372043297226753) (a := 2147483649) (by decide +kernel) (by decide) (by decide) ?_
          refine x_iadd (np := 32) (x := 0) (v := (2147484801 + 2 * u285)) (by decide +kernel) (by first | decide | omega) (by decide) (by first | decide | omega) (by first | decide | omega) ?_
          refine x_iload (np := 33) (x := 2) (by decide +kernel) rfl (by decide) ?_
          refine x_ast (np := 34) (x := 0) (kd := 1) (n := 1952) (i := (1153 + 2 * u285)) (by decide +kernel) (Or.inl rfl) (by decide +kernel) (by first | decide | omega) (by first | decide | omega) (by decide) (by decide) (fun z => absurd z (by decide)) ?_
          have j298 := jU (e := (1153 + 2 * u285)) (v := 2147483648) u285 j289 rg_76_1153_2_394 (by first | decide | omega) (by first | decide | omega) (by first | decide | omega)
          have f300 := jF (e := (1153 + 2 * u285)) (v := 2147483648) u285 f291 rg_76_1153_2_394 (by first | decide | omega) (by first | decide | omega) (by decide)
          have f301 := jF (e := (1153 + 2 * u285)) (v := 2147483648) u285 f292 rg_76_1153_2_394 (by first | decide | omega) (by first | decide | omega) (by decide)
          generalize e299 : x_up h288 76 (1153 + 2 * u285) 2147483648 = h297 at j298 f300 f301 ⊢
          refine x_aload (np := 35) (x := 0) (by decide +kernel) rfl (x_nc_le (by decide)) ?_
          refine x_dup (np := 36) (x := 0) (by decide +kernel) (by have z := x_nc_le (k := 75) (by decide); unfold x_r; omega) ?_
          have q302 : h297 75 13 = h288 75 13 := by rw [← e299]; exact x_up_k (by decide)
          have q303 : h288 75 13 = h255 75 13 := by rw [← e290]; exact x_up_k (by decide)
          refine x_getC (np := 39) (x := 717) (f := 13) (q := (h255 75 13)) (by decide +kernel) (by decide) (by decide +kernel) (q302.trans q303) (fun l304 => ?_)
          refine x_const (np := 40) (x := 9223372043297226753) (a := 2147483649) (by decide +kernel) (by decide) (by decide) ?_
          refine x_iadd (np := 41) (x := 0) (v := (1 + (h255 75 13))) (by decide +kernel) l284 (by decide) (by first | decide | omega) (by first | decide | omega) ?_
          refine x_putI (np := 44) (x := 717) (f := 13) (by decide +kernel) (by decide +kernel) (by first | decide | omega) (Or.inl (by decide)) ?_
          have j306 := jU (e := 13) (v := (1 + (h255 75 13))) 0 j298 rg_75_13_0_1 (by first | decide | omega) (by first | decide | omega) (by first | decide | omega)
          have f308 := jF (e := 13) (v := (1 + (h255 75 13))) 0 f300 rg_75_13_0_1 (by first | decide | omega) (by first | decide | omega) (by decide)
          have f309 := jF (e := 13) (v := (1 + (h255 75 13))) 0 f301 rg_75_13_0_1 (by first | decide | omega) (by first | decide | omega) (by decide)
          generalize e307 : x_up h297 75 13 (1 + (h255 75 13)) = h305 at j306 f308 f309 ⊢
          refine x_retV (np := 45) (x := 0) (by decide +kernel) (by decide +kernel) ⟨rfl, ?_⟩
          have q310 : h305 75 13 = (1 + (h255 75 13)) := by rw [← e307]; exact x_up_at
          refine x_goto (np := 38) (x := 9) (by decide +kernel) ?_
          have q311 : h305 75 7 = h297 75 7 := by rw [← e307]; exact x_up_i (by first | decide | omega)
          have q312 : h297 75 7 = h288 75 7 := by rw [← e299]; exact x_up_k (by decide)
          have q313 : h288 75 7 = h255 75 7 := by rw [← e290]; exact x_up_k (by decide)
          have q314 : h305 75 7 = h297 75 7 := by rw [← e307]; exact x_up_i (by first | decide | omega)
          have q315 : h297 75 7 = h288 75 7 := by rw [← e299]; exact x_up_k (by decide)
          have q316 : h288 75 7 = h255 75 7 := by rw [← e290]; exact x_up_k (by decide)
          have q317 : h305 75 13 = (1 + (h255 75 13)) := by rw [← e307]; exact x_up_at
          have q318 : h305 75 10 = h297 75 10 := by rw [← e307]; exact x_up_i (by first | decide | omega)
          have q319 : h297 75 10 = h288 75 10 := by rw [← e299]; exact x_up_k (by decide)
          have q320 : h288 75 10 = h255 75 10 := by rw [← e290]; exact x_up_k (by decide)
          obtain ⟨w321, e322⟩ := Tk.yes c225 (by first | decide | omega)
          have q323 : h305 75 7 = h297 75 7 := by rw [← e307]; exact x_up_i (by first | decide | omega)
          have q324 : h297 75 7 = h288 75 7 := by rw [← e299]; exact x_up_k (by decide)
          have q325 : h288 75 7 = h255 75 7 := by rw [← e290]; exact x_up_k (by decide)
          obtain ⟨w326, e327⟩ := Tk.yes c225 (by first | decide | omega)
          have q328 : h305 75 7 = h297 75 7 := by rw [← e307]; exact x_up_i (by first | decide | omega)
          have q329 : h297 75 7 = h288 75 7 := by rw [← e299]; exact x_up_k (by decide)
          have q330 : h288 75 7 = h255 75 7 := by rw [← e290]; exact x_up_k (by decide)
          have k336 : Kp h h199 (h 75 13 - 2147483648) := Kp.less m209 (by first | decide | omega)
          have k335 : Kp h h219 (h 75 13 - 2147483648) := Kp.fr k336 f221 (by first | decide | omega) (by decide)
          have q337 : h219 75 13 = h199 75 13 := jK 0 f221 rg_75_13_0_1 (by first | decide | omega) (by first | decide | omega) (by decide)
          have k334 : Kp h h255 (h 75 13 - 2147483648) := Kp.trans k335 c263 (by first | decide | omega)
          have k333 : Kp h h288 (h 75 13 - 2147483648) := by rw [← e290]; exact Kp.up k334 (by first | decide | omega) (fun i hi => by first | decide | omega)
          have k332 : Kp h h297 (h 75 13 - 2147483648) := by rw [← e299]; exact Kp.up k333 (by first | decide | omega) (fun i hi => by first | decide | omega)
          have k331 : Kp h h305 (h 75 13 - 2147483648) := by rw [← e307]; exact Kp.oth k332 (by decide)
          have q338 : h305 75 13 = (1 + (h255 75 13)) := by rw [← e307]; exact x_up_at
          have q340 : h305 76 (1152 + 2 * u285) = h297 76 (1152 + 2 * u285) := by rw [← e307]; exact x_up_k (by decide)
          have q341 : h297 76 (1152 + 2 * u285) = h288 76 (1152 + 2 * u285) := by rw [← e299]; exact x_up_i (by first | decide | omega)
          have q342 : h288 76 (1152 + 2 * u285) = 2147483661 := by rw [← e290]; exact x_up_at
          have k347 : Kp h199 h219 (h199 75 13 - 2147483648) := Kp.fr Kp.refl f221 (by first | decide | omega) (by decide)
          have q348 : h219 75 13 = h199 75 13 := jK 0 f221 rg_75_13_0_1 (by first | decide | omega) (by first | decide | omega) (by decide)
          have k346 : Kp h199 h255 (h199 75 13 - 2147483648) := Kp.trans k347 c263 (by first | decide | omega)
          have k345 : Kp h199 h288 (h199 75 13 - 2147483648) := by rw [← e290]; exact Kp.up k346 (by first | decide | omega) (fun i hi => by first | decide | omega)
          have k344 : Kp h199 h297 (h199 75 13 - 2147483648) := by rw [← e299]; exact Kp.up k345 (by first | decide | omega) (fun i hi => by first | decide | omega)
          have k343 : Kp h199 h305 (h199 75 13 - 2147483648) := by rw [← e307]; exact Kp.oth k344 (by decide)
          have k351 : Kp h255 h288 (h255 75 13 - 2147483648) := by rw [← e290]; exact Kp.up Kp.refl (by first | decide | omega) (fun i hi => by first | decide | omega)
          have k350 : Kp h255 h297 (h255 75 13 - 2147483648) := by rw [← e299]; exact Kp.up k351 (by first | decide | omega) (fun i hi => by first | decide | omega)
          have k349 : Kp h255 h305 (h255 75 13 - 2147483648) := by rw [← e307]; exact Kp.oth k350 (by decide)
          have s339 : Seg (sg h305) (h 75 13 - 2147483648) (u285 + 1) := Seg.bin (Seg.kp m210 k343) (Seg.cast (a' := (h199 75 13 - 2147483648)) (b' := u285) (Seg.kp s281 k349) (by first | decide | omega) (by first | decide | omega)) (show 2147483656 < h305 76 (1152 + 2 * u285) by first | decide | omega) (show h305 76 (1152 + 2 * u285) ≠ 2147483660 by first | decide | omega)
          have s352 : Seg (sg h305) (h 75 13 - 2147483648) (h305 75 13 - 2147483648) := Seg.cast (Seg.kp s339 Kp.refl) (by first | decide | omega) (by first | decide | omega)
          exact i212  h305 (by first | decide | omega) (by first | decide | omega) (by first | decide | omega) (by first | decide | omega) (by first | decide | omega) j306 f309 (gQ_st (t := 1) m207 w321 rfl e322 c265 rfl (by first | decide | omega) (congrArg (sk tB tN) (show h255 75 7 = h305 75 7 by first | decide | omega))) (fQ_st (t := 1) m208 w326 rfl e327 c265 rfl (by first | decide | omega) (congrArg (sk tB tN) (show h255 75 7 = h305 75 7 by first | decide | omega))) k331 s352
        have q276 : ¬ (v251 ≠ 2147483648) := q276
        refine x_const (np := 27) (x := 9223372039002259456) (a := 2147483648) (by decide +kernel) (by decide) (by decide) ?_
        have k355 : Kp h h199 (h 75 13 - 2147483648) := Kp.less m209 (by first | decide | omega)
        have k354 : Kp h h219 (h 75 13 - 2147483648) := Kp.fr k355 f221 (by first | decide | omega) (by decide)
        have q356 : h219 75 13 = h199 75 13 := jK 0 f221 rg_75_13_0_1 (by first | decide | omega) (by first | decide | omega) (by decide)
        have k353 : Kp h h255 (h 75 13 - 2147483648) := Kp.trans k354 c263 (by first | decide | omega)
        obtain ⟨w357, e358⟩ := Tk.yes c225 (by first | decide | omega)
        obtain ⟨w359, e360⟩ := Tk.yes c225 (by first | decide | omega)
        refine x_retI (np := 28) (x := 0) (by decide +kernel) (by decide) (Or.inr ⟨by decide +kernel, by first | decide | omega, by first | decide | omega⟩) ⟨_, rfl, (by decide), ?_⟩
        exact ⟨j256, f267, (by first | decide | omega), (fun z => by first | decide | omega), (fun z => by first | decide | omega), (fun z => by first | decide | omega), (fun z => by first | decide | omega), k353, (fun z => absurd z (by first | decide | omega)), (gQ_f (t := 1) m207 w357 rfl e358 c265 rfl (by first | decide | omega) (by first | decide | omega)), (fun _ => fQ_f (t := 1) m208 w359 rfl e360 (c266 (by first | decide | omega)) rfl rfl)⟩
    have k361 : Kp h h7 (h 75 13 - 2147483648) := Kp.less c15 (by first | decide | omega)
    have s362 : Seg (sg h7) (h 75 13 - 2147483648) (h7 75 13 - 2147483648) := Seg.cast (Seg.kp s29 Kp.refl) (by first | decide | omega) (by first | decide | omega)
    exact p202 _  h7 (Nat.lt_succ_self _) (by first | decide | omega) (by first | decide | omega) (by first | decide | omega) (by first | decide | omega) j8 (Fr.refl _ _) (gQ_in (t := 1) c17 rfl (by first | decide | omega) rfl) (fQ_in (t := 1) c17 rfl (by first | decide | omega) rfl) k361 s362
  have q24 : ¬ (v4 ≠ 2147483648) := q24
  refine x_const (np := 8) (x := 9223372039002259456) (a := 2147483648) (by decide +kernel) (by decide) (by decide) ?_
  have k363 : Kp h h7 (h 75 13 - 2147483648) := Kp.less c15 (by first | decide | omega)
  refine x_retI (np := 9) (x := 0) (by decide +kernel) (by decide) (Or.inr ⟨by decide +kernel, by first | decide | omega, by first | decide | omega⟩) ⟨_, rfl, (by decide), ?_⟩
  exact ⟨j8, f19, (by first | decide | omega), (fun z => by first | decide | omega), (fun z => by first | decide | omega), (fun z => by first | decide | omega), (fun z => by first | decide | omega), k363, (fun z => absurd z (by first | decide | omega)), (gQ_no (t := 1) c17 rfl (by first | decide | omega) (by first | decide | omega)), (fun _ => fQ_no (t := 1) (c18 (by first | decide | omega)) rfl rfl)⟩
set_option maxHeartbeats 0 in
/-- LentNamesModel.readCond()Z -/
theorem c192_75_D5 {sc : Nat × Nat} {d  : Nat} {h : xh} {tB : Nat → Nat} {tN : Nat} (hJ : J h) (hr0 : (h 75 13) + 5 ≤ (h 75 7)) (hr1 : (h 75 10) = 2147483653) (hT : Tq tB tN h) : X sc 192 (d + 12) (xI fun r h' => J h' ∧ Fr 97517569 h h' ∧ (2147483648 ≤ r ∧ r ≤ 2147483649) ∧ (r = 2147483649 → h' 75 13 + h 75 7 ≤ h' 75 7 + h 75 13) ∧ (r = 2147483649 → h' 75 10 = h 75 10) ∧ (r = 2147483649 → h 75 7 + 0 ≤ h' 75 7) ∧ (r = 2147483649 → h 75 13 ≤ h' 75 13) ∧ Kp h h' (h 75 13 - 2147483648) ∧ (r = 2147483649 → Seg (sg h') (h 75 13 - 2147483648) (h' 75 13 - 2147483648)) ∧ G tB tN (Kd.seq 2) 5 (sk tB tN (h 75 7)) (rs r (sk tB tN (h' 75 7))) ∧ (r = 2147483648 → GF tB tN (Kd.seq 2) 5 (sk tB tN (h 75 7)) (h' 75 9))) 0 0 0 [x_r 75] [] h := by
  have hF := Fr.refl 97517569 h
  have b1 := jB (e := 13) 0 hJ rg_75_13_0_1 (by first | decide | omega) (by first | decide | omega)
  have b2 := jB (e := 7) 0 hJ rg_75_7_0_1 (by first | decide | omega) (by first | decide | omega)
  have b3 := jB (e := 10) 0 hJ rg_75_10_0_1 (by first | decide | omega) (by first | decide | omega)
  refine x_aload (np := 1) (x := 0) (by decide +kernel) rfl (x_nc_le (by decide)) ?_
  refine x_cI (t := 6) (mj := 191) (n := 1) (rc := 12) (ml := 1) (nr := 0) (np := 4) (as := [x_r 75]) (rest := []) (lo1 := [x_r 75]) (by decide +kernel) (by decide) (by decide +kernel) (x_rb_of (by decide +kernel)) rfl rfl (x_wr (by decide) x_wn) x_wn (by decide) rfl (c191_75_D5 hJ  (by first | decide | omega) (by first | decide | omega) hT) (fun v4 h7 l5 q6 => ?_)
  obtain ⟨j8, f9, b10, c11, c12, c13, c14, c15, c16, c17, c18⟩ := q6
  have f19 := Fr.trans hF f9 (by decide)
  have b20 := jB (e := 13) 0 j8 rg_75_13_0_1 (by first | decide | omega) (by first | decide | omega)
  have b21 := jB (e := 7) 0 j8 rg_75_7_0_1 (by first | decide | omega) (by first | decide | omega)
  have b22 := jB (e := 10) 0 j8 rg_75_10_0_1 (by first | decide | omega) (by first | decide | omega)
  refine x_ifz (k := 1) (tg := 9) (np := 7) (by decide +kernel) (by decide) l5 (fun q23 => ?_) (fun q24 => ?_)
  · have q23 : v4 ≠ 2147483648 := q23
    have b25 := c11 (by first | decide | omega)
    have b26 := c12 (by first | decide | omega)
    have b27 := c13 (by first | decide | omega)
    have b28 := c14 (by first | decide | omega)
    have s29 := c16 (by first | decide | omega)
    have p202 : ∀ (n : Nat) (h199 : xh), 4294967296 - h199 75 7 < n → h199 75 13 + h 75 7 ≤ h199 75 7 + h 75 13 → h199 75 10 = h 75 10 → h 75 7 ≤ h199 75 7 → h 75 13 ≤ h199 75 13 → J h199 → Fr 97517569 h7 h199 → Res tB tN (Kd.lp 2) 5 (sk tB tN (h199 75 7)) (Kd.seq 2) 5 (sk tB tN (h 75 7)) → ResF tB tN (Kd.lp 2) 5 (sk tB tN (h199 75 7)) (Kd.seq 2) 5 (sk tB tN (h 75 7)) → Kp h h199 (h 75 13 - 2147483648) → Seg (sg h199) (h 75 13 - 2147483648) (h199 75 13 - 2147483648) → X sc 192 (d + 12) (xI fun r h' => J h' ∧ Fr 97517569 h h' ∧ (2147483648 ≤ r ∧ r ≤ 2147483649) ∧ (r = 2147483649 → h' 75 13 + h 75 7 ≤ h' 75 7 + h 75 13) ∧ (r = 2147483649 → h' 75 10 = h 75 10) ∧ (r = 2147483649 → h 75 7 + 0 ≤ h' 75 7) ∧ (r = 2147483649 → h 75 13 ≤ h' 75 13) ∧ Kp h h' (h 75 13 - 2147483648) ∧ (r = 2147483649 → Seg (sg h') (h 75 13 - 2147483648) (h' 75 13 - 2147483648)) ∧ G tB tN (Kd.seq 2) 5 (sk tB tN (h 75 7)) (rs r (sk tB tN (h' 75 7))) ∧ (r = 2147483648 → GF tB tN (Kd.seq 2) 5 (sk tB tN (h 75 7)) (h' 75 9))) 0 0 9 [x_r 75] [] h199 := by
      intro n
      induction n with
      | zero => intro h199 q211; exact absurd q211 (Nat.not_lt_zero _)
      | succ n i212 =>
        intro h199 q211 b203 b204 b205 b206 j201 f200 m207 m208 m209 m210
        have f213 := Fr.trans f19 f200 (by decide)
        refine x_aload (np := 10) (x := 0) (by decide +kernel) rfl (x_nc_le (by decide)) ?_
        refine x_ldcB (i := 15) (idx := 179) (tx := "or") (by rw [tb_y192]; exact List.mem_of_getElem? (i := 54) rfl) (by decide) (by rw [tb_b192]; decide +kernel) ?_
        have m218 := Tq.fr hT f9 (by decide) (by decide)
        have m217 := Tq.fr m218 f200 (by decide) (by decide)
        refine x_cI (t := 6) (mj := 171) (n := 2) (rc := 12) (ml := 2) (nr := 0) (np := 15) (as := [x_r 75, x_b (15 + 1)]) (rest := []) (lo1 := [x_r 75, x_b (15 + 1)]) (by decide +kernel) (by decide) (by decide +kernel) (x_rb_of (by decide +kernel)) rfl rfl (x_wr (by decide) (x_wB (by decide) x_wn)) x_wn (by decide) rfl (c171_75_S0 j201  (by decide) m217) (fun v214 h219 l215 q216 => ?_)
        obtain ⟨j220, f221, b222, c223, c224, c225, c226⟩ := q216
        have f227 := Fr.trans f213 f221 (by decide)
        have f228 := Fr.trans f200 f221 (by decide)
        have b229 := jB (e := 7) 0 j201 rg_75_7_0_1 (by first | decide | omega) (by first | decide | omega)
        have b230 := jB (e := 7) 0 j220 rg_75_7_0_1 (by first | decide | omega) (by first | decide | omega)
        refine x_ifz (k := 0) (tg := 37) (np := 18) (by decide +kernel) (by decide) l215 (fun q231 => ?_) (fun q232 => ?_)
        · have q231 : v214 = 2147483648 := q231
          refine x_const (np := 38) (x := 9223372043297226753) (a := 2147483649) (by decide +kernel) (by decide) (by decide) ?_
          have q233 : h219 75 13 = h199 75 13 := jK 0 f221 rg_75_13_0_1 (by first | decide | omega) (by first | decide | omega) (by decide)
          have b234 := jB (e := 13) 0 j201 rg_75_13_0_1 (by first | decide | omega) (by first | decide | omega)
          have q235 : h219 75 10 = h199 75 10 := jK 0 f221 rg_75_10_0_1 (by first | decide | omega) (by first | decide | omega) (by decide)
          have b236 := jB (e := 10) 0 j201 rg_75_10_0_1 (by first | decide | omega) (by first | decide | omega)
          have q237 : h219 75 13 = h199 75 13 := jK 0 f221 rg_75_13_0_1 (by first | decide | omega) (by first | decide | omega) (by decide)
          have k239 : Kp h h199 (h 75 13 - 2147483648) := Kp.less m209 (by first | decide | omega)
          have k238 : Kp h h219 (h 75 13 - 2147483648) := Kp.fr k239 f221 (by first | decide | omega) (by decide)
          have q240 : h219 75 13 = h199 75 13 := jK 0 f221 rg_75_13_0_1 (by first | decide | omega) (by first | decide | omega) (by decide)
          have k241 : Kp h199 h219 (h199 75 13 - 2147483648) := Kp.fr Kp.refl f221 (by first | decide | omega) (by decide)
          have s242 : Seg (sg h219) (h 75 13 - 2147483648) (h219 75 13 - 2147483648) := Seg.cast (Seg.kp m210 k241) (by first | decide | omega) (by first | decide | omega)
          obtain ⟨w243, e244⟩ := Tk.no c225 (by first | decide | omega)
          refine x_retI (np := 39) (x := 0) (by decide +kernel) (by decide) (Or.inr ⟨by decide +kernel, by first | decide | omega, by first | decide | omega⟩) ⟨_, rfl, (by decide), ?_⟩
          exact ⟨j220, f227, (by first | decide | omega), (fun z => by first | decide | omega), (fun z => by first | decide | omega), (fun z => by first | decide | omega), (fun z => by first | decide | omega), k238, (fun _ => s242), (gQ_e (t := 2) m207 w243 rfl (by first | decide | omega) ((Eq.symm e244))), (fun z => absurd z (by first | decide | omega))⟩
        have q232 : ¬ (v214 = 2147483648) := q232
        have b245 := c224 (by first | decide | omega)
        refine x_aload (np := 19) (x := 0) (by decide +kernel) rfl (x_nc_le (by decide)) ?_
        have q246 : h219 75 10 = h199 75 10 := jK 0 f221 rg_75_10_0_1 (by first | decide | omega) (by first | decide | omega) (by decide)
        have b247 := jB (e := 10) 0 j201 rg_75_10_0_1 (by first | decide | omega) (by first | decide | omega)
        have q248 : h219 75 13 = h199 75 13 := jK 0 f221 rg_75_13_0_1 (by first | decide | omega) (by first | decide | omega) (by decide)
        have b249 := jB (e := 13) 0 j201 rg_75_13_0_1 (by first | decide | omega) (by first | decide | omega)
        have q250 : h219 75 10 = h199 75 10 := jK 0 f221 rg_75_10_0_1 (by first | decide | omega) (by first | decide | omega) (by decide)
        have m254 := Tq.fr m217 f221 (by decide) (by decide)
        refine x_cI (t := 6) (mj := 191) (n := 1) (rc := 12) (ml := 1) (nr := 0) (np := 22) (as := [x_r 75]) (rest := []) (lo1 := [x_r 75]) (by decide +kernel) (by decide) (by decide +kernel) (x_rb_of (by decide +kernel)) rfl rfl (x_wr (by decide) x_wn) x_wn (by decide) rfl (c191_75_D5 j220  (by first | decide | omega) (by first | decide | omega) m254) (fun v251 h255 l252 q253 => ?_)
        obtain ⟨j256, f257, b258, c259, c260, c261, c262, c263, c264, c265, c266⟩ := q253
        have f267 := Fr.trans f227 f257 (by decide)
        have f268 := Fr.trans f228 f257 (by decide)
        have q269 : h219 75 13 = h199 75 13 := jK 0 f221 rg_75_13_0_1 (by first | decide | omega) (by first | decide | omega) (by decide)
        have b270 := jB (e := 13) 0 j256 rg_75_13_0_1 (by first | decide | omega) (by first | decide | omega)
        have b271 := jB (e := 7) 0 j256 rg_75_7_0_1 (by first | decide | omega) (by first | decide | omega)
        have q272 : h219 75 10 = h199 75 10 := jK 0 f221 rg_75_10_0_1 (by first | decide | omega) (by first | decide | omega) (by decide)
        have b273 := jB (e := 10) 0 j256 rg_75_10_0_1 (by first | decide | omega) (by first | decide | omega)
        have q274 : h219 75 13 = h199 75 13 := jK 0 f221 rg_75_13_0_1 (by first | decide | omega) (by first | decide | omega) (by decide)
        refine x_ifz (k := 1) (tg := 27) (np := 25) (by decide +kernel) (by decide) l252 (fun q275 => ?_) (fun q276 => ?_)
        · have q275 : v251 ≠ 2147483648 := q275
          have b277 := c259 (by first | decide | omega)
          have b278 := c260 (by first | decide | omega)
          have b279 := c261 (by first | decide | omega)
          have b280 := c262 (by first | decide | omega)
          have s281 := c264 (by first | decide | omega)
          have q282 : h219 75 13 = h199 75 13 := jK 0 f221 rg_75_13_0_1 (by first | decide | omega) (by first | decide | omega) (by decide)
          refine x_aload (np := 28) (x := 0) (by decide +kernel) rfl (x_nc_le (by decide)) ?_
          refine x_const (np := 30) (x := 9223372099131801614) (a := 2147483662) (by decide +kernel) (by decide) (by decide) ?_
          refine x_const (np := 31) (x := 9223372039002259456) (a := 2147483648) (by decide +kernel) (by decide) (by decide) ?_
          refine x_nV (t := 6) (mj := 187) (n := 3) (rc := 12) (ml := 3) (nr := 0) (np := 34) (as := [x_r 75, iv_c 2147483662, iv_c 2147483648]) (rest := []) (lo1 := [x_r 75, iv_c 2147483662, iv_c 2147483648]) (by decide +kernel) (by decide) (by decide +kernel) (x_rb_of (by decide +kernel)) rfl rfl (x_wr (by decide) (x_wi (by decide) (x_wi (by decide) x_wn))) x_wn (by decide) rfl ?_
          refine x_aload (np := 1) (x := 0) (by decide +kernel) rfl (x_nc_le (by decide)) ?_
          have q283 : h255 75 1 = 76 := by have z := jB (e := 1) 0 j256 rg_75_1_0_1 (by decide) (by decide); omega
          refine x_getR (np := 4) (x := 705) (f := 1) (q := 76) (by decide +kernel) (by decide) (by decide +kernel) q283 ?_
          refine x_const (np := 7) (x := 9223376986804585600) (a := 2147484800) (by decide +kernel) (by decide) (by decide) ?_
          refine x_const (np := 8) (x := 9223372047592194050) (a := 2147483650) (by decide +kernel) (by decide) (by decide) ?_
          refine x_aload (np := 9) (x := 0) (by decide +kernel) rfl (x_nc_le (by decide)) ?_
          refine x_getC (np := 12) (x := 717) (f := 13) (q := (h255 75 13)) (by decide +kernel) (by decide) (by decide +kernel) rfl (fun l284 => ?_)
          obtain ⟨u285, q286⟩ : ∃ z, (h255 75 13) = 2147483648 + z := ⟨(h255 75 13) - 2147483648, by first | decide | omega⟩
          refine x_imul (np := 13) (x := 0) (i := 2) (j := u285) (v := (2147483648 + 2 * u285)) (by decide +kernel) (by first | decide | omega) (by first | decide | omega) (by first | decide | omega) (by first | decide | omega) (by decide) l284 ?_
          refine x_iadd (np := 14) (x := 0) (v := (2147484800 + 2 * u285)) (by decide +kernel) (by decide) (by first | decide | omega) (by first | decide | omega) (by first | decide | omega) ?_
          refine x_iload (np := 15) (x := 1) (by decide +kernel) rfl (by decide) ?_
          refine x_ast (np := 16) (x := 0) (kd := 1) (n := 1952) (i := (1152 + 2 * u285)) (by decide +kernel) (Or.inl rfl) (by decide +kernel) (by first | decide | omega) (by first | decide | omega) (by decide) (by decide) (fun z => absurd z (by decide)) ?_
          have j289 := jU (e := (1152 + 2 * u285)) (v := 2147483662) u285 j256 rg_76_1152_2_394 (by first | decide | omega) (by first | decide | omega) (by first | decide | omega)
          have f291 := jF (e := (1152 + 2 * u285)) (v := 2147483662) u285 f267 rg_76_1152_2_394 (by first | decide | omega) (by first | decide | omega) (by decide)
          have f292 := jF (e := (1152 + 2 * u285)) (v := 2147483662) u285 f268 rg_76_1152_2_394 (by first | decide | omega) (by first | decide | omega) (by decide)
          generalize e290 : x_up h255 76 (1152 + 2 * u285) 2147483662 = h288 at j289 f291 f292 ⊢
          refine x_aload (np := 17) (x := 0) (by decide +kernel) rfl (x_nc_le (by decide)) ?_
          have q293 : h288 75 1 = 76 := by have z := jB (e := 1) 0 j289 rg_75_1_0_1 (by decide) (by decide); omega
          refine x_getR (np := 20) (x := 705) (f := 1) (q := 76) (by decide +kernel) (by decide) (by decide +kernel) q293 ?_
          refine x_const (np := 23) (x := 9223376986804585600) (a := 2147484800) (by decide +kernel) (by decide) (by decide) ?_
          refine x_const (np := 24) (x := 9223372047592194050) (a := 2147483650) (by decide +kernel) (by decide) (by decide) ?_
          refine x_aload (np := 25) (x := 0) (by decide +kernel) rfl (x_nc_le (by decide)) ?_
          have q294 : h288 75 13 = h255 75 13 := by rw [← e290]; exact x_up_k (by decide)
          refine x_getC (np := 28) (x := 717) (f := 13) (q := (h255 75 13)) (by decide +kernel) (by decide) (by decide +kernel) q294 (fun l295 => ?_)
          refine x_imul (np := 29) (x := 0) (i := 2) (j := u285) (v := (2147483648 + 2 * u285)) (by decide +kernel) (by first | decide | omega) (by first | decide | omega) (by first | decide | omega) (by first | decide | omega) (by decide) l284 ?_
          refine x_iadd (np := 30) (x := 0) (v := (2147484800 + 2 * u285)) (by decide +kernel) (by decide) (by first | decide | omega) (by first | decide | omega) (by first | decide | omega) ?_
          refine x_const (np := 31) (x := 9223372043297226753) (a := 2147483649) (by decide +kernel) (by decide) (by decide) ?_
          refine x_iadd (np := 32) (x := 0) (v := (2147484801 + 2 * u285)) (by decide +kernel) (by first | decide | omega) (by decide) (by first | decide | omega) (by first | decide | omega) ?_
          refine x_iload (np := 33) (x := 2) (by decide +kernel) rfl (by decide) ?_
          refine x_ast (np := 34) (x := 0) (kd := 1) (n := 1952) (i := (1153 + 2 * u285)) (by decide +kernel) (Or.inl rfl) (by decide +kernel) (by first | decide | omega) (by first | decide | omega) (by decide) (by decide) (fun z => absurd z (by decide)) ?_
          have j298 := jU (e := (1153 + 2 * u285)) (v := 2147483648) u285 j289 rg_76_1153_2_394 (by first | decide | omega) (by first | decide | omega) (by first | decide | omega)
          have f300 := jF (e := (1153 + 2 * u285)) (v := 2147483648) u285 f291 rg_76_1153_2_394 (by first | decide | omega) (by first | decide | omega) (by decide)
          have f301 := jF (e := (1153 + 2 * u285)) (v := 2147483648) u285 f292 rg_76_1153_2_394 (by first | decide | omega) (by first | decide | omega) (by decide)
          generalize e299 : x_up h288 76 (1153 + 2 * u285) 2147483648 = h297 at j298 f300 f301 ⊢
          refine x_aload (np := 35) (x := 0) (by decide +kernel) rfl (x_nc_le (by decide)) ?_
          refine x_dup (np := 36) (x := 0) (by decide +kernel) (by have z := x_nc_le (k := 75) (by decide); unfold x_r; omega) ?_
          have q302 : h297 75 13 = h288 75 13 := by rw [← e299]; exact x_up_k (by decide)
          have q303 : h288 75 13 = h255 75 13 := by rw [← e290]; exact x_up_k (by decide)
          refine x_getC (np := 39) (x := 717) (f := 13) (q := (h255 75 13)) (by decide +kernel) (by decide) (by decide +kernel) (q302.trans q303) (fun l304 => ?_)
          refine x_const (np := 40) (x := 9223372043297226753) (a := 2147483649) (by decide +kernel) (by decide) (by decide) ?_
          refine x_iadd (np := 41) (x := 0) (v := (1 + (h255 75 13))) (by decide +kernel) l284 (by decide) (by first | decide | omega) (by first | decide | omega) ?_
          refine x_putI (np := 44) (x := 717) (f := 13) (by decide +kernel) (by decide +kernel) (by first | decide | omega) (Or.inl (by decide)) ?_
          have j306 := jU (e := 13) (v := (1 + (h255 75 13))) 0 j298 rg_75_13_0_1 (by first | decide | omega) (by first | decide | omega) (by first | decide | omega)
          have f308 := jF (e := 13) (v := (1 + (h255 75 13))) 0 f300 rg_75_13_0_1 (by first | decide | omega) (by first | decide | omega) (by decide)
          have f309 := jF (e := 13) (v := (1 + (h255 75 13))) 0 f301 rg_75_13_0_1 (by first | decide | omega) (by first | decide | omega) (by decide)
          generalize e307 : x_up h297 75 13 (1 + (h255 75 13)) = h305 at j306 f308 f309 ⊢
          refine x_retV (np := 45) (x := 0) (by decide +kernel) (by decide +kernel) ⟨rfl, ?_⟩
          have q310 : h305 75 13 = (1 + (h255 75 13)) := by rw [← e307]; exact x_up_at
          refine x_goto (np := 37) (x := 9) (by decide +kernel) ?_
          have q311 : h305 75 7 = h297 75 7 := by rw [← e307]; exact x_up_i (by first | decide | omega)
          have q312 : h297 75 7 = h288 75 7 := by rw [← e299]; exact x_up_k (by decide)
          have q313 : h288 75 7 = h255 75 7 := by rw [← e290]; exact x_up_k (by decide)
          have q314 : h305 75 7 = h297 75 7 := by rw [← e307]; exact x_up_i (by first | decide | omega)
          have q315 : h297 75 7 = h288 75 7 := by rw [← e299]; exact x_up_k (by decide)
          have q316 : h288 75 7 = h255 75 7 := by rw [← e290]; exact x_up_k (by decide)
          have q317 : h305 75 13 = (1 + (h255 75 13)) := by rw [← e307]; exact x_up_at
          have q318 : h305 75 10 = h297 75 10 := by rw [← e307]; exact x_up_i (by first | decide | omega)
          have q319 : h297 75 10 = h288 75 10 := by rw [← e299]; exact x_up_k (by decide)
          have q320 : h288 75 10 = h255 75 10 := by rw [← e290]; exact x_up_k (by decide)
          obtain ⟨w321, e322⟩ := Tk.yes c225 (by first | decide | omega)
          have q323 : h305 75 7 = h297 75 7 := by rw [← e307]; exact x_up_i (by first | decide | omega)
          have q324 : h297 75 7 = h288 75 7 := by rw [← e299]; exact x_up_k (by decide)
          have q325 : h288 75 7 = h255 75 7 := by rw [← e290]; exact x_up_k (by decide)
          obtain ⟨w326, e327⟩ := Tk.yes c225 (by first | decide | omega)
          have q328 : h305 75 7 = h297 75 7 := by rw [← e307]; exact x_up_i (by first | decide | omega)
          have q329 : h297 75 7 = h288 75 7 := by rw [← e299]; exact x_up_k (by decide)
          have q330 : h288 75 7 = h255 75 7 := by rw [← e290]; exact x_up_k (by decide)
          have k336 : Kp h h199 (h 75 13 - 2147483648) := Kp.less m209 (by first | decide | omega)
          have k335 : Kp h h219 (h 75 13 - 2147483648) := Kp.fr k336 f221 (by first | decide | omega) (by decide)
          have q337 : h219 75 13 = h199 75 13 := jK 0 f221 rg_75_13_0_1 (by first | decide | omega) (by first | decide | omega) (by decide)
          have k334 : Kp h h255 (h 75 13 - 2147483648) := Kp.trans k335 c263 (by first | decide | omega)
          have k333 : Kp h h288 (h 75 13 - 2147483648) := by rw [← e290]; exact Kp.up k334 (by first | decide | omega) (fun i hi => by first | decide | omega)
          have k332 : Kp h h297 (h 75 13 - 2147483648) := by rw [← e299]; exact Kp.up k333 (by first | decide | omega) (fun i hi => by first | decide | omega)
          have k331 : Kp h h305 (h 75 13 - 2147483648) := by rw [← e307]; exact Kp.oth k332 (by decide)
          have q338 : h305 75 13 = (1 + (h255 75 13)) := by rw [← e307]; exact x_up_at
          have q340 : h305 76 (1152 + 2 * u285) = h297 76 (1152 + 2 * u285) := by rw [← e307]; exact x_up_k (by decide)
          have q341 : h297 76 (1152 + 2 * u285) = h288 76 (1152 + 2 * u285) := by rw [← e299]; exact x_up_i (by first | decide | omega)
          have q342 : h288 76 (1152 + 2 * u285) = 2147483662 := by rw [← e290]; exact x_up_at
          have k347 : Kp h199 h219 (h199 75 13 - 2147483648) := Kp.fr Kp.refl f221 (by first | decide | omega) (by decide)
          have q348 : h219 75 13 = h199 75 13 := jK 0 f221 rg_75_13_0_1 (by first | decide | omega) (by first | decide | omega) (by decide)
          have k346 : Kp h199 h255 (h199 75 13 - 2147483648) := Kp.trans k347 c263 (by first | decide | omega)
          have k345 : Kp h199 h288 (h199 75 13 - 2147483648) := by rw [← e290]; exact Kp.up k346 (by first | decide | omega) (fun i hi => by first | decide | omega)
          have k344 : Kp h199 h297 (h199 75 13 - 2147483648) := by rw [← e299]; exact Kp.up k345 (by first | decide | omega) (fun i hi => by first | decide | omega)
          have k343 : Kp h199 h305 (h199 75 13 - 2147483648) := by rw [← e307]; exact Kp.oth k344 (by decide)
          have k351 : Kp h255 h288 (h255 75 13 - 2147483648) := by rw [← e290]; exact Kp.up Kp.refl (by first | decide | omega) (fun i hi => by first | decide | omega)
          have k350 : Kp h255 h297 (h255 75 13 - 2147483648) := by rw [← e299]; exact Kp.up k351 (by first | decide | omega) (fun i hi => by first | decide | omega)
          have k349 : Kp h255 h305 (h255 75 13 - 2147483648) := by rw [← e307]; exact Kp.oth k350 (by decide)
          have s339 : Seg (sg h305) (h 75 13 - 2147483648) (u285 + 1) := Seg.bin (Seg.kp m210 k343) (Seg.cast (a' := (h199 75 13 - 2147483648)) (b' := u285) (Seg.kp s281 k349) (by first | decide | omega) (by first | decide | omega)) (show 2147483656 < h305 76 (1152 + 2 * u285) by first | decide | omega) (show h305 76 (1152 + 2 * u285) ≠ 2147483660 by first | decide | omega)
          have s352 : Seg (sg h305) (h 75 13 - 2147483648) (h305 75 13 - 2147483648) := Seg.cast (Seg.kp s339 Kp.refl) (by first | decide | omega) (by first | decide | omega)
          exact i212  h305 (by first | decide | omega) (by first | decide | omega) (by first | decide | omega) (by first | decide | omega) (by first | decide | omega) j306 f309 (gQ_st (t := 2) m207 w321 rfl e322 c265 rfl (by first | decide | omega) (congrArg (sk tB tN) (show h255 75 7 = h305 75 7 by first | decide | omega))) (fQ_st (t := 2) m208 w326 rfl e327 c265 rfl (by first | decide | omega) (congrArg (sk tB tN) (show h255 75 7 = h305 75 7 by first | decide | omega))) k331 s352
        have q276 : ¬ (v251 ≠ 2147483648) := q276
        refine x_const (np := 26) (x := 9223372039002259456) (a := 2147483648) (by decide +kernel) (by decide) (by decide) ?_
        have k355 : Kp h h199 (h 75 13 - 2147483648) := Kp.less m209 (by first | decide | omega)
        have k354 : Kp h h219 (h 75 13 - 2147483648) := Kp.fr k355 f221 (by first | decide | omega) (by decide)
        have q356 : h219 75 13 = h199 75 13 := jK 0 f221 rg_75_13_0_1 (by first | decide | omega) (by first | decide | omega) (by decide)
        have k353 : Kp h h255 (h 75 13 - 2147483648) := Kp.trans k354 c263 (by first | decide | omega)
        obtain ⟨w357, e358⟩ := Tk.yes c225 (by first | decide | omega)
        obtain ⟨w359, e360⟩ := Tk.yes c225 (by first | decide | omega)
        refine x_retI (np := 27) (x := 0) (by decide +kernel) (by decide) (Or.inr ⟨by decide +kernel, by first | decide | omega, by first | decide | omega⟩) ⟨_, rfl, (by decide), ?_⟩
        exact ⟨j256, f267, (by first | decide | omega), (fun z => by first | decide | omega), (fun z => by first | decide | omega), (fun z => by first | decide | omega), (fun z => by first | decide | omega), k353, (fun z => absurd z (by first | decide | omega)), (gQ_f (t := 2) m207 w357 rfl e358 c265 rfl (by first | decide | omega) (by first | decide | omega)), (fun _ => fQ_f (t := 2) m208 w359 rfl e360 (c266 (by first | decide | omega)) rfl rfl)⟩
    have k361 : Kp h h7 (h 75 13 - 2147483648) := Kp.less c15 (by first | decide | omega)
    have s362 : Seg (sg h7) (h 75 13 - 2147483648) (h7 75 13 - 2147483648) := Seg.cast (Seg.kp s29 Kp.refl) (by first | decide | omega) (by first | decide | omega)
    exact p202 _  h7 (Nat.lt_succ_self _) (by first | decide | omega) (by first | decide | omega) (by first | decide | omega) (by first | decide | omega) j8 (Fr.refl _ _) (gQ_in (t := 2) c17 rfl (by first | decide | omega) rfl) (fQ_in (t := 2) c17 rfl (by first | decide | omega) rfl) k361 s362
  have q24 : ¬ (v4 ≠ 2147483648) := q24
  refine x_const (np := 8) (x := 9223372039002259456) (a := 2147483648) (by decide +kernel) (by decide) (by decide) ?_
  have k363 : Kp h h7 (h 75 13 - 2147483648) := Kp.less c15 (by first | decide | omega)
  refine x_retI (np := 9) (x := 0) (by decide +kernel) (by decide) (Or.inr ⟨by decide +kernel, by first | decide | omega, by first | decide | omega⟩) ⟨_, rfl, (by decide), ?_⟩
  exact ⟨j8, f19, (by first | decide | omega), (fun z => by first | decide | omega), (fun z => by first | decide | omega), (fun z => by first | decide | omega), (fun z => by first | decide | omega), k363, (fun z => absurd z (by first | decide | omega)), (gQ_no (t := 2) c17 rfl (by first | decide | omega) (by first | decide | omega)), (fun _ => fQ_no (t := 2) (c18 (by first | decide | omega)) rfl rfl)⟩
set_option maxHeartbeats 0 in
/-- LentNamesModel.readAtom()Z -/
theorem c190_75_D4 {sc : Nat × Nat} {d  : Nat} {h : xh} {tB : Nat → Nat} {tN : Nat} (hJ : J h) (hr0 : (h 75 13) + 5 ≤ (h 75 7)) (hr1 : (h 75 10) = 2147483652) (hT : Tq tB tN h) : X sc 190 (d + 13) (xI fun r h' => J h' ∧ Fr 97517569 h h' ∧ (2147483648 ≤ r ∧ r ≤ 2147483649) ∧ (r = 2147483649 → h' 75 13 + h 75 7 ≤ h' 75 7 + h 75 13) ∧ (r = 2147483649 → h' 75 10 = h 75 10) ∧ (r = 2147483649 → h 75 7 + 0 ≤ h' 75 7) ∧ (r = 2147483649 → h 75 13 ≤ h' 75 13) ∧ Kp h h' (h 75 13 - 2147483648) ∧ (r = 2147483649 → Seg (sg h') (h 75 13 - 2147483648) (h' 75 13 - 2147483648)) ∧ G tB tN Kd.atom 4 (sk tB tN (h 75 7)) (rs r (sk tB tN (h' 75 7))) ∧ (r = 2147483648 → GF tB tN Kd.atom 4 (sk tB tN (h 75 7)) (h' 75 9))) 0 0 0 [x_r 75, 147573952589676412928, 147573952589676412928] [] h := by
  have hF := Fr.refl 97517569 h
  have b1 := jB (e := 13) 0 hJ rg_75_13_0_1 (by first | decide | omega) (by first | decide | omega)
  have b2 := jB (e := 7) 0 hJ rg_75_7_0_1 (by first | decide | omega) (by first | decide | omega)
  have b3 := jB (e := 10) 0 hJ rg_75_10_0_1 (by first | decide | omega) (by first | decide | omega)
  refine x_aload (np := 1) (x := 0) (by decide +kernel) rfl (x_nc_le (by decide)) ?_
  refine x_const (np := 3) (x := 9223372210800951336) (a := 2147483688) (by decide +kernel) (by decide) (by decide) ?_
  refine x_cI (t := 6) (mj := 173) (n := 2) (rc := 12) (ml := 2) (nr := 0) (np := 6) (as := [x_r 75, iv_c 2147483688]) (rest := []) (lo1 := [x_r 75, iv_c 2147483688]) (by decide +kernel) (by decide) (by decide +kernel) (x_rb_of (by decide +kernel)) rfl rfl (x_wr (by decide) (x_wi (by decide) x_wn)) x_wn (by decide) rfl (c173_75 hJ  (by first | decide | omega) hT) (fun v4 h7 l5 q6 => ?_)
  obtain ⟨j8, f9, b10, c11, c12, c13, c14⟩ := q6
  have f15 := Fr.trans hF f9 (by decide)
  have b16 := jB (e := 7) 0 j8 rg_75_7_0_1 (by first | decide | omega) (by first | decide | omega)
  refine x_ifz (k := 0) (tg := 56) (np := 9) (by decide +kernel) (by decide) l5 (fun q17 => ?_) (fun q18 => ?_)
  · have q17 : v4 = 2147483648 := q17
    refine x_aload (np := 57) (x := 0) (by decide +kernel) rfl (x_nc_le (by decide)) ?_
    refine x_ldcB (i := 24) (idx := 245) (tx := "not") (by rw [tb_y190]; exact List.mem_of_getElem? (i := 59) rfl) (by decide) (by rw [tb_b190]; decide +kernel) ?_
    have m22 := Tq.fr hT f9 (by decide) (by decide)
    refine x_cI (t := 6) (mj := 171) (n := 2) (rc := 12) (ml := 2) (nr := 0) (np := 62) (as := [x_r 75, x_b (24 + 1)]) (rest := []) (lo1 := [x_r 75, x_b (24 + 1)]) (by decide +kernel) (by decide) (by decide +kernel) (x_rb_of (by decide +kernel)) rfl rfl (x_wr (by decide) (x_wB (by decide) x_wn)) x_wn (by decide) rfl (c171_75_S0 j8  (by decide) m22) (fun v19 h23 l20 q21 => ?_)
    obtain ⟨j24, f25, b26, c27, c28, c29, c30⟩ := q21
    have f31 := Fr.trans f15 f25 (by decide)
    have b32 := jB (e := 7) 0 j24 rg_75_7_0_1 (by first | decide | omega) (by first | decide | omega)
    refine x_ifz (k := 0) (tg := 114) (np := 65) (by decide +kernel) (by decide) l20 (fun q33 => ?_) (fun q34 => ?_)
    · have q33 : v19 = 2147483648 := q33
      refine x_aload (np := 115) (x := 0) (by decide +kernel) rfl (x_nc_le (by decide)) ?_
      refine x_ldcB (i := 25) (idx := 250) (tx := "own") (by rw [tb_y190]; exact List.mem_of_getElem? (i := 60) rfl) (by decide) (by rw [tb_b190]; decide +kernel) ?_
      have m38 := Tq.fr m22 f25 (by decide) (by decide)
      refine x_cI (t := 6) (mj := 171) (n := 2) (rc := 12) (ml := 2) (nr := 0) (np := 120) (as := [x_r 75, x_b (25 + 1)]) (rest := []) (lo1 := [x_r 75, x_b (25 + 1)]) (by decide +kernel) (by decide) (by decide +kernel) (x_rb_of (by decide +kernel)) rfl rfl (x_wr (by decide) (x_wB (by decide) x_wn)) x_wn (by decide) rfl (c171_75_S0 j24  (by decide) m38) (fun v35 h39 l36 q37 => ?_)
      obtain ⟨j40, f41, b42, c43, c44, c45, c46⟩ := q37
      have f47 := Fr.trans f31 f41 (by decide)
      have b48 := jB (e := 7) 0 j40 rg_75_7_0_1 (by first | decide | omega) (by first | decide | omega)
      refine x_istore (np := 121) (x := 1) (lo' := [x_r 75, iv_c v35, 147573952589676412928]) (by decide +kernel) l36 (Nat.le_of_ble_eq_true rfl) rfl ?_
      refine x_iload (np := 122) (x := 1) (by decide +kernel) rfl l36 ?_
      refine x_ifz (k := 1) (tg := 134) (np := 125) (by decide +kernel) (by decide) l36 (fun q49 => ?_) (fun q50 => ?_)
      · have q49 : v35 ≠ 2147483648 := q49
        have b51 := c44 (by first | decide | omega)
        refine x_aload (np := 135) (x := 0) (by decide +kernel) rfl (x_nc_le (by decide)) ?_
        refine x_iload (np := 136) (x := 1) (by decide +kernel) rfl l36 ?_
        refine x_ifz (k := 0) (tg := 144) (np := 139) (by decide +kernel) (by decide) l36 (fun q52 => ?_) (fun q53 => ?_)
        · have q52 : v35 = 2147483648 := q52
          exfalso; omega
        have q53 : ¬ (v35 = 2147483648) := q53
        refine x_const (np := 141) (x := 9223372064772063238) (a := 2147483654) (by decide +kernel) (by decide) (by decide) ?_
        refine x_goto (np := 144) (x := 146) (by decide +kernel) ?_
        refine x_const (np := 147) (x := 9223372039002259456) (a := 2147483648) (by decide +kernel) (by decide) (by decide) ?_
        refine x_nV (t := 6) (mj := 187) (n := 3) (rc := 12) (ml := 3) (nr := 0) (np := 150) (as := [x_r 75, iv_c 2147483654, iv_c 2147483648]) (rest := []) (lo1 := [x_r 75, iv_c 2147483654, iv_c 2147483648]) (by decide +kernel) (by decide) (by decide +kernel) (x_rb_of (by decide +kernel)) rfl rfl (x_wr (by decide) (x_wi (by decide) (x_wi (by decide) x_wn))) x_wn (by decide) rfl ?_
        refine x_aload (np := 1) (x := 0) (by decide +kernel) rfl (x_nc_le (by decide)) ?_
        have q54 : h39 75 1 = 76 := by have z := jB (e := 1) 0 j40 rg_75_1_0_1 (by decide) (by decide); omega
        refine x_getR (np := 4) (x := 705) (f := 1) (q := 76) (by decide +kernel) (by decide) (by decide +kernel) q54 ?_
        refine x_const (np := 7) (x := 9223376986804585600) (a := 2147484800) (by decide +kernel) (by decide) (by decide) ?_
        refine x_const (np := 8) (x := 9223372047592194050) (a := 2147483650) (by decide +kernel) (by decide) (by decide) ?_
        refine x_aload (np := 9) (x := 0) (by decide +kernel) rfl (x_nc_le (by decide)) ?_
        have q55 : h39 75 13 = h23 75 13 := jK 0 f41 rg_75_13_0_1 (by first | decide | omega) (by first | decide | omega) (by decide)
        have q56 : h23 75 13 = h7 75 13 := jK 0 f25 rg_75_13_0_1 (by first | decide | omega) (by first | decide | omega) (by decide)
        have q57 : h7 75 13 = h 75 13 := jK 0 f9 rg_75_13_0_1 (by first | decide | omega) (by first | decide | omega) (by decide)
        refine x_getC (np := 12) (x := 717) (f := 13) (q := (h 75 13)) (by decide +kernel) (by decide) (by decide +kernel) ((q55.trans q56).trans q57) (fun l58 => ?_)
        obtain ⟨u59, q60⟩ : ∃ z, (h 75 13) = 2147483648 + z := ⟨(h 75 13) - 2147483648, by first | decide | omega⟩
        refine x_imul (np := 13) (x := 0) (i := 2) (j := u59) (v := (2147483648 + 2 * u59)) (by decide +kernel) (by first | decide | omega) (by first | decide | omega) (by first | decide | omega) (by first | decide | omega) (by decide) l58 ?_
        refine x_iadd (np := 14) (x := 0) (v := (2147484800 + 2 * u59)) (by decide +kernel) (by decide) (by first | decide | omega) (by first | decide | omega) (by first | decide | omega) ?_
        refine x_iload (np := 15) (x := 1) (by decide +kernel) rfl (by decide) ?_
        refine x_ast (np := 16) (x := 0) (kd := 1) (n := 1952) (i := (1152 + 2 * u59)) (by decide +kernel) (Or.inl rfl) (by decide +kernel) (by first | decide | omega) (by first | decide | omega) (by decide) (by decide) (fun z => absurd z (by decide)) ?_
        have j63 := jU (e := (1152 + 2 * u59)) (v := 2147483654) u59 j40 rg_76_1152_2_394 (by first | decide | omega) (by first | decide | omega) (by first | decide | omega)
        have f65 := jF (e := (1152 + 2 * u59)) (v := 2147483654) u59 f47 rg_76_1152_2_394 (by first | decide | omega) (by first | decide | omega) (by decide)
        generalize e64 : x_up h39 76 (1152 + 2 * u59) 2147483654 = h62 at j63 f65 ⊢
        refine x_aload (np := 17) (x := 0) (by decide +kernel) rfl (x_nc_le (by decide)) ?_
        have q66 : h62 75 1 = 76 := by have z := jB (e := 1) 0 j63 rg_75_1_0_1 (by decide) (by decide); omega
        refine x_getR (np := 20) (x := 705) (f := 1) (q := 76) (by decide +kernel) (by decide) (by decide +kernel) q66 ?_
        refine x_const (np := 23) (x := 9223376986804585600) (a := 2147484800) (by decide +kernel) (by decide) (by decide) ?_
        refine x_const (np := 24) (x := 9223372047592194050) (a := 2147483650) (by decide +kernel) (by decide) (by decide) ?_
        refine x_aload (np := 25) (x := 0) (by decide +kernel) rfl (x_nc_le (by decide)) ?_
        have q67 : h62 75 13 = h39 75 13 := by rw [← e64]; exact x_up_k (by decide)
        have q68 : h39 75 13 = h23 75 13 := jK 0 f41 rg_75_13_0_1 (by first | decide | omega) (by first | decide | omega) (by decide)
        have q69 : h23 75 13 = h7 75 13 := jK 0 f25 rg_75_13_0_1 (by first | decide | omega) (by first | decide | omega) (by decide)
        have q70 : h7 75 13 = h 75 13 := jK 0 f9 rg_75_13_0_1 (by first | decide | omega) (by first | decide | omega) (by decide)
        refine x_getC (np := 28) (x := 717) (f := 13) (q := (h 75 13)) (by decide +kernel) (by decide) (by decide +kernel) (((q67.trans q68).trans q69).trans q70) (fun l71 => ?_)
        refine x_imul (np := 29) (x := 0) (i := 2) (j := u59) (v := (2147483648 + 2 * u59)) (by decide +kernel) (by first | decide | omega) (by first | decide | omega) (by first | decide | omega) (by first | decide | omega) (by decide) l58 ?_
        refine x_iadd (np := 30) (x := 0) (v := (2147484800 + 2 * u59)) (by decide +kernel) (by decide) (by first | decide | omega) (by first | decide | omega) (by first | decide | omega) ?_
        refine x_const (np := 31) (x := 9223372043297226753) (a := 2147483649) (by decide +kernel) (by decide) (by decide) ?_
        refine x_iadd (np := 32) (x := 0) (v := (2147484801 + 2 * u59)) (by decide +kernel) (by first | decide | omega) (by decide) (by first | decide | omega) (by first | decide | omega) ?_
        refine x_iload (np := 33) (x := 2) (by decide +kernel) rfl (by decide) ?_
        refine x_ast (np := 34) (x := 0) (kd := 1) (n := 1952) (i := (1153 + 2 * u59)) (by decide +kernel) (Or.inl rfl) (by decide +kernel) (by first | decide | omega) (by first | decide | omega) (by decide) (by decide) (fun z => absurd z (by decide)) ?_
        have j74 := jU (e := (1153 + 2 * u59)) (v := 2147483648) u59 j63 rg_76_1153_2_394 (by first | decide | omega) (by first | decide | omega) (by first | decide | omega)
        have f76 := jF (e := (1153 + 2 * u59)) (v := 2147483648) u59 f65 rg_76_1153_2_394 (by first | decide | omega) (by first | decide | omega) (by decide)
        generalize e75 : x_up h62 76 (1153 + 2 * u59) 2147483648 = h73 at j74 f76 ⊢
        refine x_aload (np := 35) (x := 0) (by decide +kernel) rfl (x_nc_le (by decide)) ?_
        refine x_dup (np := 36) (x := 0) (by decide +kernel) (by have z := x_nc_le (k := 75) (by decide); unfold x_r; omega) ?_
        have q77 : h73 75 13 = h62 75 13 := by rw [← e75]; exact x_up_k (by decide)
        have q78 : h62 75 13 = h39 75 13 := by rw [← e64]; exact x_up_k (by decide)
        have q79 : h39 75 13 = h23 75 13 := jK 0 f41 rg_75_13_0_1 (by first | decide | omega) (by first | decide | omega) (by decide)
        have q80 : h23 75 13 = h7 75 13 := jK 0 f25 rg_75_13_0_1 (by first | decide | omega) (by first | decide | omega) (by decide)
        have q81 : h7 75 13 = h 75 13 := jK 0 f9 rg_75_13_0_1 (by first | decide | omega) (by first | decide | omega) (by decide)
        refine x_getC (np := 39) (x := 717) (f := 13) (q := (h 75 13)) (by decide +kernel) (by decide) (by decide +kernel) ((((q77.trans q78).trans q79).trans q80).trans q81) (fun l82 => ?_)
        refine x_const (np := 40) (x := 9223372043297226753) (a := 2147483649) (by decide +kernel) (by decide) (by decide) ?_
        refine x_iadd (np := 41) (x := 0) (v := (1 + (h 75 13))) (by decide +kernel) l58 (by decide) (by first | decide | omega) (by first | decide | omega) ?_
        refine x_putI (np := 44) (x := 717) (f := 13) (by decide +kernel) (by decide +kernel) (by first | decide | omega) (Or.inl (by decide)) ?_
        have j84 := jU (e := 13) (v := (1 + (h 75 13))) 0 j74 rg_75_13_0_1 (by first | decide | omega) (by first | decide | omega) (by first | decide | omega)
        have f86 := jF (e := 13) (v := (1 + (h 75 13))) 0 f76 rg_75_13_0_1 (by first | decide | omega) (by first | decide | omega) (by decide)
        generalize e85 : x_up h73 75 13 (1 + (h 75 13)) = h83 at j84 f86 ⊢
        refine x_retV (np := 45) (x := 0) (by decide +kernel) (by decide +kernel) ⟨rfl, ?_⟩
        have q87 : h83 75 13 = (1 + (h 75 13)) := by rw [← e85]; exact x_up_at
        refine x_const (np := 151) (x := 9223372043297226753) (a := 2147483649) (by decide +kernel) (by decide) (by decide) ?_
        have q88 : h83 75 13 = (1 + (h 75 13)) := by rw [← e85]; exact x_up_at
        have q89 : h83 75 7 = h73 75 7 := by rw [← e85]; exact x_up_i (by first | decide | omega)
        have q90 : h73 75 7 = h62 75 7 := by rw [← e75]; exact x_up_k (by decide)
        have q91 : h62 75 7 = h39 75 7 := by rw [← e64]; exact x_up_k (by decide)
        have q92 : h83 75 10 = h73 75 10 := by rw [← e85]; exact x_up_i (by first | decide | omega)
        have q93 : h73 75 10 = h62 75 10 := by rw [← e75]; exact x_up_k (by decide)
        have q94 : h62 75 10 = h39 75 10 := by rw [← e64]; exact x_up_k (by decide)
        have q95 : h39 75 10 = h23 75 10 := jK 0 f41 rg_75_10_0_1 (by first | decide | omega) (by first | decide | omega) (by decide)
        have q96 : h23 75 10 = h7 75 10 := jK 0 f25 rg_75_10_0_1 (by first | decide | omega) (by first | decide | omega) (by decide)
        have q97 : h7 75 10 = h 75 10 := jK 0 f9 rg_75_10_0_1 (by first | decide | omega) (by first | decide | omega) (by decide)
        have q98 : h83 75 7 = h73 75 7 := by rw [← e85]; exact x_up_i (by first | decide | omega)
        have q99 : h73 75 7 = h62 75 7 := by rw [← e75]; exact x_up_k (by decide)
        have q100 : h62 75 7 = h39 75 7 := by rw [← e64]; exact x_up_k (by decide)
        have q101 : h83 75 13 = (1 + (h 75 13)) := by rw [← e85]; exact x_up_at
        have k107 : Kp h h7 (h 75 13 - 2147483648) := Kp.fr Kp.refl f9 (by first | decide | omega) (by decide)
        have k106 : Kp h h23 (h 75 13 - 2147483648) := Kp.fr k107 f25 (by first | decide | omega) (by decide)
        have k105 : Kp h h39 (h 75 13 - 2147483648) := Kp.fr k106 f41 (by first | decide | omega) (by decide)
        have k104 : Kp h h62 (h 75 13 - 2147483648) := by rw [← e64]; exact Kp.up k105 (by first | decide | omega) (fun i hi => by first | decide | omega)
        have k103 : Kp h h73 (h 75 13 - 2147483648) := by rw [← e75]; exact Kp.up k104 (by first | decide | omega) (fun i hi => by first | decide | omega)
        have k102 : Kp h h83 (h 75 13 - 2147483648) := by rw [← e85]; exact Kp.oth k103 (by decide)
        have q108 : h83 75 13 = (1 + (h 75 13)) := by rw [← e85]; exact x_up_at
        have q110 : h83 76 (1152 + 2 * u59) = h73 76 (1152 + 2 * u59) := by rw [← e85]; exact x_up_k (by decide)
        have q111 : h73 76 (1152 + 2 * u59) = h62 76 (1152 + 2 * u59) := by rw [← e75]; exact x_up_i (by first | decide | omega)
        have q112 : h62 76 (1152 + 2 * u59) = 2147483654 := by rw [← e64]; exact x_up_at
        have s109 : Seg (sg h83) u59 (u59 + 1) := Seg.push (show 2147483648 ≤ h83 76 (1152 + 2 * u59) by first | decide | omega) (show h83 76 (1152 + 2 * u59) ≤ 2147483656 by first | decide | omega)
        have s113 : Seg (sg h83) (h 75 13 - 2147483648) (h83 75 13 - 2147483648) := Seg.cast (Seg.kp s109 Kp.refl) (by first | decide | omega) (by first | decide | omega)
        obtain ⟨w114, e115⟩ := Tk.no c13 (by first | decide | omega)
        obtain ⟨w116, e117⟩ := Tk.no c29 (by first | decide | omega)
        obtain ⟨w118, e119⟩ := Tk.yes c45 (by first | decide | omega)
        have q120 : h83 75 7 = h73 75 7 := by rw [← e85]; exact x_up_i (by first | decide | omega)
        have q121 : h73 75 7 = h62 75 7 := by rw [← e75]; exact x_up_k (by decide)
        have q122 : h62 75 7 = h39 75 7 := by rw [← e64]; exact x_up_k (by decide)
        refine x_retI (np := 152) (x := 0) (by decide +kernel) (by decide) (Or.inr ⟨by decide +kernel, by first | decide | omega, by first | decide | omega⟩) ⟨_, rfl, (by decide), ?_⟩
        exact ⟨j84, f86, (by first | decide | omega), (fun z => by first | decide | omega), (fun z => by first | decide | omega), (fun z => by first | decide | omega), (fun z => by first | decide | omega), k102, (fun _ => s113), (gA_own w118 (Eq.trans e117 e115) e119 (by first | decide | omega) (congrArg (sk tB tN) (show h39 75 7 = h83 75 7 by first | decide | omega))), (fun z => absurd z (by first | decide | omega))⟩
      have q50 : ¬ (v35 ≠ 2147483648) := q50
      refine x_aload (np := 126) (x := 0) (by decide +kernel) rfl (x_nc_le (by decide)) ?_
      refine x_ldcB (i := 26) (idx := 252) (tx := "mine") (by rw [tb_y190]; exact List.mem_of_getElem? (i := 61) rfl) (by decide) (by rw [tb_b190]; decide +kernel) ?_
      have m126 := Tq.fr m38 f41 (by decide) (by decide)
      refine x_cI (t := 6) (mj := 171) (n := 2) (rc := 12) (ml := 2) (nr := 0) (np := 131) (as := [x_r 75, x_b (26 + 1)]) (rest := []) (lo1 := [x_r 75, x_b (26 + 1)]) (by decide +kernel) (by decide) (by decide +kernel) (x_rb_of (by decide +kernel)) rfl rfl (x_wr (by decide) (x_wB (by decide) x_wn)) x_wn (by decide) rfl (c171_75_S0 j40  (by decide) m126) (fun v123 h127 l124 q125 => ?_)
      obtain ⟨j128, f129, b130, c131, c132, c133, c134⟩ := q125
      have f135 := Fr.trans f47 f129 (by decide)
      have b136 := jB (e := 7) 0 j128 rg_75_7_0_1 (by first | decide | omega) (by first | decide | omega)
      refine x_ifz (k := 0) (tg := 152) (np := 134) (by decide +kernel) (by decide) l124 (fun q137 => ?_) (fun q138 => ?_)
      · have q137 : v123 = 2147483648 := q137
        refine x_aload (np := 153) (x := 0) (by decide +kernel) rfl (x_nc_le (by decide)) ?_
        have q139 : h127 75 13 = h39 75 13 := jK 0 f129 rg_75_13_0_1 (by first | decide | omega) (by first | decide | omega) (by decide)
        have q140 : h39 75 13 = h23 75 13 := jK 0 f41 rg_75_13_0_1 (by first | decide | omega) (by first | decide | omega) (by decide)
        have q141 : h23 75 13 = h7 75 13 := jK 0 f25 rg_75_13_0_1 (by first | decide | omega) (by first | decide | omega) (by decide)
        have q142 : h7 75 13 = h 75 13 := jK 0 f9 rg_75_13_0_1 (by first | decide | omega) (by first | decide | omega) (by decide)
        have m146 := Tq.fr m126 f129 (by decide) (by decide)
        refine x_cI (t := 6) (mj := 189) (n := 1) (rc := 12) (ml := 1) (nr := 0) (np := 156) (as := [x_r 75]) (rest := []) (lo1 := [x_r 75]) (by decide +kernel) (by decide) (by decide +kernel) (x_rb_of (by decide +kernel)) rfl rfl (x_wr (by decide) x_wn) x_wn (by decide) rfl (c189_75 j128  (by first | decide | omega) m146) (fun v143 h147 l144 q145 => ?_)
        obtain ⟨j148, f149, b150, c151, c152, c153, c154, c155, c156, c157⟩ := q145
        have f158 := Fr.trans f135 f149 (by decide)
        have q159 : h127 75 13 = h39 75 13 := jK 0 f129 rg_75_13_0_1 (by first | decide | omega) (by first | decide | omega) (by decide)
        have q160 : h39 75 13 = h23 75 13 := jK 0 f41 rg_75_13_0_1 (by first | decide | omega) (by first | decide | omega) (by decide)
        have q161 : h23 75 13 = h7 75 13 := jK 0 f25 rg_75_13_0_1 (by first | decide | omega) (by first | decide | omega) (by decide)
        have q162 : h7 75 13 = h 75 13 := jK 0 f9 rg_75_13_0_1 (by first | decide | omega) (by first | decide | omega) (by decide)
        have b163 := jB (e := 13) 0 j148 rg_75_13_0_1 (by first | decide | omega) (by first | decide | omega)
        have b164 := jB (e := 7) 0 j148 rg_75_7_0_1 (by first | decide | omega) (by first | decide | omega)
        have q165 : h127 75 13 = h39 75 13 := jK 0 f129 rg_75_13_0_1 (by first | decide | omega) (by first | decide | omega) (by decide)
        have q166 : h39 75 13 = h23 75 13 := jK 0 f41 rg_75_13_0_1 (by first | decide | omega) (by first | decide | omega) (by decide)
        have q167 : h23 75 13 = h7 75 13 := jK 0 f25 rg_75_13_0_1 (by first | decide | omega) (by first | decide | omega) (by decide)
        have q168 : h7 75 13 = h 75 13 := jK 0 f9 rg_75_13_0_1 (by first | decide | omega) (by first | decide | omega) (by decide)
        refine x_ifz (k := 1) (tg := 161) (np := 159) (by decide +kernel) (by decide) l144 (fun q169 => ?_) (fun q170 => ?_)
        · have q169 : v143 ≠ 2147483648 := q169
          have b171 := c151 (by first | decide | omega)
          have b172 := c152 (by first | decide | omega)
          have b173 := c153 (by first | decide | omega)
          have s174 := c155 (by first | decide | omega)
          have q175 : h127 75 13 = h39 75 13 := jK 0 f129 rg_75_13_0_1 (by first | decide | omega) (by first | decide | omega) (by decide)
          have q176 : h39 75 13 = h23 75 13 := jK 0 f41 rg_75_13_0_1 (by first | decide | omega) (by first | decide | omega) (by decide)
          have q177 : h23 75 13 = h7 75 13 := jK 0 f25 rg_75_13_0_1 (by first | decide | omega) (by first | decide | omega) (by decide)
          have q178 : h7 75 13 = h 75 13 := jK 0 f9 rg_75_13_0_1 (by first | decide | omega) (by first | decide | omega) (by decide)
          refine x_aload (np := 162) (x := 0) (by decide +kernel) rfl (x_nc_le (by decide)) ?_
          refine x_const (np := 164) (x := 9223372296700297276) (a := 2147483708) (by decide +kernel) (by decide) (by decide) ?_
          have m182 := Tq.fr m146 f149 (by decide) (by decide)
          refine x_cI (t := 6) (mj := 173) (n := 2) (rc := 12) (ml := 2) (nr := 0) (np := 167) (as := [x_r 75, iv_c 2147483708]) (rest := []) (lo1 := [x_r 75, iv_c 2147483708]) (by decide +kernel) (by decide) (by decide +kernel) (x_rb_of (by decide +kernel)) rfl rfl (x_wr (by decide) (x_wi (by decide) x_wn)) x_wn (by decide) rfl (c173_75 j148  (by first | decide | omega) m182) (fun v179 h183 l180 q181 => ?_)
          obtain ⟨j184, f185, b186, c187, c188, c189, c190⟩ := q181
          have f191 := Fr.trans f158 f185 (by decide)
          have b192 := jB (e := 7) 0 j184 rg_75_7_0_1 (by first | decide | omega) (by first | decide | omega)
          refine x_istore (np := 168) (x := 2) (lo' := [x_r 75, iv_c v35, iv_c v179]) (by decide +kernel) l180 (Nat.le_of_ble_eq_true rfl) rfl ?_
          refine x_iload (np := 169) (x := 2) (by decide +kernel) rfl l180 ?_
          refine x_ifz (k := 1) (tg := 181) (np := 172) (by decide +kernel) (by decide) l180 (fun q193 => ?_) (fun q194 => ?_)
          · have q193 : v179 ≠ 2147483648 := q193
            have b195 := c188 (by first | decide | omega)
            refine x_aload (np := 182) (x := 0) (by decide +kernel) rfl (x_nc_le (by decide)) ?_
            have q196 : h183 75 13 = h147 75 13 := jK 0 f185 rg_75_13_0_1 (by first | decide | omega) (by first | decide | omega) (by decide)
            have m200 := Tq.fr m182 f185 (by decide) (by decide)
            refine x_cI (t := 6) (mj := 189) (n := 1) (rc := 12) (ml := 1) (nr := 0) (np := 185) (as := [x_r 75]) (rest := []) (lo1 := [x_r 75]) (by decide +kernel) (by decide) (by decide +kernel) (x_rb_of (by decide +kernel)) rfl rfl (x_wr (by decide) x_wn) x_wn (by decide) rfl (c189_75 j184  (by first | decide | omega) m200) (fun v197 h201 l198 q199 => ?_)
            obtain ⟨j202, f203, b204, c205, c206, c207, c208, c209, c210, c211⟩ := q199
            have f212 := Fr.trans f191 f203 (by decide)
            have q213 : h183 75 13 = h147 75 13 := jK 0 f185 rg_75_13_0_1 (by first | decide | omega) (by first | decide | omega) (by decide)
            have b214 := jB (e := 13) 0 j202 rg_75_13_0_1 (by first | decide | omega) (by first | decide | omega)
            have b215 := jB (e := 7) 0 j202 rg_75_7_0_1 (by first | decide | omega) (by first | decide | omega)
            have q216 : h183 75 13 = h147 75 13 := jK 0 f185 rg_75_13_0_1 (by first | decide | omega) (by first | decide | omega) (by decide)
            refine x_ifz (k := 1) (tg := 190) (np := 188) (by decide +kernel) (by decide) l198 (fun q217 => ?_) (fun q218 => ?_)
            · have q217 : v197 ≠ 2147483648 := q217
              have b219 := c205 (by first | decide | omega)
              have b220 := c206 (by first | decide | omega)
              have b221 := c207 (by first | decide | omega)
              have s222 := c209 (by first | decide | omega)
              have q223 : h183 75 13 = h147 75 13 := jK 0 f185 rg_75_13_0_1 (by first | decide | omega) (by first | decide | omega) (by decide)
              refine x_aload (np := 191) (x := 0) (by decide +kernel) rfl (x_nc_le (by decide)) ?_
              refine x_iload (np := 192) (x := 2) (by decide +kernel) rfl l180 ?_
              refine x_ifz (k := 0) (tg := 200) (np := 195) (by decide +kernel) (by decide) l180 (fun q224 => ?_) (fun q225 => ?_)
              · have q224 : v179 = 2147483648 := q224
                exfalso; omega
              have q225 : ¬ (v179 = 2147483648) := q225
              refine x_const (np := 197) (x := 9223372081951932426) (a := 2147483658) (by decide +kernel) (by decide) (by decide) ?_
              refine x_goto (np := 200) (x := 202) (by decide +kernel) ?_
              refine x_const (np := 203) (x := 9223372039002259456) (a := 2147483648) (by decide +kernel) (by decide) (by decide) ?_
              refine x_nV (t := 6) (mj := 187) (n := 3) (rc := 12) (ml := 3) (nr := 0) (np := 206) (as := [x_r 75, iv_c 2147483658, iv_c 2147483648]) (rest := []) (lo1 := [x_r 75, iv_c 2147483658, iv_c 2147483648]) (by decide +kernel) (by decide) (by decide +kernel) (x_rb_of (by decide +kernel)) rfl rfl (x_wr (by decide) (x_wi (by decide) (x_wi (by decide) x_wn))) x_wn (by decide) rfl ?_
              refine x_aload (np := 1) (x := 0) (by decide +kernel) rfl (x_nc_le (by decide)) ?_
              have q226 : h201 75 1 = 76 := by have z := jB (e := 1) 0 j202 rg_75_1_0_1 (by decide) (by decide); omega
              refine x_getR (np := 4) (x := 705) (f := 1) (q := 76) (by decide +kernel) (by decide) (by decide +kernel) q226 ?_
              refine x_const (np := 7) (x := 9223376986804585600) (a := 2147484800) (by decide +kernel) (by decide) (by decide) ?_
              refine x_const (np := 8) (x := 9223372047592194050) (a := 2147483650) (by decide +kernel) (by decide) (by decide) ?_
              refine x_aload (np := 9) (x := 0) (by decide +kernel) rfl (x_nc_le (by decide)) ?_
              refine x_getC (np := 12) (x := 717) (f := 13) (q := (h201 75 13)) (by decide +kernel) (by decide) (by decide +kernel) rfl (fun l227 => ?_)
              obtain ⟨u228, q229⟩ : ∃ z, (h201 75 13) = 2147483648 + z := ⟨(h201 75 13) - 2147483648, by first | decide | omega⟩
              refine x_imul (np := 13) (x := 0) (i := 2) (j := u228) (v := (2147483648 + 2 * u228)) (by decide +kernel) (by first | decide | omega) (by first | decide | omega) (by first | decide | omega) (by first | decide | omega) (by decide) l227 ?_
              refine x_iadd (np := 14) (x := 0) (v := (2147484800 + 2 * u228)) (by decide +kernel) (by decide) (by first | decide | omega) (by first | decide | omega) (by first | decide | omega) ?_
              refine x_iload (np := 15) (x := 1) (by decide +kernel) rfl (by decide) ?_
              refine x_ast (np := 16) (x := 0) (kd := 1) (n := 1952) (i := (1152 + 2 * u228)) (by decide +kernel) (Or.inl rfl) (by decide +kernel) (by first | decide | omega) (by first | decide | omega) (by decide) (by decide) (fun z => absurd z (by decide)) ?_
              have j232 := jU (e := (1152 + 2 * u228)) (v := 2147483658) u228 j202 rg_76_1152_2_395 (by first | decide | omega) (by first | decide | omega) (by first | decide | omega)
              have f234 := jF (e := (1152 + 2 * u228)) (v := 2147483658) u228 f212 rg_76_1152_2_395 (by first | decide | omega) (by first | decide | omega) (by decide)
              generalize e233 : x_up h201 76 (1152 + 2 * u228) 2147483658 = h231 at j232 f234 ⊢
              refine x_aload (np := 17) (x := 0) (by decide +kernel) rfl (x_nc_le (by decide)) ?_
              have q235 : h231 75 1 = 76 := by have z := jB (e := 1) 0 j232 rg_75_1_0_1 (by decide) (by decide); omega
              refine x_getR (np := 20) (x := 705) (f := 1) (q := 76) (by decide +kernel) (by decide) (by decide +kernel) q235 ?_
              refine x_const (np := 23) (x := 9223376986804585600) (a := 2147484800) (by decide +kernel) (by decide) (by decide) ?_
              refine x_const (np := 24) (x := 9223372047592194050) (a := 2147483650) (by decide +kernel) (by decide) (by decide) ?_
              refine x_aload (np := 25) (x := 0) (by decide +kernel) rfl (x_nc_le (by decide)) ?_
              have q236 : h231 75 13 = h201 75 13 := by rw [← e233]; exact x_up_k (by decide)
              refine x_getC (np := 28) (x := 717) (f := 13) (q := (h201 75 13)) (by decide +kernel) (by decide) (by decide +kernel) q236 (fun l237 => ?_)
              refine x_imul (np := 29) (x := 0) (i := 2) (j := u228) (v := (2147483648 + 2 * u228)) (by decide +kernel) (by first | decide | omega) (by first | decide | omega) (by first | decide | omega) (by first | decide | omega) (by decide) l227 ?_
              refine x_iadd (np := 30) (x := 0) (v := (2147484800 + 2 * u228)) (by decide +kernel) (by decide) (by first | decide | omega) (by first | decide | omega) (by first | decide | omega) ?_
              refine x_const (np := 31) (x := 9223372043297226753) (a := 2147483649) (by decide +kernel) (by decide) (by decide) ?_
              refine x_iadd (np := 32) (x := 0) (v := (2147484801 + 2 * u228)) (by decide +kernel) (by first | decide | omega) (by decide) (by first | decide | omega) (by first | decide | omega) ?_
              refine x_iload (np := 33) (x := 2) (by decide +kernel) rfl (by decide) ?_
              refine x_ast (np := 34) (x := 0) (kd := 1) (n := 1952) (i := (1153 + 2 * u228)) (by decide +kernel) (Or.inl rfl) (by decide +kernel) (by first | decide | omega) (by first | decide | omega) (by decide) (by decide) (fun z => absurd z (by decide)) ?_
              have j240 := jU (e := (1153 + 2 * u228)) (v := 2147483648) u228 j232 rg_76_1153_2_395 (by first | decide | omega) (by first | decide | omega) (by first | decide | omega)
              have f242 := jF (e := (1153 + 2 * u228)) (v := 2147483648) u228 f234 rg_76_1153_2_395 (by first | decide | omega) (by first | decide | omega) (by decide)
              generalize e241 : x_up h231 76 (1153 + 2 * u228) 2147483648 = h239 at j240 f242 ⊢
              refine x_aload (np := 35) (x := 0) (by decide +kernel) rfl (x_nc_le (by decide)) ?_
              refine x_dup (np := 36) (x := 0) (by decide +kernel) (by have z := x_nc_le (k := 75) (by decide); unfold x_r; omega) ?_
              have q243 : h239 75 13 = h231 75 13 := by rw [← e241]; exact x_up_k (by decide)
              have q244 : h231 75 13 = h201 75 13 := by rw [← e233]; exact x_up_k (by decide)
              refine x_getC (np := 39) (x := 717) (f := 13) (q := (h201 75 13)) (by decide +kernel) (by decide) (by decide +kernel) (q243.trans q244) (fun l245 => ?_)
              refine x_const (np := 40) (x := 9223372043297226753) (a := 2147483649) (by decide +kernel) (by decide) (by decide) ?_
              refine x_iadd (np := 41) (x := 0) (v := (1 + (h201 75 13))) (by decide +kernel) l227 (by decide) (by first | decide | omega) (by first | decide | omega) ?_
              refine x_putI (np := 44) (x := 717) (f := 13) (by decide +kernel) (by decide +kernel) (by first | decide | omega) (Or.inl (by decide)) ?_
              have j247 := jU (e := 13) (v := (1 + (h201 75 13))) 0 j240 rg_75_13_0_1 (by first | decide | omega) (by first | decide | omega) (by first | decide | omega)
              have f249 := jF (e := 13) (v := (1 + (h201 75 13))) 0 f242 rg_75_13_0_1 (by first | decide | omega) (by first | decide | omega) (by decide)
              generalize e248 : x_up h239 75 13 (1 + (h201 75 13)) = h246 at j247 f249 ⊢
              refine x_retV (np := 45) (x := 0) (by decide +kernel) (by decide +kernel) ⟨rfl, ?_⟩
              have q250 : h246 75 13 = (1 + (h201 75 13)) := by rw [← e248]; exact x_up_at
              refine x_const (np := 207) (x := 9223372043297226753) (a := 2147483649) (by decide +kernel) (by decide) (by decide) ?_
              have q251 : h246 75 13 = (1 + (h201 75 13)) := by rw [← e248]; exact x_up_at
              have q252 : h246 75 7 = h239 75 7 := by rw [← e248]; exact x_up_i (by first | decide | omega)
              have q253 : h239 75 7 = h231 75 7 := by rw [← e241]; exact x_up_k (by decide)
              have q254 : h231 75 7 = h201 75 7 := by rw [← e233]; exact x_up_k (by decide)
              have q255 : h246 75 10 = h239 75 10 := by rw [← e248]; exact x_up_i (by first | decide | omega)
              have q256 : h239 75 10 = h231 75 10 := by rw [← e241]; exact x_up_k (by decide)
              have q257 : h231 75 10 = h201 75 10 := by rw [← e233]; exact x_up_k (by decide)
              have q258 : h201 75 10 = h183 75 10 := jK 0 f203 rg_75_10_0_1 (by first | decide | omega) (by first | decide | omega) (by decide)
              have q259 : h183 75 10 = h147 75 10 := jK 0 f185 rg_75_10_0_1 (by first | decide | omega) (by first | decide | omega) (by decide)
              have q260 : h147 75 10 = h127 75 10 := jK 0 f149 rg_75_10_0_1 (by first | decide | omega) (by first | decide | omega) (by decide)
              have q261 : h127 75 10 = h39 75 10 := jK 0 f129 rg_75_10_0_1 (by first | decide | omega) (by first | decide | omega) (by decide)
              have q262 : h39 75 10 = h23 75 10 := jK 0 f41 rg_75_10_0_1 (by first | decide | omega) (by first | decide | omega) (by decide)
              have q263 : h23 75 10 = h7 75 10 := jK 0 f25 rg_75_10_0_1 (by first | decide | omega) (by first | decide | omega) (by decide)
              have q264 : h7 75 10 = h 75 10 := jK 0 f9 rg_75_10_0_1 (by first | decide | omega) (by first | decide | omega) (by decide)
              have q265 : h246 75 7 = h239 75 7 := by rw [← e248]; exact x_up_i (by first | decide | omega)
              have q266 : h239 75 7 = h231 75 7 := by rw [← e241]; exact x_up_k (by decide)
              have q267 : h231 75 7 = h201 75 7 := by rw [← e233]; exact x_up_k (by decide)
              have q268 : h246 75 13 = (1 + (h201 75 13)) := by rw [← e248]; exact x_up_at
              have k278 : Kp h h7 (h 75 13 - 2147483648) := Kp.fr Kp.refl f9 (by first | decide | omega) (by decide)
              have k277 : Kp h h23 (h 75 13 - 2147483648) := Kp.fr k278 f25 (by first | decide | omega) (by decide)
              have k276 : Kp h h39 (h 75 13 - 2147483648) := Kp.fr k277 f41 (by first | decide | omega) (by decide)
              have k275 : Kp h h127 (h 75 13 - 2147483648) := Kp.fr k276 f129 (by first | decide | omega) (by decide)
              have q279 : h127 75 13 = h39 75 13 := jK 0 f129 rg_75_13_0_1 (by first | decide | omega) (by first | decide | omega) (by decide)
              have q280 : h39 75 13 = h23 75 13 := jK 0 f41 rg_75_13_0_1 (by first | decide | omega) (by first | decide | omega) (by decide)
              have q281 : h23 75 13 = h7 75 13 := jK 0 f25 rg_75_13_0_1 (by first | decide | omega) (by first | decide | omega) (by decide)
              have q282 : h7 75 13 = h 75 13 := jK 0 f9 rg_75_13_0_1 (by first | decide | omega) (by first | decide | omega) (by decide)
              have k274 : Kp h h147 (h 75 13 - 2147483648) := Kp.trans k275 c154 (by first | decide | omega)
              have k273 : Kp h h183 (h 75 13 - 2147483648) := Kp.fr k274 f185 (by first | decide | omega) (by decide)
              have q283 : h183 75 13 = h147 75 13 := jK 0 f185 rg_75_13_0_1 (by first | decide | omega) (by first | decide | omega) (by decide)
              have k272 : Kp h h201 (h 75 13 - 2147483648) := Kp.trans k273 c208 (by first | decide | omega)
              have k271 : Kp h h231 (h 75 13 - 2147483648) := by rw [← e233]; exact Kp.up k272 (by first | decide | omega) (fun i hi => by first | decide | omega)
              have k270 : Kp h h239 (h 75 13 - 2147483648) := by rw [← e241]; exact Kp.up k271 (by first | decide | omega) (fun i hi => by first | decide | omega)
              have k269 : Kp h h246 (h 75 13 - 2147483648) := by rw [← e248]; exact Kp.oth k270 (by decide)
              have q284 : h246 75 13 = (1 + (h201 75 13)) := by rw [← e248]; exact x_up_at
              have q286 : h246 76 (1152 + 2 * u228) = h239 76 (1152 + 2 * u228) := by rw [← e248]; exact x_up_k (by decide)
              have q287 : h239 76 (1152 + 2 * u228) = h231 76 (1152 + 2 * u228) := by rw [← e241]; exact x_up_i (by first | decide | omega)
              have q288 : h231 76 (1152 + 2 * u228) = 2147483658 := by rw [← e233]; exact x_up_at
              have k293 : Kp h147 h183 (h147 75 13 - 2147483648) := Kp.fr Kp.refl f185 (by first | decide | omega) (by decide)
              have q294 : h183 75 13 = h147 75 13 := jK 0 f185 rg_75_13_0_1 (by first | decide | omega) (by first | decide | omega) (by decide)
              have k292 : Kp h147 h201 (h147 75 13 - 2147483648) := Kp.trans k293 c208 (by first | decide | omega)
              have k291 : Kp h147 h231 (h147 75 13 - 2147483648) := by rw [← e233]; exact Kp.up k292 (by first | decide | omega) (fun i hi => by first | decide | omega)
              have k290 : Kp h147 h239 (h147 75 13 - 2147483648) := by rw [← e241]; exact Kp.up k291 (by first | decide | omega) (fun i hi => by first | decide | omega)
              have k289 : Kp h147 h246 (h147 75 13 - 2147483648) := by rw [← e248]; exact Kp.oth k290 (by decide)
              have k297 : Kp h201 h231 (h201 75 13 - 2147483648) := by rw [← e233]; exact Kp.up Kp.refl (by first | decide | omega) (fun i hi => by first | decide | omega)
              have k296 : Kp h201 h239 (h201 75 13 - 2147483648) := by rw [← e241]; exact Kp.up k297 (by first | decide | omega) (fun i hi => by first | decide | omega)
              have k295 : Kp h201 h246 (h201 75 13 - 2147483648) := by rw [← e248]; exact Kp.oth k296 (by decide)
              have s285 : Seg (sg h246) (h127 75 13 - 2147483648) (u228 + 1) := Seg.bin (Seg.kp s174 k289) (Seg.cast (a' := (h147 75 13 - 2147483648)) (b' := u228) (Seg.kp s222 k295) (by first | decide | omega) (by first | decide | omega)) (show 2147483656 < h246 76 (1152 + 2 * u228) by first | decide | omega) (show h246 76 (1152 + 2 * u228) ≠ 2147483660 by first | decide | omega)
              have s298 : Seg (sg h246) (h 75 13 - 2147483648) (h246 75 13 - 2147483648) := Seg.cast (Seg.kp s285 Kp.refl) (by first | decide | omega) (by first | decide | omega)
              obtain ⟨w299, e300⟩ := Tk.no c13 (by first | decide | omega)
              obtain ⟨w301, e302⟩ := Tk.no c29 (by first | decide | omega)
              obtain ⟨w303, e304⟩ := Tk.no c45 (by first | decide | omega)
              obtain ⟨w305, e306⟩ := Tk.no c133 (by first | decide | omega)
              have w307 : An tB tN (sk tB tN (h 75 7)) := gA_an w301 e300 w299 rfl w303 (Eq.trans e302 e300) w305 (Eq.trans e304 (Eq.trans e302 e300))
              obtain ⟨w308, e309⟩ := Tk.yes c189 (by first | decide | omega)
              have q310 : h246 75 7 = h239 75 7 := by rw [← e248]; exact x_up_i (by first | decide | omega)
              have q311 : h239 75 7 = h231 75 7 := by rw [← e241]; exact x_up_k (by decide)
              have q312 : h231 75 7 = h201 75 7 := by rw [← e233]; exact x_up_k (by decide)
              refine x_retI (np := 208) (x := 0) (by decide +kernel) (by decide) (Or.inr ⟨by decide +kernel, by first | decide | omega, by first | decide | omega⟩) ⟨_, rfl, (by decide), ?_⟩
              exact ⟨j247, f249, (by first | decide | omega), (fun z => by first | decide | omega), (fun z => by first | decide | omega), (fun z => by first | decide | omega), (fun z => by first | decide | omega), k269, (fun _ => s298), (gA_c2 w307 (c156 4) (Eq.trans e306 (Eq.trans e304 (Eq.trans e302 e300))) (by first | decide | omega) (Or.inl w308) rfl e309 (c210 4) rfl (by first | decide | omega) (fun z => (congrArg (sk tB tN) (show h201 75 7 = h246 75 7 by first | decide | omega)))), (fun z => absurd z (by first | decide | omega))⟩
            have q218 : ¬ (v197 ≠ 2147483648) := q218
            refine x_const (np := 189) (x := 9223372039002259456) (a := 2147483648) (by decide +kernel) (by decide) (by decide) ?_
            have q313 : h201 75 10 = h183 75 10 := jK 0 f203 rg_75_10_0_1 (by first | decide | omega) (by first | decide | omega) (by decide)
            have q314 : h183 75 10 = h147 75 10 := jK 0 f185 rg_75_10_0_1 (by first | decide | omega) (by first | decide | omega) (by decide)
            have q315 : h147 75 10 = h127 75 10 := jK 0 f149 rg_75_10_0_1 (by first | decide | omega) (by first | decide | omega) (by decide)
            have q316 : h127 75 10 = h39 75 10 := jK 0 f129 rg_75_10_0_1 (by first | decide | omega) (by first | decide | omega) (by decide)
            have q317 : h39 75 10 = h23 75 10 := jK 0 f41 rg_75_10_0_1 (by first | decide | omega) (by first | decide | omega) (by decide)
            have q318 : h23 75 10 = h7 75 10 := jK 0 f25 rg_75_10_0_1 (by first | decide | omega) (by first | decide | omega) (by decide)
            have q319 : h7 75 10 = h 75 10 := jK 0 f9 rg_75_10_0_1 (by first | decide | omega) (by first | decide | omega) (by decide)
            have k326 : Kp h h7 (h 75 13 - 2147483648) := Kp.fr Kp.refl f9 (by first | decide | omega) (by decide)
            have k325 : Kp h h23 (h 75 13 - 2147483648) := Kp.fr k326 f25 (by first | decide | omega) (by decide)
            have k324 : Kp h h39 (h 75 13 - 2147483648) := Kp.fr k325 f41 (by first | decide | omega) (by decide)
            have k323 : Kp h h127 (h 75 13 - 2147483648) := Kp.fr k324 f129 (by first | decide | omega) (by decide)
            have q327 : h127 75 13 = h39 75 13 := jK 0 f129 rg_75_13_0_1 (by first | decide | omega) (by first | decide | omega) (by decide)
            have q328 : h39 75 13 = h23 75 13 := jK 0 f41 rg_75_13_0_1 (by first | decide | omega) (by first | decide | omega) (by decide)
            have q329 : h23 75 13 = h7 75 13 := jK 0 f25 rg_75_13_0_1 (by first | decide | omega) (by first | decide | omega) (by decide)
            have q330 : h7 75 13 = h 75 13 := jK 0 f9 rg_75_13_0_1 (by first | decide | omega) (by first | decide | omega) (by decide)
            have k322 : Kp h h147 (h 75 13 - 2147483648) := Kp.trans k323 c154 (by first | decide | omega)
            have k321 : Kp h h183 (h 75 13 - 2147483648) := Kp.fr k322 f185 (by first | decide | omega) (by decide)
            have q331 : h183 75 13 = h147 75 13 := jK 0 f185 rg_75_13_0_1 (by first | decide | omega) (by first | decide | omega) (by decide)
            have k320 : Kp h h201 (h 75 13 - 2147483648) := Kp.trans k321 c208 (by first | decide | omega)
            obtain ⟨w332, e333⟩ := Tk.no c13 (by first | decide | omega)
            obtain ⟨w334, e335⟩ := Tk.no c29 (by first | decide | omega)
            obtain ⟨w336, e337⟩ := Tk.no c45 (by first | decide | omega)
            obtain ⟨w338, e339⟩ := Tk.no c133 (by first | decide | omega)
            have w340 : An tB tN (sk tB tN (h 75 7)) := gA_an w334 e333 w332 rfl w336 (Eq.trans e335 e333) w338 (Eq.trans e337 (Eq.trans e335 e333))
            obtain ⟨w341, e342⟩ := Tk.yes c189 (by first | decide | omega)
            obtain ⟨w343, e344⟩ := Tk.no c13 (by first | decide | omega)
            obtain ⟨w345, e346⟩ := Tk.no c29 (by first | decide | omega)
            obtain ⟨w347, e348⟩ := Tk.no c45 (by first | decide | omega)
            obtain ⟨w349, e350⟩ := Tk.no c133 (by first | decide | omega)
            have w351 : An tB tN (sk tB tN (h 75 7)) := gA_an w345 e344 w343 rfl w347 (Eq.trans e346 e344) w349 (Eq.trans e348 (Eq.trans e346 e344))
            obtain ⟨w352, e353⟩ := Tk.yes c189 (by first | decide | omega)
            refine x_retI (np := 190) (x := 0) (by decide +kernel) (by decide) (Or.inr ⟨by decide +kernel, by first | decide | omega, by first | decide | omega⟩) ⟨_, rfl, (by decide), ?_⟩
            exact ⟨j202, f212, (by first | decide | omega), (fun z => by first | decide | omega), (fun z => by first | decide | omega), (fun z => by first | decide | omega), (fun z => by first | decide | omega), k320, (fun z => absurd z (by first | decide | omega)), (gA_c2 w340 (c156 4) (Eq.trans e339 (Eq.trans e337 (Eq.trans e335 e333))) (by first | decide | omega) (Or.inl w341) rfl e342 (c210 4) rfl (by first | decide | omega) (fun z => absurd z (by first | decide | omega))), (fun _ => fA_c2 w351 (c156 4) (Eq.trans e350 (Eq.trans e348 (Eq.trans e346 e344))) (by first | decide | omega) (Or.inl w352) rfl e353 (c211 (by first | decide | omega) 4) rfl rfl)⟩
          have q194 : ¬ (v179 ≠ 2147483648) := q194
          refine x_aload (np := 173) (x := 0) (by decide +kernel) rfl (x_nc_le (by decide)) ?_
          refine x_const (np := 175) (x := 9223372305290231870) (a := 2147483710) (by decide +kernel) (by decide) (by decide) ?_
          have m357 := Tq.fr m182 f185 (by decide) (by decide)
          refine x_cI (t := 6) (mj := 173) (n := 2) (rc := 12) (ml := 2) (nr := 0) (np := 178) (as := [x_r 75, iv_c 2147483710]) (rest := []) (lo1 := [x_r 75, iv_c 2147483710]) (by decide +kernel) (by decide) (by decide +kernel) (x_rb_of (by decide +kernel)) rfl rfl (x_wr (by decide) (x_wi (by decide) x_wn)) x_wn (by decide) rfl (c173_75 j184  (by first | decide | omega) m357) (fun v354 h358 l355 q356 => ?_)
          obtain ⟨j359, f360, b361, c362, c363, c364, c365⟩ := q356
          have f366 := Fr.trans f191 f360 (by decide)
          have b367 := jB (e := 7) 0 j359 rg_75_7_0_1 (by first | decide | omega) (by first | decide | omega)
          refine x_ifz (k := 0) (tg := 188) (np := 181) (by decide +kernel) (by decide) l355 (fun q368 => ?_) (fun q369 => ?_)
          · have q368 : v354 = 2147483648 := q368
            refine x_const (np := 189) (x := 9223372039002259456) (a := 2147483648) (by decide +kernel) (by decide) (by decide) ?_
            have q370 : h358 75 13 = h183 75 13 := jK 0 f360 rg_75_13_0_1 (by first | decide | omega) (by first | decide | omega) (by decide)
            have q371 : h183 75 13 = h147 75 13 := jK 0 f185 rg_75_13_0_1 (by first | decide | omega) (by first | decide | omega) (by decide)
            have q372 : h358 75 10 = h183 75 10 := jK 0 f360 rg_75_10_0_1 (by first | decide | omega) (by first | decide | omega) (by decide)
            have q373 : h183 75 10 = h147 75 10 := jK 0 f185 rg_75_10_0_1 (by first | decide | omega) (by first | decide | omega) (by decide)
            have q374 : h147 75 10 = h127 75 10 := jK 0 f149 rg_75_10_0_1 (by first | decide | omega) (by first | decide | omega) (by decide)
            have q375 : h127 75 10 = h39 75 10 := jK 0 f129 rg_75_10_0_1 (by first | decide | omega) (by first | decide | omega) (by decide)
            have q376 : h39 75 10 = h23 75 10 := jK 0 f41 rg_75_10_0_1 (by first | decide | omega) (by first | decide | omega) (by decide)
            have q377 : h23 75 10 = h7 75 10 := jK 0 f25 rg_75_10_0_1 (by first | decide | omega) (by first | decide | omega) (by decide)
            have q378 : h7 75 10 = h 75 10 := jK 0 f9 rg_75_10_0_1 (by first | decide | omega) (by first | decide | omega) (by decide)
            have q379 : h358 75 13 = h183 75 13 := jK 0 f360 rg_75_13_0_1 (by first | decide | omega) (by first | decide | omega) (by decide)
            have q380 : h183 75 13 = h147 75 13 := jK 0 f185 rg_75_13_0_1 (by first | decide | omega) (by first | decide | omega) (by decide)
            have k387 : Kp h h7 (h 75 13 - 2147483648) := Kp.fr Kp.refl f9 (by first | decide | omega) (by decide)
            have k386 : Kp h h23 (h 75 13 - 2147483648) := Kp.fr k387 f25 (by first | decide | omega) (by decide)
            have k385 : Kp h h39 (h 75 13 - 2147483648) := Kp.fr k386 f41 (by first | decide | omega) (by decide)
            have k384 : Kp h h127 (h 75 13 - 2147483648) := Kp.fr k385 f129 (by first | decide | omega) (by decide)
            have q388 : h127 75 13 = h39 75 13 := jK 0 f129 rg_75_13_0_1 (by first | decide | omega) (by first | decide | omega) (by decide)
            have q389 : h39 75 13 = h23 75 13 := jK 0 f41 rg_75_13_0_1 (by first | decide | omega) (by first | decide | omega) (by decide)
            have q390 : h23 75 13 = h7 75 13 := jK 0 f25 rg_75_13_0_1 (by first | decide | omega) (by first | decide | omega) (by decide)
            have q391 : h7 75 13 = h 75 13 := jK 0 f9 rg_75_13_0_1 (by first | decide | omega) (by first | decide | omega) (by decide)
            have k383 : Kp h h147 (h 75 13 - 2147483648) := Kp.trans k384 c154 (by first | decide | omega)
            have k382 : Kp h h183 (h 75 13 - 2147483648) := Kp.fr k383 f185 (by first | decide | omega) (by decide)
            have k381 : Kp h h358 (h 75 13 - 2147483648) := Kp.fr k382 f360 (by first | decide | omega) (by decide)
            obtain ⟨w392, e393⟩ := Tk.no c13 (by first | decide | omega)
            obtain ⟨w394, e395⟩ := Tk.no c29 (by first | decide | omega)
            obtain ⟨w396, e397⟩ := Tk.no c45 (by first | decide | omega)
            obtain ⟨w398, e399⟩ := Tk.no c133 (by first | decide | omega)
            have w400 : An tB tN (sk tB tN (h 75 7)) := gA_an w394 e393 w392 rfl w396 (Eq.trans e395 e393) w398 (Eq.trans e397 (Eq.trans e395 e393))
            obtain ⟨w401, e402⟩ := Tk.no c189 (by first | decide | omega)
            obtain ⟨w403, e404⟩ := Tk.no c364 (by first | decide | omega)
            obtain ⟨w405, e406⟩ := Tk.no c13 (by first | decide | omega)
            obtain ⟨w407, e408⟩ := Tk.no c29 (by first | decide | omega)
            obtain ⟨w409, e410⟩ := Tk.no c45 (by first | decide | omega)
            obtain ⟨w411, e412⟩ := Tk.no c133 (by first | decide | omega)
            have w413 : An tB tN (sk tB tN (h 75 7)) := gA_an w407 e406 w405 rfl w409 (Eq.trans e408 e406) w411 (Eq.trans e410 (Eq.trans e408 e406))
            obtain ⟨w414, e415⟩ := Tk.no c189 (by first | decide | omega)
            obtain ⟨w416, e417⟩ := Tk.no c364 (by first | decide | omega)
            refine x_retI (np := 190) (x := 0) (by decide +kernel) (by decide) (Or.inr ⟨by decide +kernel, by first | decide | omega, by first | decide | omega⟩) ⟨_, rfl, (by decide), ?_⟩
            exact ⟨j359, f366, (by first | decide | omega), (fun z => by first | decide | omega), (fun z => by first | decide | omega), (fun z => by first | decide | omega), (fun z => by first | decide | omega), k381, (fun z => absurd z (by first | decide | omega)), (gA_c1 w400 (c156 4) (Eq.trans e399 (Eq.trans e397 (Eq.trans e395 e393))) (by first | decide | omega) w401 rfl w403 (Eq.trans rfl (Eq.trans e402 rfl)) (by first | decide | omega)), (fun _ => fA_c1 w413 (c156 4) (Eq.trans e412 (Eq.trans e410 (Eq.trans e408 e406))) (by first | decide | omega) w414 rfl w416 (Eq.trans rfl (Eq.trans e415 rfl)) c365)⟩
          have q369 : ¬ (v354 = 2147483648) := q369
          have b418 := c363 (by first | decide | omega)
          refine x_aload (np := 182) (x := 0) (by decide +kernel) rfl (x_nc_le (by decide)) ?_
          have q419 : h358 75 13 = h183 75 13 := jK 0 f360 rg_75_13_0_1 (by first | decide | omega) (by first | decide | omega) (by decide)
          have q420 : h183 75 13 = h147 75 13 := jK 0 f185 rg_75_13_0_1 (by first | decide | omega) (by first | decide | omega) (by decide)
          have m424 := Tq.fr m357 f360 (by decide) (by decide)
          refine x_cI (t := 6) (mj := 189) (n := 1) (rc := 12) (ml := 1) (nr := 0) (np := 185) (as := [x_r 75]) (rest := []) (lo1 := [x_r 75]) (by decide +kernel) (by decide) (by decide +kernel) (x_rb_of (by decide +kernel)) rfl rfl (x_wr (by decide) x_wn) x_wn (by decide) rfl (c189_75 j359  (by first | decide | omega) m424) (fun v421 h425 l422 q423 => ?_)
          obtain ⟨j426, f427, b428, c429, c430, c431, c432, c433, c434, c435⟩ := q423
          have f436 := Fr.trans f366 f427 (by decide)
          have q437 : h358 75 13 = h183 75 13 := jK 0 f360 rg_75_13_0_1 (by first | decide | omega) (by first | decide | omega) (by decide)
          have q438 : h183 75 13 = h147 75 13 := jK 0 f185 rg_75_13_0_1 (by first | decide | omega) (by first | decide | omega) (by decide)
          have b439 := jB (e := 13) 0 j426 rg_75_13_0_1 (by first | decide | omega) (by first | decide | omega)
          have b440 := jB (e := 7) 0 j426 rg_75_7_0_1 (by first | decide | omega) (by first | decide | omega)
          have q441 : h358 75 13 = h183 75 13 := jK 0 f360 rg_75_13_0_1 (by first | decide | omega) (by first | decide | omega) (by decide)
          have q442 : h183 75 13 = h147 75 13 := jK 0 f185 rg_75_13_0_1 (by first | decide | omega) (by first | decide | omega) (by decide)
          refine x_ifz (k := 1) (tg := 190) (np := 188) (by decide +kernel) (by decide) l422 (fun q443 => ?_) (fun q444 => ?_)
          · have q443 : v421 ≠ 2147483648 := q443
            have b445 := c429 (by first | decide | omega)
            have b446 := c430 (by first | decide | omega)
            have b447 := c431 (by first | decide | omega)
            have s448 := c433 (by first | decide | omega)
            have q449 : h358 75 13 = h183 75 13 := jK 0 f360 rg_75_13_0_1 (by first | decide | omega) (by first | decide | omega) (by decide)
            have q450 : h183 75 13 = h147 75 13 := jK 0 f185 rg_75_13_0_1 (by first | decide | omega) (by first | decide | omega) (by decide)
            refine x_aload (np := 191) (x := 0) (by decide +kernel) rfl (x_nc_le (by decide)) ?_
            refine x_iload (np := 192) (x := 2) (by decide +kernel) rfl l180 ?_
            refine x_ifz (k := 0) (tg := 200) (np := 195) (by decide +kernel) (by decide) l180 (fun q451 => ?_) (fun q452 => ?_)
            · have q451 : v179 = 2147483648 := q451
              refine x_const (np := 202) (x := 9223372086246899723) (a := 2147483659) (by decide +kernel) (by decide) (by decide) ?_
              refine x_const (np := 203) (x := 9223372039002259456) (a := 2147483648) (by decide +kernel) (by decide) (by decide) ?_
              refine x_nV (t := 6) (mj := 187) (n := 3) (rc := 12) (ml := 3) (nr := 0) (np := 206) (as := [x_r 75, iv_c 2147483659, iv_c 2147483648]) (rest := []) (lo1 := [x_r 75, iv_c 2147483659, iv_c 2147483648]) (by decide +kernel) (by decide) (by decide +kernel) (x_rb_of (by decide +kernel)) rfl rfl (x_wr (by decide) (x_wi (by decide) (x_wi (by decide) x_wn))) x_wn (by decide) rfl ?_
              refine x_aload (np := 1) (x := 0) (by decide +kernel) rfl (x_nc_le (by decide)) ?_
              have q453 : h425 75 1 = 76 := by have z := jB (e := 1) 0 j426 rg_75_1_0_1 (by decide) (by decide); omega
              refine x_getR (np := 4) (x := 705) (f := 1) (q := 76) (by decide +kernel) (by decide) (by decide +kernel) q453 ?_
              refine x_const (np := 7) (x := 9223376986804585600) (a := 2147484800) (by decide +kernel) (by decide) (by decide) ?_
              refine x_const (np := 8) (x := 9223372047592194050) (a := 2147483650) (by decide +kernel) (by decide) (by decide) ?_
              refine x_aload (np := 9) (x := 0) (by decide +kernel) rfl (x_nc_le (by decide)) ?_
              refine x_getC (np := 12) (x := 717) (f := 13) (q := (h425 75 13)) (by decide +kernel) (by decide) (by decide +kernel) rfl (fun l454 => ?_)
              obtain ⟨u455, q456⟩ : ∃ z, (h425 75 13) = 2147483648 + z := ⟨(h425 75 13) - 2147483648, by first | decide | omega⟩
              refine x_imul (np := 13) (x := 0) (i := 2) (j := u455) (v := (2147483648 + 2 * u455)) (by decide +kernel) (by first | decide | omega) (by first | decide | omega) (by first | decide | omega) (by first | decide | omega) (by decide) l454 ?_
              refine x_iadd (np := 14) (x := 0) (v := (2147484800 + 2 * u455)) (by decide +kernel) (by decide) (by first | decide | omega) (by first | decide | omega) (by first | decide | omega) ?_
              refine x_iload (np := 15) (x := 1) (by decide +kernel) rfl (by decide) ?_
              refine x_ast (np := 16) (x := 0) (kd := 1) (n := 1952) (i := (1152 + 2 * u455)) (by decide +kernel) (Or.inl rfl) (by decide +kernel) (by first | decide | omega) (by first | decide | omega) (by decide) (by decide) (fun z => absurd z (by decide)) ?_
              have j459 := jU (e := (1152 + 2 * u455)) (v := 2147483659) u455 j426 rg_76_1152_2_395 (by first | decide | omega) (by first | decide | omega) (by first | decide | omega)
              have f461 := jF (e := (1152 + 2 * u455)) (v := 2147483659) u455 f436 rg_76_1152_2_395 (by first | decide | omega) (by first | decide | omega) (by decide)
              generalize e460 : x_up h425 76 (1152 + 2 * u455) 2147483659 = h458 at j459 f461 ⊢
              refine x_aload (np := 17) (x := 0) (by decide +kernel) rfl (x_nc_le (by decide)) ?_
              have q462 : h458 75 1 = 76 := by have z := jB (e := 1) 0 j459 rg_75_1_0_1 (by decide) (by decide); omega
              refine x_getR (np := 20) (x := 705) (f := 1) (q := 76) (by decide +kernel) (by decide) (by decide +kernel) q462 ?_
              refine x_const (np := 23) (x := 9223376986804585600) (a := 2147484800) (by decide +kernel) (by decide) (by decide) ?_
              refine x_const (np := 24) (x := 9223372047592194050) (a := 2147483650) (by decide +kernel) (by decide) (by decide) ?_
              refine x_aload (np := 25) (x := 0) (by decide +kernel) rfl (x_nc_le (by decide)) ?_
              have q463 : h458 75 13 = h425 75 13 := by rw [← e460]; exact x_up_k (by decide)
              refine x_getC (np := 28) (x := 717) (f := 13) (q := (h425 75 13)) (by decide +kernel) (by decide) (by decide +kernel) q463 (fun l464 => ?_)
              refine x_imul (np := 29) (x := 0) (i := 2) (j := u455) (v := (2147483648 + 2 * u455)) (by decide +kernel) (by first | decide | omega) (by first | decide | omega) (by first | decide | omega) (by first | decide | omega) (by decide) l454 ?_
              refine x_iadd (np := 30) (x := 0) (v := (2147484800 + 2 * u455)) (by decide +kernel) (by decide) (by first | decide | omega) (by first | decide | omega) (by first | decide | omega) ?_
              refine x_const (np := 31) (x := 9223372043297226753) (a := 2147483649) (by decide +kernel) (by decide) (by decide) ?_
              refine x_iadd (np := 32) (x := 0) (v := (2147484801 + 2 * u455)) (by decide +kernel) (by first | decide | omega) (by decide) (by first | decide | omega) (by first | decide | omega) ?_
              refine x_iload (np := 33) (x := 2) (by decide +kernel) rfl (by decide) ?_
              refine x_ast (np := 34) (x := 0) (kd := 1) (n := 1952) (i := (1153 + 2 * u455)) (by decide +kernel) (Or.inl rfl) (by decide +kernel) (by first | decide | omega) (by first | decide | omega) (by decide) (by decide) (fun z => absurd z (by decide)) ?_
              have j467 := jU (e := (1153 + 2 * u455)) (v := 2147483648) u455 j459 rg_76_1153_2_395 (by first | decide | omega) (by first | decide | omega) (by first | decide | omega)
              have f469 := jF (e := (1153 + 2 * u455)) (v := 2147483648) u455 f461 rg_76_1153_2_395 (by first | decide | omega) (by first | decide | omega) (by decide)
              generalize e468 : x_up h458 76 (1153 + 2 * u455) 2147483648 = h466 at j467 f469 ⊢
              refine x_aload (np := 35) (x := 0) (by decide +kernel) rfl (x_nc_le (by decide)) ?_
              refine x_dup (np := 36) (x := 0) (by decide +kernel) (by have z := x_nc_le (k := 75) (by decide); unfold x_r; omega) ?_
              have q470 : h466 75 13 = h458 75 13 := by rw [← e468]; exact x_up_k (by decide)
              have q471 : h458 75 13 = h425 75 13 := by rw [← e460]; exact x_up_k (by decide)
              refine x_getC (np := 39) (x := 717) (f := 13) (q := (h425 75 13)) (by decide +kernel) (by decide) (by decide +kernel) (q470.trans q471) (fun l472 => ?_)
              refine x_const (np := 40) (x := 9223372043297226753) (a := 2147483649) (by decide +kernel) (by decide) (by decide) ?_
              refine x_iadd (np := 41) (x := 0) (v := (1 + (h425 75 13))) (by decide +kernel) l454 (by decide) (by first | decide | omega) (by first | decide | omega) ?_
              refine x_putI (np := 44) (x := 717) (f := 13) (by decide +kernel) (by decide +kernel) (by first | decide | omega) (Or.inl (by decide)) ?_
              have j474 := jU (e := 13) (v := (1 + (h425 75 13))) 0 j467 rg_75_13_0_1 (by first | decide | omega) (by first | decide | omega) (by first | decide | omega)
              have f476 := jF (e := 13) (v := (1 + (h425 75 13))) 0 f469 rg_75_13_0_1 (by first | decide | omega) (by first | decide | omega) (by decide)
              generalize e475 : x_up h466 75 13 (1 + (h425 75 13)) = h473 at j474 f476 ⊢
              refine x_retV (np := 45) (x := 0) (by decide +kernel) (by decide +kernel) ⟨rfl, ?_⟩
              have q477 : h473 75 13 = (1 + (h425 75 13)) := by rw [← e475]; exact x_up_at
              refine x_const (np := 207) (x := 9223372043297226753) (a := 2147483649) (by decide +kernel) (by decide) (by decide) ?_
              have q478 : h473 75 13 = (1 + (h425 75 13)) := by rw [← e475]; exact x_up_at
              have q479 : h473 75 7 = h466 75 7 := by rw [← e475]; exact x_up_i (by first | decide | omega)
              have q480 : h466 75 7 = h458 75 7 := by rw [← e468]; exact x_up_k (by decide)
              have q481 : h458 75 7 = h425 75 7 := by rw [← e460]; exact x_up_k (by decide)
              have q482 : h473 75 10 = h466 75 10 := by rw [← e475]; exact x_up_i (by first | decide | omega)
              have q483 : h466 75 10 = h458 75 10 := by rw [← e468]; exact x_up_k (by decide)
              have q484 : h458 75 10 = h425 75 10 := by rw [← e460]; exact x_up_k (by decide)
              have q485 : h425 75 10 = h358 75 10 := jK 0 f427 rg_75_10_0_1 (by first | decide | omega) (by first | decide | omega) (by decide)
              have q486 : h358 75 10 = h183 75 10 := jK 0 f360 rg_75_10_0_1 (by first | decide | omega) (by first | decide | omega) (by decide)
              have q487 : h183 75 10 = h147 75 10 := jK 0 f185 rg_75_10_0_1 (by first | decide | omega) (by first | decide | omega) (by decide)
              have q488 : h147 75 10 = h127 75 10 := jK 0 f149 rg_75_10_0_1 (by first | decide | omega) (by first | decide | omega) (by decide)
              have q489 : h127 75 10 = h39 75 10 := jK 0 f129 rg_75_10_0_1 (by first | decide | omega) (by first | decide | omega) (by decide)
              have q490 : h39 75 10 = h23 75 10 := jK 0 f41 rg_75_10_0_1 (by first | decide | omega) (by first | decide | omega) (by decide)
              have q491 : h23 75 10 = h7 75 10 := jK 0 f25 rg_75_10_0_1 (by first | decide | omega) (by first | decide | omega) (by decide)
              have q492 : h7 75 10 = h 75 10 := jK 0 f9 rg_75_10_0_1 (by first | decide | omega) (by first | decide | omega) (by decide)
              have q493 : h473 75 7 = h466 75 7 := by rw [← e475]; exact x_up_i (by first | decide | omega)
              have q494 : h466 75 7 = h458 75 7 := by rw [← e468]; exact x_up_k (by decide)
              have q495 : h458 75 7 = h425 75 7 := by rw [← e460]; exact x_up_k (by decide)
              have q496 : h473 75 13 = (1 + (h425 75 13)) := by rw [← e475]; exact x_up_at
              have k507 : Kp h h7 (h 75 13 - 2147483648) := Kp.fr Kp.refl f9 (by first | decide | omega) (by decide)
              have k506 : Kp h h23 (h 75 13 - 2147483648) := Kp.fr k507 f25 (by first | decide | omega) (by decide)
              have k505 : Kp h h39 (h 75 13 - 2147483648) := Kp.fr k506 f41 (by first | decide | omega) (by decide)
              have k504 : Kp h h127 (h 75 13 - 2147483648) := Kp.fr k505 f129 (by first | decide | omega) (by decide)
              have q508 : h127 75 13 = h39 75 13 := jK 0 f129 rg_75_13_0_1 (by first | decide | omega) (by first | decide | omega) (by decide)
              have q509 : h39 75 13 = h23 75 13 := jK 0 f41 rg_75_13_0_1 (by first | decide | omega) (by first | decide | omega) (by decide)
              have q510 : h23 75 13 = h7 75 13 := jK 0 f25 rg_75_13_0_1 (by first | decide | omega) (by first | decide | omega) (by decide)
              have q511 : h7 75 13 = h 75 13 := jK 0 f9 rg_75_13_0_1 (by first | decide | omega) (by first | decide | omega) (by decide)
              have k503 : Kp h h147 (h 75 13 - 2147483648) := Kp.trans k504 c154 (by first | decide | omega)
              have k502 : Kp h h183 (h 75 13 - 2147483648) := Kp.fr k503 f185 (by first | decide | omega) (by decide)
              have k501 : Kp h h358 (h 75 13 - 2147483648) := Kp.fr k502 f360 (by first | decide | omega) (by decide)
              have q512 : h358 75 13 = h183 75 13 := jK 0 f360 rg_75_13_0_1 (by first | decide | omega) (by first | decide | omega) (by decide)
              have q513 : h183 75 13 = h147 75 13 := jK 0 f185 rg_75_13_0_1 (by first | decide | omega) (by first | decide | omega) (by decide)
              have k500 : Kp h h425 (h 75 13 - 2147483648) := Kp.trans k501 c432 (by first | decide | omega)
              have k499 : Kp h h458 (h 75 13 - 2147483648) := by rw [← e460]; exact Kp.up k500 (by first | decide | omega) (fun i hi => by first | decide | omega)
              have k498 : Kp h h466 (h 75 13 - 2147483648) := by rw [← e468]; exact Kp.up k499 (by first | decide | omega) (fun i hi => by first | decide | omega)
              have k497 : Kp h h473 (h 75 13 - 2147483648) := by rw [← e475]; exact Kp.oth k498 (by decide)
              have q514 : h473 75 13 = (1 + (h425 75 13)) := by rw [← e475]; exact x_up_at
              have q516 : h473 76 (1152 + 2 * u455) = h466 76 (1152 + 2 * u455) := by rw [← e475]; exact x_up_k (by decide)
              have q517 : h466 76 (1152 + 2 * u455) = h458 76 (1152 + 2 * u455) := by rw [← e468]; exact x_up_i (by first | decide | omega)
              have q518 : h458 76 (1152 + 2 * u455) = 2147483659 := by rw [← e460]; exact x_up_at
              have k524 : Kp h147 h183 (h147 75 13 - 2147483648) := Kp.fr Kp.refl f185 (by first | decide | omega) (by decide)
              have k523 : Kp h147 h358 (h147 75 13 - 2147483648) := Kp.fr k524 f360 (by first | decide | omega) (by decide)
              have q525 : h358 75 13 = h183 75 13 := jK 0 f360 rg_75_13_0_1 (by first | decide | omega) (by first | decide | omega) (by decide)
              have q526 : h183 75 13 = h147 75 13 := jK 0 f185 rg_75_13_0_1 (by first | decide | omega) (by first | decide | omega) (by decide)
              have k522 : Kp h147 h425 (h147 75 13 - 2147483648) := Kp.trans k523 c432 (by first | decide | omega)
              have k521 : Kp h147 h458 (h147 75 13 - 2147483648) := by rw [← e460]; exact Kp.up k522 (by first | decide | omega) (fun i hi => by first | decide | omega)
              have k520 : Kp h147 h466 (h147 75 13 - 2147483648) := by rw [← e468]; exact Kp.up k521 (by first | decide | omega) (fun i hi => by first | decide | omega)
              have k519 : Kp h147 h473 (h147 75 13 - 2147483648) := by rw [← e475]; exact Kp.oth k520 (by decide)
              have k529 : Kp h425 h458 (h425 75 13 - 2147483648) := by rw [← e460]; exact Kp.up Kp.refl (by first | decide | omega) (fun i hi => by first | decide | omega)
              have k528 : Kp h425 h466 (h425 75 13 - 2147483648) := by rw [← e468]; exact Kp.up k529 (by first | decide | omega) (fun i hi => by first | decide | omega)
              have k527 : Kp h425 h473 (h425 75 13 - 2147483648) := by rw [← e475]; exact Kp.oth k528 (by decide)
              have s515 : Seg (sg h473) (h127 75 13 - 2147483648) (u455 + 1) := Seg.bin (Seg.kp s174 k519) (Seg.cast (a' := (h147 75 13 - 2147483648)) (b' := u455) (Seg.kp s448 k527) (by first | decide | omega) (by first | decide | omega)) (show 2147483656 < h473 76 (1152 + 2 * u455) by first | decide | omega) (show h473 76 (1152 + 2 * u455) ≠ 2147483660 by first | decide | omega)
              have s530 : Seg (sg h473) (h 75 13 - 2147483648) (h473 75 13 - 2147483648) := Seg.cast (Seg.kp s515 Kp.refl) (by first | decide | omega) (by first | decide | omega)
              obtain ⟨w531, e532⟩ := Tk.no c13 (by first | decide | omega)
              obtain ⟨w533, e534⟩ := Tk.no c29 (by first | decide | omega)
              obtain ⟨w535, e536⟩ := Tk.no c45 (by first | decide | omega)
              obtain ⟨w537, e538⟩ := Tk.no c133 (by first | decide | omega)
              have w539 : An tB tN (sk tB tN (h 75 7)) := gA_an w533 e532 w531 rfl w535 (Eq.trans e534 e532) w537 (Eq.trans e536 (Eq.trans e534 e532))
              obtain ⟨w540, e541⟩ := Tk.no c189 (by first | decide | omega)
              obtain ⟨w542, e543⟩ := Tk.yes c364 (by first | decide | omega)
              have q544 : h473 75 7 = h466 75 7 := by rw [← e475]; exact x_up_i (by first | decide | omega)
              have q545 : h466 75 7 = h458 75 7 := by rw [← e468]; exact x_up_k (by decide)
              have q546 : h458 75 7 = h425 75 7 := by rw [← e460]; exact x_up_k (by decide)
              refine x_retI (np := 208) (x := 0) (by decide +kernel) (by decide) (Or.inr ⟨by decide +kernel, by first | decide | omega, by first | decide | omega⟩) ⟨_, rfl, (by decide), ?_⟩
              exact ⟨j474, f476, (by first | decide | omega), (fun z => by first | decide | omega), (fun z => by first | decide | omega), (fun z => by first | decide | omega), (fun z => by first | decide | omega), k497, (fun _ => s530), (gA_c2 w539 (c156 4) (Eq.trans e538 (Eq.trans e536 (Eq.trans e534 e532))) (by first | decide | omega) (Or.inr w542) (Eq.trans rfl (Eq.trans e541 rfl)) e543 (c434 4) rfl (by first | decide | omega) (fun z => (congrArg (sk tB tN) (show h425 75 7 = h473 75 7 by first | decide | omega)))), (fun z => absurd z (by first | decide | omega))⟩
            have q452 : ¬ (v179 = 2147483648) := q452
            exfalso; omega
          have q444 : ¬ (v421 ≠ 2147483648) := q444
          refine x_const (np := 189) (x := 9223372039002259456) (a := 2147483648) (by decide +kernel) (by decide) (by decide) ?_
          have q547 : h425 75 10 = h358 75 10 := jK 0 f427 rg_75_10_0_1 (by first | decide | omega) (by first | decide | omega) (by decide)
          have q548 : h358 75 10 = h183 75 10 := jK 0 f360 rg_75_10_0_1 (by first | decide | omega) (by first | decide | omega) (by decide)
          have q549 : h183 75 10 = h147 75 10 := jK 0 f185 rg_75_10_0_1 (by first | decide | omega) (by first | decide | omega) (by decide)
          have q550 : h147 75 10 = h127 75 10 := jK 0 f149 rg_75_10_0_1 (by first | decide | omega) (by first | decide | omega) (by decide)
          have q551 : h127 75 10 = h39 75 10 := jK 0 f129 rg_75_10_0_1 (by first | decide | omega) (by first | decide | omega) (by decide)
          have q552 : h39 75 10 = h23 75 10 := jK 0 f41 rg_75_10_0_1 (by first | decide | omega) (by first | decide | omega) (by decide)
          have q553 : h23 75 10 = h7 75 10 := jK 0 f25 rg_75_10_0_1 (by first | decide | omega) (by first | decide | omega) (by decide)
          have q554 : h7 75 10 = h 75 10 := jK 0 f9 rg_75_10_0_1 (by first | decide | omega) (by first | decide | omega) (by decide)
          have k562 : Kp h h7 (h 75 13 - 2147483648) := Kp.fr Kp.refl f9 (by first | decide | omega) (by decide)
          have k561 : Kp h h23 (h 75 13 - 2147483648) := Kp.fr k562 f25 (by first | decide | omega) (by decide)
          have k560 : Kp h h39 (h 75 13 - 2147483648) := Kp.fr k561 f41 (by first | decide | omega) (by decide)
          have k559 : Kp h h127 (h 75 13 - 2147483648) := Kp.fr k560 f129 (by first | decide | omega) (by decide)
          have q563 : h127 75 13 = h39 75 13 := jK 0 f129 rg_75_13_0_1 (by first | decide | omega) (by first | decide | omega) (by decide)
          have q564 : h39 75 13 = h23 75 13 := jK 0 f41 rg_75_13_0_1 (by first | decide | omega) (by first | decide | omega) (by decide)
          have q565 : h23 75 13 = h7 75 13 := jK 0 f25 rg_75_13_0_1 (by first | decide | omega) (by first | decide | omega) (by decide)
          have q566 : h7 75 13 = h 75 13 := jK 0 f9 rg_75_13_0_1 (by first | decide | omega) (by first | decide | omega) (by decide)
          have k558 : Kp h h147 (h 75 13 - 2147483648) := Kp.trans k559 c154 (by first | decide | omega)
          have k557 : Kp h h183 (h 75 13 - 2147483648) := Kp.fr k558 f185 (by first | decide | omega) (by decide)
          have k556 : Kp h h358 (h 75 13 - 2147483648) := Kp.fr k557 f360 (by first | decide | omega) (by decide)
          have q567 : h358 75 13 = h183 75 13 := jK 0 f360 rg_75_13_0_1 (by first | decide | omega) (by first | decide | omega) (by decide)
          have q568 : h183 75 13 = h147 75 13 := jK 0 f185 rg_75_13_0_1 (by first | decide | omega) (by first | decide | omega) (by decide)
          have k555 : Kp h h425 (h 75 13 - 2147483648) := Kp.trans k556 c432 (by first | decide | omega)
          obtain ⟨w569, e570⟩ := Tk.no c13 (by first | decide | omega)
          obtain ⟨w571, e572⟩ := Tk.no c29 (by first | decide | omega)
          obtain ⟨w573, e574⟩ := Tk.no c45 (by first | decide | omega)
          obtain ⟨w575, e576⟩ := Tk.no c133 (by first | decide | omega)
          have w577 : An tB tN (sk tB tN (h 75 7)) := gA_an w571 e570 w569 rfl w573 (Eq.trans e572 e570) w575 (Eq.trans e574 (Eq.trans e572 e570))
          obtain ⟨w578, e579⟩ := Tk.no c189 (by first | decide | omega)
          obtain ⟨w580, e581⟩ := Tk.yes c364 (by first | decide | omega)
          obtain ⟨w582, e583⟩ := Tk.no c13 (by first | decide | omega)
          obtain ⟨w584, e585⟩ := Tk.no c29 (by first | decide | omega)
          obtain ⟨w586, e587⟩ := Tk.no c45 (by first | decide | omega)
          obtain ⟨w588, e589⟩ := Tk.no c133 (by first | decide | omega)
          have w590 : An tB tN (sk tB tN (h 75 7)) := gA_an w584 e583 w582 rfl w586 (Eq.trans e585 e583) w588 (Eq.trans e587 (Eq.trans e585 e583))
          obtain ⟨w591, e592⟩ := Tk.no c189 (by first | decide | omega)
          obtain ⟨w593, e594⟩ := Tk.yes c364 (by first | decide | omega)
          refine x_retI (np := 190) (x := 0) (by decide +kernel) (by decide) (Or.inr ⟨by decide +kernel, by first | decide | omega, by first | decide | omega⟩) ⟨_, rfl, (by decide), ?_⟩
          exact ⟨j426, f436, (by first | decide | omega), (fun z => by first | decide | omega), (fun z => by first | decide | omega), (fun z => by first | decide | omega), (fun z => by first | decide | omega), k555, (fun z => absurd z (by first | decide | omega)), (gA_c2 w577 (c156 4) (Eq.trans e576 (Eq.trans e574 (Eq.trans e572 e570))) (by first | decide | omega) (Or.inr w580) (Eq.trans rfl (Eq.trans e579 rfl)) e581 (c434 4) rfl (by first | decide | omega) (fun z => absurd z (by first | decide | omega))), (fun _ => fA_c2 w590 (c156 4) (Eq.trans e589 (Eq.trans e587 (Eq.trans e585 e583))) (by first | decide | omega) (Or.inr w593) (Eq.trans rfl (Eq.trans e592 rfl)) e594 (c435 (by first | decide | omega) 4) rfl rfl)⟩
        have q170 : ¬ (v143 ≠ 2147483648) := q170
        refine x_const (np := 160) (x := 9223372039002259456) (a := 2147483648) (by decide +kernel) (by decide) (by decide) ?_
        have q595 : h147 75 10 = h127 75 10 := jK 0 f149 rg_75_10_0_1 (by first | decide | omega) (by first | decide | omega) (by decide)
        have q596 : h127 75 10 = h39 75 10 := jK 0 f129 rg_75_10_0_1 (by first | decide | omega) (by first | decide | omega) (by decide)
        have q597 : h39 75 10 = h23 75 10 := jK 0 f41 rg_75_10_0_1 (by first | decide | omega) (by first | decide | omega) (by decide)
        have q598 : h23 75 10 = h7 75 10 := jK 0 f25 rg_75_10_0_1 (by first | decide | omega) (by first | decide | omega) (by decide)
        have q599 : h7 75 10 = h 75 10 := jK 0 f9 rg_75_10_0_1 (by first | decide | omega) (by first | decide | omega) (by decide)
        have k604 : Kp h h7 (h 75 13 - 2147483648) := Kp.fr Kp.refl f9 (by first | decide | omega) (by decide)
        have k603 : Kp h h23 (h 75 13 - 2147483648) := Kp.fr k604 f25 (by first | decide | omega) (by decide)
        have k602 : Kp h h39 (h 75 13 - 2147483648) := Kp.fr k603 f41 (by first | decide | omega) (by decide)
        have k601 : Kp h h127 (h 75 13 - 2147483648) := Kp.fr k602 f129 (by first | decide | omega) (by decide)
        have q605 : h127 75 13 = h39 75 13 := jK 0 f129 rg_75_13_0_1 (by first | decide | omega) (by first | decide | omega) (by decide)
        have q606 : h39 75 13 = h23 75 13 := jK 0 f41 rg_75_13_0_1 (by first | decide | omega) (by first | decide | omega) (by decide)
        have q607 : h23 75 13 = h7 75 13 := jK 0 f25 rg_75_13_0_1 (by first | decide | omega) (by first | decide | omega) (by decide)
        have q608 : h7 75 13 = h 75 13 := jK 0 f9 rg_75_13_0_1 (by first | decide | omega) (by first | decide | omega) (by decide)
        have k600 : Kp h h147 (h 75 13 - 2147483648) := Kp.trans k601 c154 (by first | decide | omega)
        obtain ⟨w609, e610⟩ := Tk.no c13 (by first | decide | omega)
        obtain ⟨w611, e612⟩ := Tk.no c29 (by first | decide | omega)
        obtain ⟨w613, e614⟩ := Tk.no c45 (by first | decide | omega)
        obtain ⟨w615, e616⟩ := Tk.no c133 (by first | decide | omega)
        have w617 : An tB tN (sk tB tN (h 75 7)) := gA_an w611 e610 w609 rfl w613 (Eq.trans e612 e610) w615 (Eq.trans e614 (Eq.trans e612 e610))
        obtain ⟨w618, e619⟩ := Tk.no c13 (by first | decide | omega)
        obtain ⟨w620, e621⟩ := Tk.no c29 (by first | decide | omega)
        obtain ⟨w622, e623⟩ := Tk.no c45 (by first | decide | omega)
        obtain ⟨w624, e625⟩ := Tk.no c133 (by first | decide | omega)
        have w626 : An tB tN (sk tB tN (h 75 7)) := gA_an w620 e619 w618 rfl w622 (Eq.trans e621 e619) w624 (Eq.trans e623 (Eq.trans e621 e619))
        refine x_retI (np := 161) (x := 0) (by decide +kernel) (by decide) (Or.inr ⟨by decide +kernel, by first | decide | omega, by first | decide | omega⟩) ⟨_, rfl, (by decide), ?_⟩
        exact ⟨j148, f158, (by first | decide | omega), (fun z => by first | decide | omega), (fun z => by first | decide | omega), (fun z => by first | decide | omega), (fun z => by first | decide | omega), k600, (fun z => absurd z (by first | decide | omega)), (gA_c0 w617 (c156 4) (Eq.trans e616 (Eq.trans e614 (Eq.trans e612 e610))) (by first | decide | omega) (by first | decide | omega)), (fun _ => fA_c0 w626 (c157 (by first | decide | omega) 4) (Eq.trans e625 (Eq.trans e623 (Eq.trans e621 e619))) rfl)⟩
      have q138 : ¬ (v123 = 2147483648) := q138
      have b627 := c132 (by first | decide | omega)
      refine x_aload (np := 135) (x := 0) (by decide +kernel) rfl (x_nc_le (by decide)) ?_
      refine x_iload (np := 136) (x := 1) (by decide +kernel) rfl l36 ?_
      refine x_ifz (k := 0) (tg := 144) (np := 139) (by decide +kernel) (by decide) l36 (fun q628 => ?_) (fun q629 => ?_)
      · have q628 : v35 = 2147483648 := q628
        refine x_const (np := 146) (x := 9223372069067030535) (a := 2147483655) (by decide +kernel) (by decide) (by decide) ?_
        refine x_const (np := 147) (x := 9223372039002259456) (a := 2147483648) (by decide +kernel) (by decide) (by decide) ?_
        refine x_nV (t := 6) (mj := 187) (n := 3) (rc := 12) (ml := 3) (nr := 0) (np := 150) (as := [x_r 75, iv_c 2147483655, iv_c 2147483648]) (rest := []) (lo1 := [x_r 75, iv_c 2147483655, iv_c 2147483648]) (by decide +kernel) (by decide) (by decide +kernel) (x_rb_of (by decide +kernel)) rfl rfl (x_wr (by decide) (x_wi (by decide) (x_wi (by decide) x_wn))) x_wn (by decide) rfl ?_
        refine x_aload (np := 1) (x := 0) (by decide +kernel) rfl (x_nc_le (by decide)) ?_
        have q630 : h127 75 1 = 76 := by have z := jB (e := 1) 0 j128 rg_75_1_0_1 (by decide) (by decide); omega
        refine x_getR (np := 4) (x := 705) (f := 1) (q := 76) (by decide +kernel) (by decide) (by decide +kernel) q630 ?_
        refine x_const (np := 7) (x := 9223376986804585600) (a := 2147484800) (by decide +kernel) (by decide) (by decide) ?_
        refine x_const (np := 8) (x := 9223372047592194050) (a := 2147483650) (by decide +kernel) (by decide) (by decide) ?_
        refine x_aload (np := 9) (x := 0) (by decide +kernel) rfl (x_nc_le (by decide)) ?_
        have q631 : h127 75 13 = h39 75 13 := jK 0 f129 rg_75_13_0_1 (by first | decide | omega) (by first | decide | omega) (by decide)
        have q632 : h39 75 13 = h23 75 13 := jK 0 f41 rg_75_13_0_1 (by first | decide | omega) (by first | decide | omega) (by decide)
        have q633 : h23 75 13 = h7 75 13 := jK 0 f25 rg_75_13_0_1 (by first | decide | omega) (by first | decide | omega) (by decide)
        have q634 : h7 75 13 = h 75 13 := jK 0 f9 rg_75_13_0_1 (by first | decide | omega) (by first | decide | omega) (by decide)
        refine x_getC (np := 12) (x := 717) (f := 13) (q := (h 75 13)) (by decide +kernel) (by decide) (by decide +kernel) (((q631.trans q632).trans q633).trans q634) (fun l635 => ?_)
        obtain ⟨u636, q637⟩ : ∃ z, (h 75 13) = 2147483648 + z := ⟨(h 75 13) - 2147483648, by first | decide | omega⟩
        refine x_imul (np := 13) (x := 0) (i := 2) (j := u636) (v := (2147483648 + 2 * u636)) (by decide +kernel) (by first | decide | omega) (by first | decide | omega) (by first | decide | omega) (by first | decide | omega) (by decide) l635 ?_
        refine x_iadd (np := 14) (x := 0) (v := (2147484800 + 2 * u636)) (by decide +kernel) (by decide) (by first | decide | omega) (by first | decide | omega) (by first | decide | omega) ?_
        refine x_iload (np := 15) (x := 1) (by decide +kernel) rfl (by decide) ?_
        refine x_ast (np := 16) (x := 0) (kd := 1) (n := 1952) (i := (1152 + 2 * u636)) (by decide +kernel) (Or.inl rfl) (by decide +kernel) (by first | decide | omega) (by first | decide | omega) (by decide) (by decide) (fun z => absurd z (by decide)) ?_
        have j640 := jU (e := (1152 + 2 * u636)) (v := 2147483655) u636 j128 rg_76_1152_2_394 (by first | decide | omega) (by first | decide | omega) (by first | decide | omega)
        have f642 := jF (e := (1152 + 2 * u636)) (v := 2147483655) u636 f135 rg_76_1152_2_394 (by first | decide | omega) (by first | decide | omega) (by decide)
        generalize e641 : x_up h127 76 (1152 + 2 * u636) 2147483655 = h639 at j640 f642 ⊢
        refine x_aload (np := 17) (x := 0) (by decide +kernel) rfl (x_nc_le (by decide)) ?_
        have q643 : h639 75 1 = 76 := by have z := jB (e := 1) 0 j640 rg_75_1_0_1 (by decide) (by decide); omega
        refine x_getR (np := 20) (x := 705) (f := 1) (q := 76) (by decide +kernel) (by decide) (by decide +kernel) q643 ?_
        refine x_const (np := 23) (x := 9223376986804585600) (a := 2147484800) (by decide +kernel) (by decide) (by decide) ?_
        refine x_const (np := 24) (x := 9223372047592194050) (a := 2147483650) (by decide +kernel) (by decide) (by decide) ?_
        refine x_aload (np := 25) (x := 0) (by decide +kernel) rfl (x_nc_le (by decide)) ?_
        have q644 : h639 75 13 = h127 75 13 := by rw [← e641]; exact x_up_k (by decide)
        have q645 : h127 75 13 = h39 75 13 := jK 0 f129 rg_75_13_0_1 (by first | decide | omega) (by first | decide | omega) (by decide)
        have q646 : h39 75 13 = h23 75 13 := jK 0 f41 rg_75_13_0_1 (by first | decide | omega) (by first | decide | omega) (by decide)
        have q647 : h23 75 13 = h7 75 13 := jK 0 f25 rg_75_13_0_1 (by first | decide | omega) (by first | decide | omega) (by decide)
        have q648 : h7 75 13 = h 75 13 := jK 0 f9 rg_75_13_0_1 (by first | decide | omega) (by first | decide | omega) (by decide)
        refine x_getC (np := 28) (x := 717) (f := 13) (q := (h 75 13)) (by decide +kernel) (by decide) (by decide +kernel) ((((q644.trans q645).trans q646).trans q647).trans q648) (fun l649 => ?_)
        refine x_imul (np := 29) (x := 0) (i := 2) (j := u636) (v := (2147483648 + 2 * u636)) (by decide +kernel) (by first | decide | omega) (by first | decide | omega) (by first | decide | omega) (by first | decide | omega) (by decide) l635 ?_
        refine x_iadd (np := 30) (x := 0) (v := (2147484800 + 2 * u636)) (by decide +kernel) (by decide) (by first | decide | omega) (by first | decide | omega) (by first | decide | omega) ?_
        refine x_const (np := 31) (x := 9223372043297226753) (a := 2147483649) (by decide +kernel) (by decide) (by decide) ?_
        refine x_iadd (np := 32) (x := 0) (v := (2147484801 + 2 * u636)) (by decide +kernel) (by first | decide | omega) (by decide) (by first | decide | omega) (by first | decide | omega) ?_
        refine x_iload (np := 33) (x := 2) (by decide +kernel) rfl (by decide) ?_
        refine x_ast (np := 34) (x := 0) (kd := 1) (n := 1952) (i := (1153 + 2 * u636)) (by decide +kernel) (Or.inl rfl) (by decide +kernel) (by first | decide | omega) (by first | decide | omega) (by decide) (by decide) (fun z => absurd z (by decide)) ?_
        have j652 := jU (e := (1153 + 2 * u636)) (v := 2147483648) u636 j640 rg_76_1153_2_394 (by first | decide | omega) (by first | decide | omega) (by first | decide | omega)
        have f654 := jF (e := (1153 + 2 * u636)) (v := 2147483648) u636 f642 rg_76_1153_2_394 (by first | decide | omega) (by first | decide | omega) (by decide)
        generalize e653 : x_up h639 76 (1153 + 2 * u636) 2147483648 = h651 at j652 f654 ⊢
        refine x_aload (np := 35) (x := 0) (by decide +kernel) rfl (x_nc_le (by decide)) ?_
        refine x_dup (np := 36) (x := 0) (by decide +kernel) (by have z := x_nc_le (k := 75) (by decide); unfold x_r; omega) ?_
        have q655 : h651 75 13 = h639 75 13 := by rw [← e653]; exact x_up_k (by decide)
        have q656 : h639 75 13 = h127 75 13 := by rw [← e641]; exact x_up_k (by decide)
        have q657 : h127 75 13 = h39 75 13 := jK 0 f129 rg_75_13_0_1 (by first | decide | omega) (by first | decide | omega) (by decide)
        have q658 : h39 75 13 = h23 75 13 := jK 0 f41 rg_75_13_0_1 (by first | decide | omega) (by first | decide | omega) (by decide)
        have q659 : h23 75 13 = h7 75 13 := jK 0 f25 rg_75_13_0_1 (by first | decide | omega) (by first | decide | omega) (by decide)
        have q660 : h7 75 13 = h 75 13 := jK 0 f9 rg_75_13_0_1 (by first | decide | omega) (by first | decide | omega) (by decide)
        refine x_getC (np := 39) (x := 717) (f := 13) (q := (h 75 13)) (by decide +kernel) (by decide) (by decide +kernel) (((((q655.trans q656).trans q657).trans q658).trans q659).trans q660) (fun l661 => ?_)
        refine x_const (np := 40) (x := 9223372043297226753) (a := 2147483649) (by decide +kernel) (by decide) (by decide) ?_
        refine x_iadd (np := 41) (x := 0) (v := (1 + (h 75 13))) (by decide +kernel) l635 (by decide) (by first | decide | omega) (by first | decide | omega) ?_
        refine x_putI (np := 44) (x := 717) (f := 13) (by decide +kernel) (by decide +kernel) (by first | decide | omega) (Or.inl (by decide)) ?_
        have j663 := jU (e := 13) (v := (1 + (h 75 13))) 0 j652 rg_75_13_0_1 (by first | decide | omega) (by first | decide | omega) (by first | decide | omega)
        have f665 := jF (e := 13) (v := (1 + (h 75 13))) 0 f654 rg_75_13_0_1 (by first | decide | omega) (by first | decide | omega) (by decide)
        generalize e664 : x_up h651 75 13 (1 + (h 75 13)) = h662 at j663 f665 ⊢
        refine x_retV (np := 45) (x := 0) (by decide +kernel) (by decide +kernel) ⟨rfl, ?_⟩
        have q666 : h662 75 13 = (1 + (h 75 13)) := by rw [← e664]; exact x_up_at
        refine x_const (np := 151) (x := 9223372043297226753) (a := 2147483649) (by decide +kernel) (by decide) (by decide) ?_
        have q667 : h662 75 13 = (1 + (h 75 13)) := by rw [← e664]; exact x_up_at
        have q668 : h662 75 7 = h651 75 7 := by rw [← e664]; exact x_up_i (by first | decide | omega)
        have q669 : h651 75 7 = h639 75 7 := by rw [← e653]; exact x_up_k (by decide)
        have q670 : h639 75 7 = h127 75 7 := by rw [← e641]; exact x_up_k (by decide)
        have q671 : h662 75 10 = h651 75 10 := by rw [← e664]; exact x_up_i (by first | decide | omega)
        have q672 : h651 75 10 = h639 75 10 := by rw [← e653]; exact x_up_k (by decide)
        have q673 : h639 75 10 = h127 75 10 := by rw [← e641]; exact x_up_k (by decide)
        have q674 : h127 75 10 = h39 75 10 := jK 0 f129 rg_75_10_0_1 (by first | decide | omega) (by first | decide | omega) (by decide)
        have q675 : h39 75 10 = h23 75 10 := jK 0 f41 rg_75_10_0_1 (by first | decide | omega) (by first | decide | omega) (by decide)
        have q676 : h23 75 10 = h7 75 10 := jK 0 f25 rg_75_10_0_1 (by first | decide | omega) (by first | decide | omega) (by decide)
        have q677 : h7 75 10 = h 75 10 := jK 0 f9 rg_75_10_0_1 (by first | decide | omega) (by first | decide | omega) (by decide)
        have q678 : h662 75 7 = h651 75 7 := by rw [← e664]; exact x_up_i (by first | decide | omega)
        have q679 : h651 75 7 = h639 75 7 := by rw [← e653]; exact x_up_k (by decide)
        have q680 : h639 75 7 = h127 75 7 := by rw [← e641]; exact x_up_k (by decide)
        have q681 : h662 75 13 = (1 + (h 75 13)) := by rw [← e664]; exact x_up_at
        have k688 : Kp h h7 (h 75 13 - 2147483648) := Kp.fr Kp.refl f9 (by first | decide | omega) (by decide)
        have k687 : Kp h h23 (h 75 13 - 2147483648) := Kp.fr k688 f25 (by first | decide | omega) (by decide)
        have k686 : Kp h h39 (h 75 13 - 2147483648) := Kp.fr k687 f41 (by first | decide | omega) (by decide)
        have k685 : Kp h h127 (h 75 13 - 2147483648) := Kp.fr k686 f129 (by first | decide | omega) (by decide)
        have k684 : Kp h h639 (h 75 13 - 2147483648) := by rw [← e641]; exact Kp.up k685 (by first | decide | omega) (fun i hi => by first | decide | omega)
        have k683 : Kp h h651 (h 75 13 - 2147483648) := by rw [← e653]; exact Kp.up k684 (by first | decide | omega) (fun i hi => by first | decide | omega)
        have k682 : Kp h h662 (h 75 13 - 2147483648) := by rw [← e664]; exact Kp.oth k683 (by decide)
        have q689 : h662 75 13 = (1 + (h 75 13)) := by rw [← e664]; exact x_up_at
        have q691 : h662 76 (1152 + 2 * u636) = h651 76 (1152 + 2 * u636) := by rw [← e664]; exact x_up_k (by decide)
        have q692 : h651 76 (1152 + 2 * u636) = h639 76 (1152 + 2 * u636) := by rw [← e653]; exact x_up_i (by first | decide | omega)
        have q693 : h639 76 (1152 + 2 * u636) = 2147483655 := by rw [← e641]; exact x_up_at
        have s690 : Seg (sg h662) u636 (u636 + 1) := Seg.push (show 2147483648 ≤ h662 76 (1152 + 2 * u636) by first | decide | omega) (show h662 76 (1152 + 2 * u636) ≤ 2147483656 by first | decide | omega)
        have s694 : Seg (sg h662) (h 75 13 - 2147483648) (h662 75 13 - 2147483648) := Seg.cast (Seg.kp s690 Kp.refl) (by first | decide | omega) (by first | decide | omega)
        obtain ⟨w695, e696⟩ := Tk.no c13 (by first | decide | omega)
        obtain ⟨w697, e698⟩ := Tk.no c29 (by first | decide | omega)
        obtain ⟨w699, e700⟩ := Tk.no c45 (by first | decide | omega)
        obtain ⟨w701, e702⟩ := Tk.yes c133 (by first | decide | omega)
        have q703 : h662 75 7 = h651 75 7 := by rw [← e664]; exact x_up_i (by first | decide | omega)
        have q704 : h651 75 7 = h639 75 7 := by rw [← e653]; exact x_up_k (by decide)
        have q705 : h639 75 7 = h127 75 7 := by rw [← e641]; exact x_up_k (by decide)
        refine x_retI (np := 152) (x := 0) (by decide +kernel) (by decide) (Or.inr ⟨by decide +kernel, by first | decide | omega, by first | decide | omega⟩) ⟨_, rfl, (by decide), ?_⟩
        exact ⟨j663, f665, (by first | decide | omega), (fun z => by first | decide | omega), (fun z => by first | decide | omega), (fun z => by first | decide | omega), (fun z => by first | decide | omega), k682, (fun _ => s694), (gA_mine w701 (Eq.trans e700 (Eq.trans e698 e696)) e702 (by first | decide | omega) (congrArg (sk tB tN) (show h127 75 7 = h662 75 7 by first | decide | omega))), (fun z => absurd z (by first | decide | omega))⟩
      have q629 : ¬ (v35 = 2147483648) := q629
      exfalso; omega
    have q34 : ¬ (v19 = 2147483648) := q34
    have b706 := c28 (by first | decide | omega)
    refine x_aload (np := 66) (x := 0) (by decide +kernel) rfl (x_nc_le (by decide)) ?_
    have q707 : h23 75 10 = h7 75 10 := jK 0 f25 rg_75_10_0_1 (by first | decide | omega) (by first | decide | omega) (by decide)
    have q708 : h7 75 10 = h 75 10 := jK 0 f9 rg_75_10_0_1 (by first | decide | omega) (by first | decide | omega) (by decide)
    refine x_getC (np := 69) (x := 714) (f := 10) (q := (h 75 10)) (by decide +kernel) (by decide) (by decide +kernel) (q707.trans q708) (fun l709 => ?_)
    refine x_const (np := 71) (x := 9223372064772063238) (a := 2147483654) (by decide +kernel) (by decide) (by decide) ?_
    refine x_icmp (k := 1) (tg := 76) (np := 74) (by decide +kernel) (by decide) l709 (by decide) (fun q710 => ?_) (fun q711 => ?_)
    · have q710 : (h 75 10) ≠ 2147483654 := q710
      refine x_aload (np := 77) (x := 0) (by decide +kernel) rfl (x_nc_le (by decide)) ?_
      refine x_dup (np := 78) (x := 0) (by decide +kernel) (by have z := x_nc_le (k := 75) (by decide); unfold x_r; omega) ?_
      have q712 : h23 75 10 = h7 75 10 := jK 0 f25 rg_75_10_0_1 (by first | decide | omega) (by first | decide | omega) (by decide)
      have q713 : h7 75 10 = h 75 10 := jK 0 f9 rg_75_10_0_1 (by first | decide | omega) (by first | decide | omega) (by decide)
      refine x_getC (np := 81) (x := 714) (f := 10) (q := (h 75 10)) (by decide +kernel) (by decide) (by decide +kernel) (q712.trans q713) (fun l714 => ?_)
      refine x_const (np := 82) (x := 9223372043297226753) (a := 2147483649) (by decide +kernel) (by decide) (by decide) ?_
      refine x_iadd (np := 83) (x := 0) (v := (1 + (h 75 10))) (by decide +kernel) l709 (by decide) (by first | decide | omega) (by first | decide | omega) ?_
      refine x_putI (np := 86) (x := 714) (f := 10) (by decide +kernel) (by decide +kernel) (by first | decide | omega) (Or.inl (by decide)) ?_
      have j716 := jU (e := 10) (v := (1 + (h 75 10))) 0 j24 rg_75_10_0_1 (by first | decide | omega) (by first | decide | omega) (by first | decide | omega)
      have f718 := jF (e := 10) (v := (1 + (h 75 10))) 0 f31 rg_75_10_0_1 (by first | decide | omega) (by first | decide | omega) (by decide)
      generalize e717 : x_up h23 75 10 (1 + (h 75 10)) = h715 at j716 f718 ⊢
      refine x_aload (np := 87) (x := 0) (by decide +kernel) rfl (x_nc_le (by decide)) ?_
      have q719 : h715 75 10 = (1 + (h 75 10)) := by rw [← e717]; exact x_up_at
      have q720 : h715 75 13 = h23 75 13 := by rw [← e717]; exact x_up_i (by first | decide | omega)
      have q721 : h23 75 13 = h7 75 13 := jK 0 f25 rg_75_13_0_1 (by first | decide | omega) (by first | decide | omega) (by decide)
      have q722 : h7 75 13 = h 75 13 := jK 0 f9 rg_75_13_0_1 (by first | decide | omega) (by first | decide | omega) (by decide)
      have q723 : h715 75 7 = h23 75 7 := by rw [← e717]; exact x_up_i (by first | decide | omega)
      have q724 : h715 75 10 = (1 + (h 75 10)) := by rw [← e717]; exact x_up_at
      have m729 := Tq.fr m22 f25 (by decide) (by decide)
      have m728 : Tq tB tN h715 := by rw [← e717]; exact Tq.oth m729 (by decide) (by decide)
      refine x_cI (t := 6) (mj := 190) (n := 1) (rc := 12) (ml := 3) (nr := 0) (np := 90) (as := [x_r 75]) (rest := []) (lo1 := [x_r 75, 147573952589676412928, 147573952589676412928]) (by decide +kernel) (by decide) (by decide +kernel) (x_rb_of (by decide +kernel)) rfl rfl (x_wr (by decide) x_wn) x_wn (by decide) rfl (c190_75_D5 j716  (by first | decide | omega) (by first | decide | omega) m728) (fun v725 h730 l726 q727 => ?_)
      obtain ⟨j731, f732, b733, c734, c735, c736, c737, c738, c739, c740, c741⟩ := q727
      have f742 := Fr.trans f718 f732 (by decide)
      have q743 : h715 75 13 = h23 75 13 := by rw [← e717]; exact x_up_i (by first | decide | omega)
      have q744 : h23 75 13 = h7 75 13 := jK 0 f25 rg_75_13_0_1 (by first | decide | omega) (by first | decide | omega) (by decide)
      have q745 : h7 75 13 = h 75 13 := jK 0 f9 rg_75_13_0_1 (by first | decide | omega) (by first | decide | omega) (by decide)
      have b746 := jB (e := 13) 0 j731 rg_75_13_0_1 (by first | decide | omega) (by first | decide | omega)
      have q747 : h715 75 7 = h23 75 7 := by rw [← e717]; exact x_up_i (by first | decide | omega)
      have b748 := jB (e := 7) 0 j731 rg_75_7_0_1 (by first | decide | omega) (by first | decide | omega)
      have q749 : h715 75 10 = (1 + (h 75 10)) := by rw [← e717]; exact x_up_at
      have b750 := jB (e := 10) 0 j731 rg_75_10_0_1 (by first | decide | omega) (by first | decide | omega)
      have q751 : h715 75 7 = h23 75 7 := by rw [← e717]; exact x_up_i (by first | decide | omega)
      have q752 : h715 75 13 = h23 75 13 := by rw [← e717]; exact x_up_i (by first | decide | omega)
      have q753 : h23 75 13 = h7 75 13 := jK 0 f25 rg_75_13_0_1 (by first | decide | omega) (by first | decide | omega) (by decide)
      have q754 : h7 75 13 = h 75 13 := jK 0 f9 rg_75_13_0_1 (by first | decide | omega) (by first | decide | omega) (by decide)
      refine x_ifz (k := 1) (tg := 95) (np := 93) (by decide +kernel) (by decide) l726 (fun q755 => ?_) (fun q756 => ?_)
      · have q755 : v725 ≠ 2147483648 := q755
        have b757 := c734 (by first | decide | omega)
        have b758 := c735 (by first | decide | omega)
        have b759 := c736 (by first | decide | omega)
        have b760 := c737 (by first | decide | omega)
        have s761 := c739 (by first | decide | omega)
        have q762 : h715 75 13 = h23 75 13 := by rw [← e717]; exact x_up_i (by first | decide | omega)
        have q763 : h23 75 13 = h7 75 13 := jK 0 f25 rg_75_13_0_1 (by first | decide | omega) (by first | decide | omega) (by decide)
        have q764 : h7 75 13 = h 75 13 := jK 0 f9 rg_75_13_0_1 (by first | decide | omega) (by first | decide | omega) (by decide)
        refine x_aload (np := 96) (x := 0) (by decide +kernel) rfl (x_nc_le (by decide)) ?_
        refine x_dup (np := 97) (x := 0) (by decide +kernel) (by have z := x_nc_le (k := 75) (by decide); unfold x_r; omega) ?_
        refine x_getC (np := 100) (x := 714) (f := 10) (q := (h730 75 10)) (by decide +kernel) (by decide) (by decide +kernel) rfl (fun l765 => ?_)
        refine x_const (np := 101) (x := 9223372043297226753) (a := 2147483649) (by decide +kernel) (by decide) (by decide) ?_
        obtain ⟨v766, q767⟩ : ∃ z, z + 2147483649 = (h730 75 10) + 2147483648 := ⟨(h730 75 10) + 2147483648 - 2147483649, by first | decide | omega⟩
        refine x_isub (np := 102) (x := 0) (v := v766) (by decide +kernel) l765 (by decide) (by first | decide | omega) (by first | decide | omega) ?_
        refine x_putI (np := 105) (x := 714) (f := 10) (by decide +kernel) (by decide +kernel) (by first | decide | omega) (Or.inl (by decide)) ?_
        have j769 := jU (e := 10) (v := v766) 0 j731 rg_75_10_0_1 (by first | decide | omega) (by first | decide | omega) (by first | decide | omega)
        have f771 := jF (e := 10) (v := v766) 0 f742 rg_75_10_0_1 (by first | decide | omega) (by first | decide | omega) (by decide)
        generalize e770 : x_up h730 75 10 v766 = h768 at j769 f771 ⊢
        refine x_aload (np := 106) (x := 0) (by decide +kernel) rfl (x_nc_le (by decide)) ?_
        refine x_const (np := 108) (x := 9223372090541867020) (a := 2147483660) (by decide +kernel) (by decide) (by decide) ?_
        refine x_const (np := 109) (x := 9223372039002259456) (a := 2147483648) (by decide +kernel) (by decide) (by decide) ?_
        refine x_nV (t := 6) (mj := 187) (n := 3) (rc := 12) (ml := 3) (nr := 0) (np := 112) (as := [x_r 75, iv_c 2147483660, iv_c 2147483648]) (rest := []) (lo1 := [x_r 75, iv_c 2147483660, iv_c 2147483648]) (by decide +kernel) (by decide) (by decide +kernel) (x_rb_of (by decide +kernel)) rfl rfl (x_wr (by decide) (x_wi (by decide) (x_wi (by decide) x_wn))) x_wn (by decide) rfl ?_
        refine x_aload (np := 1) (x := 0) (by decide +kernel) rfl (x_nc_le (by decide)) ?_
        have q772 : h768 75 1 = 76 := by have z := jB (e := 1) 0 j769 rg_75_1_0_1 (by decide) (by decide); omega
        refine x_getR (np := 4) (x := 705) (f := 1) (q := 76) (by decide +kernel) (by decide) (by decide +kernel) q772 ?_
        refine x_const (np := 7) (x := 9223376986804585600) (a := 2147484800) (by decide +kernel) (by decide) (by decide) ?_
        refine x_const (np := 8) (x := 9223372047592194050) (a := 2147483650) (by decide +kernel) (by decide) (by decide) ?_
        refine x_aload (np := 9) (x := 0) (by decide +kernel) rfl (x_nc_le (by decide)) ?_
        have q773 : h768 75 13 = h730 75 13 := by rw [← e770]; exact x_up_i (by first | decide | omega)
        refine x_getC (np := 12) (x := 717) (f := 13) (q := (h730 75 13)) (by decide +kernel) (by decide) (by decide +kernel) q773 (fun l774 => ?_)
        obtain ⟨u775, q776⟩ : ∃ z, (h730 75 13) = 2147483648 + z := ⟨(h730 75 13) - 2147483648, by first | decide | omega⟩
        refine x_imul (np := 13) (x := 0) (i := 2) (j := u775) (v := (2147483648 + 2 * u775)) (by decide +kernel) (by first | decide | omega) (by first | decide | omega) (by first | decide | omega) (by first | decide | omega) (by decide) l774 ?_
        refine x_iadd (np := 14) (x := 0) (v := (2147484800 + 2 * u775)) (by decide +kernel) (by decide) (by first | decide | omega) (by first | decide | omega) (by first | decide | omega) ?_
        refine x_iload (np := 15) (x := 1) (by decide +kernel) rfl (by decide) ?_
        refine x_ast (np := 16) (x := 0) (kd := 1) (n := 1952) (i := (1152 + 2 * u775)) (by decide +kernel) (Or.inl rfl) (by decide +kernel) (by first | decide | omega) (by first | decide | omega) (by decide) (by decide) (fun z => absurd z (by decide)) ?_
        have j779 := jU (e := (1152 + 2 * u775)) (v := 2147483660) u775 j769 rg_76_1152_2_394 (by first | decide | omega) (by first | decide | omega) (by first | decide | omega)
        have f781 := jF (e := (1152 + 2 * u775)) (v := 2147483660) u775 f771 rg_76_1152_2_394 (by first | decide | omega) (by first | decide | omega) (by decide)
        generalize e780 : x_up h768 76 (1152 + 2 * u775) 2147483660 = h778 at j779 f781 ⊢
        refine x_aload (np := 17) (x := 0) (by decide +kernel) rfl (x_nc_le (by decide)) ?_
        have q782 : h778 75 1 = 76 := by have z := jB (e := 1) 0 j779 rg_75_1_0_1 (by decide) (by decide); omega
        refine x_getR (np := 20) (x := 705) (f := 1) (q := 76) (by decide +kernel) (by decide) (by decide +kernel) q782 ?_
        refine x_const (np := 23) (x := 9223376986804585600) (a := 2147484800) (by decide +kernel) (by decide) (by decide) ?_
        refine x_const (np := 24) (x := 9223372047592194050) (a := 2147483650) (by decide +kernel) (by decide) (by decide) ?_
        refine x_aload (np := 25) (x := 0) (by decide +kernel) rfl (x_nc_le (by decide)) ?_
        have q783 : h778 75 13 = h768 75 13 := by rw [← e780]; exact x_up_k (by decide)
        have q784 : h768 75 13 = h730 75 13 := by rw [← e770]; exact x_up_i (by first | decide | omega)
        refine x_getC (np := 28) (x := 717) (f := 13) (q := (h730 75 13)) (by decide +kernel) (by decide) (by decide +kernel) (q783.trans q784) (fun l785 => ?_)
        refine x_imul (np := 29) (x := 0) (i := 2) (j := u775) (v := (2147483648 + 2 * u775)) (by decide +kernel) (by first | decide | omega) (by first | decide | omega) (by first | decide | omega) (by first | decide | omega) (by decide) l774 ?_
        refine x_iadd (np := 30) (x := 0) (v := (2147484800 + 2 * u775)) (by decide +kernel) (by decide) (by first | decide | omega) (by first | decide | omega) (by first | decide | omega) ?_
        refine x_const (np := 31) (x := 9223372043297226753) (a := 2147483649) (by decide +kernel) (by decide) (by decide) ?_
        refine x_iadd (np := 32) (x := 0) (v := (2147484801 + 2 * u775)) (by decide +kernel) (by first | decide | omega) (by decide) (by first | decide | omega) (by first | decide | omega) ?_
        refine x_iload (np := 33) (x := 2) (by decide +kernel) rfl (by decide) ?_
        refine x_ast (np := 34) (x := 0) (kd := 1) (n := 1952) (i := (1153 + 2 * u775)) (by decide +kernel) (Or.inl rfl) (by decide +kernel) (by first | decide | omega) (by first | decide | omega) (by decide) (by decide) (fun z => absurd z (by decide)) ?_
        have j788 := jU (e := (1153 + 2 * u775)) (v := 2147483648) u775 j779 rg_76_1153_2_394 (by first | decide | omega) (by first | decide | omega) (by first | decide | omega)
        have f790 := jF (e := (1153 + 2 * u775)) (v := 2147483648) u775 f781 rg_76_1153_2_394 (by first | decide | omega) (by first | decide | omega) (by decide)
        generalize e789 : x_up h778 76 (1153 + 2 * u775) 2147483648 = h787 at j788 f790 ⊢
        refine x_aload (np := 35) (x := 0) (by decide +kernel) rfl (x_nc_le (by decide)) ?_
        refine x_dup (np := 36) (x := 0) (by decide +kernel) (by have z := x_nc_le (k := 75) (by decide); unfold x_r; omega) ?_
        have q791 : h787 75 13 = h778 75 13 := by rw [← e789]; exact x_up_k (by decide)
        have q792 : h778 75 13 = h768 75 13 := by rw [← e780]; exact x_up_k (by decide)
        have q793 : h768 75 13 = h730 75 13 := by rw [← e770]; exact x_up_i (by first | decide | omega)
        refine x_getC (np := 39) (x := 717) (f := 13) (q := (h730 75 13)) (by decide +kernel) (by decide) (by decide +kernel) ((q791.trans q792).trans q793) (fun l794 => ?_)
        refine x_const (np := 40) (x := 9223372043297226753) (a := 2147483649) (by decide +kernel) (by decide) (by decide) ?_
        refine x_iadd (np := 41) (x := 0) (v := (1 + (h730 75 13))) (by decide +kernel) l774 (by decide) (by first | decide | omega) (by first | decide | omega) ?_
        refine x_putI (np := 44) (x := 717) (f := 13) (by decide +kernel) (by decide +kernel) (by first | decide | omega) (Or.inl (by decide)) ?_
        have j796 := jU (e := 13) (v := (1 + (h730 75 13))) 0 j788 rg_75_13_0_1 (by first | decide | omega) (by first | decide | omega) (by first | decide | omega)
        have f798 := jF (e := 13) (v := (1 + (h730 75 13))) 0 f790 rg_75_13_0_1 (by first | decide | omega) (by first | decide | omega) (by decide)
        generalize e797 : x_up h787 75 13 (1 + (h730 75 13)) = h795 at j796 f798 ⊢
        refine x_retV (np := 45) (x := 0) (by decide +kernel) (by decide +kernel) ⟨rfl, ?_⟩
        have q799 : h795 75 13 = (1 + (h730 75 13)) := by rw [← e797]; exact x_up_at
        refine x_const (np := 113) (x := 9223372043297226753) (a := 2147483649) (by decide +kernel) (by decide) (by decide) ?_
        have q800 : h795 75 13 = (1 + (h730 75 13)) := by rw [← e797]; exact x_up_at
        have q801 : h795 75 7 = h787 75 7 := by rw [← e797]; exact x_up_i (by first | decide | omega)
        have q802 : h787 75 7 = h778 75 7 := by rw [← e789]; exact x_up_k (by decide)
        have q803 : h778 75 7 = h768 75 7 := by rw [← e780]; exact x_up_k (by decide)
        have q804 : h768 75 7 = h730 75 7 := by rw [← e770]; exact x_up_i (by first | decide | omega)
        have q805 : h795 75 10 = h787 75 10 := by rw [← e797]; exact x_up_i (by first | decide | omega)
        have q806 : h787 75 10 = h778 75 10 := by rw [← e789]; exact x_up_k (by decide)
        have q807 : h778 75 10 = h768 75 10 := by rw [← e780]; exact x_up_k (by decide)
        have q808 : h768 75 10 = v766 := by rw [← e770]; exact x_up_at
        have q809 : h795 75 7 = h787 75 7 := by rw [← e797]; exact x_up_i (by first | decide | omega)
        have q810 : h787 75 7 = h778 75 7 := by rw [← e789]; exact x_up_k (by decide)
        have q811 : h778 75 7 = h768 75 7 := by rw [← e780]; exact x_up_k (by decide)
        have q812 : h768 75 7 = h730 75 7 := by rw [← e770]; exact x_up_i (by first | decide | omega)
        have q813 : h795 75 13 = (1 + (h730 75 13)) := by rw [← e797]; exact x_up_at
        have k821 : Kp h h7 (h 75 13 - 2147483648) := Kp.fr Kp.refl f9 (by first | decide | omega) (by decide)
        have k820 : Kp h h23 (h 75 13 - 2147483648) := Kp.fr k821 f25 (by first | decide | omega) (by decide)
        have k819 : Kp h h715 (h 75 13 - 2147483648) := by rw [← e717]; exact Kp.oth k820 (by decide)
        have q822 : h715 75 13 = h23 75 13 := by rw [← e717]; exact x_up_i (by first | decide | omega)
        have q823 : h23 75 13 = h7 75 13 := jK 0 f25 rg_75_13_0_1 (by first | decide | omega) (by first | decide | omega) (by decide)
        have q824 : h7 75 13 = h 75 13 := jK 0 f9 rg_75_13_0_1 (by first | decide | omega) (by first | decide | omega) (by decide)
        have k818 : Kp h h730 (h 75 13 - 2147483648) := Kp.trans k819 c738 (by first | decide | omega)
        have k817 : Kp h h768 (h 75 13 - 2147483648) := by rw [← e770]; exact Kp.oth k818 (by decide)
        have k816 : Kp h h778 (h 75 13 - 2147483648) := by rw [← e780]; exact Kp.up k817 (by first | decide | omega) (fun i hi => by first | decide | omega)
        have k815 : Kp h h787 (h 75 13 - 2147483648) := by rw [← e789]; exact Kp.up k816 (by first | decide | omega) (fun i hi => by first | decide | omega)
        have k814 : Kp h h795 (h 75 13 - 2147483648) := by rw [← e797]; exact Kp.oth k815 (by decide)
        have q825 : h795 75 13 = (1 + (h730 75 13)) := by rw [← e797]; exact x_up_at
        have q827 : h795 76 (1152 + 2 * u775) = h787 76 (1152 + 2 * u775) := by rw [← e797]; exact x_up_k (by decide)
        have q828 : h787 76 (1152 + 2 * u775) = h778 76 (1152 + 2 * u775) := by rw [← e789]; exact x_up_i (by first | decide | omega)
        have q829 : h778 76 (1152 + 2 * u775) = 2147483660 := by rw [← e780]; exact x_up_at
        have k833 : Kp h730 h768 (h730 75 13 - 2147483648) := by rw [← e770]; exact Kp.oth Kp.refl (by decide)
        have k832 : Kp h730 h778 (h730 75 13 - 2147483648) := by rw [← e780]; exact Kp.up k833 (by first | decide | omega) (fun i hi => by first | decide | omega)
        have k831 : Kp h730 h787 (h730 75 13 - 2147483648) := by rw [← e789]; exact Kp.up k832 (by first | decide | omega) (fun i hi => by first | decide | omega)
        have k830 : Kp h730 h795 (h730 75 13 - 2147483648) := by rw [← e797]; exact Kp.oth k831 (by decide)
        have s826 : Seg (sg h795) (h715 75 13 - 2147483648) (u775 + 1) := Seg.not (Seg.cast (a' := (h715 75 13 - 2147483648)) (b' := u775) (Seg.kp s761 k830) rfl (by first | decide | omega)) (show h795 76 (1152 + 2 * u775) = 2147483660 by first | decide | omega)
        have s834 : Seg (sg h795) (h 75 13 - 2147483648) (h795 75 13 - 2147483648) := Seg.cast (Seg.kp s826 Kp.refl) (by first | decide | omega) (by first | decide | omega)
        obtain ⟨w835, e836⟩ := Tk.no c13 (by first | decide | omega)
        obtain ⟨w837, e838⟩ := Tk.yes c29 (by first | decide | omega)
        have q839 : h715 75 7 = h23 75 7 := by rw [← e717]; exact x_up_i (by first | decide | omega)
        have q840 : h795 75 7 = h787 75 7 := by rw [← e797]; exact x_up_i (by first | decide | omega)
        have q841 : h787 75 7 = h778 75 7 := by rw [← e789]; exact x_up_k (by decide)
        have q842 : h778 75 7 = h768 75 7 := by rw [← e780]; exact x_up_k (by decide)
        have q843 : h768 75 7 = h730 75 7 := by rw [← e770]; exact x_up_i (by first | decide | omega)
        refine x_retI (np := 114) (x := 0) (by decide +kernel) (by decide) (Or.inr ⟨by decide +kernel, by first | decide | omega, by first | decide | omega⟩) ⟨_, rfl, (by decide), ?_⟩
        exact ⟨j796, f798, (by first | decide | omega), (fun z => by first | decide | omega), (fun z => by first | decide | omega), (fun z => by first | decide | omega), (fun z => by first | decide | omega), k814, (fun _ => s834), (gA_not w837 e836 e838 (by decide) c740 (congrArg (sk tB tN) (show h715 75 7 = h23 75 7 by first | decide | omega)) (by first | decide | omega) (fun z => (congrArg (sk tB tN) (show h730 75 7 = h795 75 7 by first | decide | omega)))), (fun z => absurd z (by first | decide | omega))⟩
      have q756 : ¬ (v725 ≠ 2147483648) := q756
      refine x_const (np := 94) (x := 9223372039002259456) (a := 2147483648) (by decide +kernel) (by decide) (by decide) ?_
      have k847 : Kp h h7 (h 75 13 - 2147483648) := Kp.fr Kp.refl f9 (by first | decide | omega) (by decide)
      have k846 : Kp h h23 (h 75 13 - 2147483648) := Kp.fr k847 f25 (by first | decide | omega) (by decide)
      have k845 : Kp h h715 (h 75 13 - 2147483648) := by rw [← e717]; exact Kp.oth k846 (by decide)
      have q848 : h715 75 13 = h23 75 13 := by rw [← e717]; exact x_up_i (by first | decide | omega)
      have q849 : h23 75 13 = h7 75 13 := jK 0 f25 rg_75_13_0_1 (by first | decide | omega) (by first | decide | omega) (by decide)
      have q850 : h7 75 13 = h 75 13 := jK 0 f9 rg_75_13_0_1 (by first | decide | omega) (by first | decide | omega) (by decide)
      have k844 : Kp h h730 (h 75 13 - 2147483648) := Kp.trans k845 c738 (by first | decide | omega)
      obtain ⟨w851, e852⟩ := Tk.no c13 (by first | decide | omega)
      obtain ⟨w853, e854⟩ := Tk.yes c29 (by first | decide | omega)
      have q855 : h715 75 7 = h23 75 7 := by rw [← e717]; exact x_up_i (by first | decide | omega)
      obtain ⟨w856, e857⟩ := Tk.no c13 (by first | decide | omega)
      obtain ⟨w858, e859⟩ := Tk.yes c29 (by first | decide | omega)
      have q860 : h715 75 7 = h23 75 7 := by rw [← e717]; exact x_up_i (by first | decide | omega)
      refine x_retI (np := 95) (x := 0) (by decide +kernel) (by decide) (Or.inr ⟨by decide +kernel, by first | decide | omega, by first | decide | omega⟩) ⟨_, rfl, (by decide), ?_⟩
      exact ⟨j731, f742, (by first | decide | omega), (fun z => by first | decide | omega), (fun z => by first | decide | omega), (fun z => by first | decide | omega), (fun z => by first | decide | omega), k844, (fun z => absurd z (by first | decide | omega)), (gA_not w853 e852 e854 (by decide) c740 (congrArg (sk tB tN) (show h715 75 7 = h23 75 7 by first | decide | omega)) (by first | decide | omega) (fun z => absurd z (by first | decide | omega))), (fun _ => fA_not w858 e857 e859 (by decide) (c741 (by first | decide | omega)) (congrArg (sk tB tN) (show h715 75 7 = h23 75 7 by first | decide | omega)) rfl)⟩
    have q711 : ¬ ((h 75 10) ≠ 2147483654) := q711
    exfalso; omega
  have q18 : ¬ (v4 = 2147483648) := q18
  have b861 := c12 (by first | decide | omega)
  refine x_aload (np := 10) (x := 0) (by decide +kernel) rfl (x_nc_le (by decide)) ?_
  have q862 : h7 75 10 = h 75 10 := jK 0 f9 rg_75_10_0_1 (by first | decide | omega) (by first | decide | omega) (by decide)
  refine x_getC (np := 13) (x := 714) (f := 10) (q := (h 75 10)) (by decide +kernel) (by decide) (by decide +kernel) q862 (fun l863 => ?_)
  refine x_const (np := 15) (x := 9223372064772063238) (a := 2147483654) (by decide +kernel) (by decide) (by decide) ?_
  refine x_icmp (k := 1) (tg := 20) (np := 18) (by decide +kernel) (by decide) l863 (by decide) (fun q864 => ?_) (fun q865 => ?_)
  · have q864 : (h 75 10) ≠ 2147483654 := q864
    refine x_aload (np := 21) (x := 0) (by decide +kernel) rfl (x_nc_le (by decide)) ?_
    refine x_dup (np := 22) (x := 0) (by decide +kernel) (by have z := x_nc_le (k := 75) (by decide); unfold x_r; omega) ?_
    have q866 : h7 75 10 = h 75 10 := jK 0 f9 rg_75_10_0_1 (by first | decide | omega) (by first | decide | omega) (by decide)
    refine x_getC (np := 25) (x := 714) (f := 10) (q := (h 75 10)) (by decide +kernel) (by decide) (by decide +kernel) q866 (fun l867 => ?_)
    refine x_const (np := 26) (x := 9223372043297226753) (a := 2147483649) (by decide +kernel) (by decide) (by decide) ?_
    refine x_iadd (np := 27) (x := 0) (v := (1 + (h 75 10))) (by decide +kernel) l863 (by decide) (by first | decide | omega) (by first | decide | omega) ?_
    refine x_putI (np := 30) (x := 714) (f := 10) (by decide +kernel) (by decide +kernel) (by first | decide | omega) (Or.inl (by decide)) ?_
    have j869 := jU (e := 10) (v := (1 + (h 75 10))) 0 j8 rg_75_10_0_1 (by first | decide | omega) (by first | decide | omega) (by first | decide | omega)
    have f871 := jF (e := 10) (v := (1 + (h 75 10))) 0 f15 rg_75_10_0_1 (by first | decide | omega) (by first | decide | omega) (by decide)
    generalize e870 : x_up h7 75 10 (1 + (h 75 10)) = h868 at j869 f871 ⊢
    refine x_aload (np := 31) (x := 0) (by decide +kernel) rfl (x_nc_le (by decide)) ?_
    have q872 : h868 75 10 = (1 + (h 75 10)) := by rw [← e870]; exact x_up_at
    have q873 : h868 75 13 = h7 75 13 := by rw [← e870]; exact x_up_i (by first | decide | omega)
    have q874 : h7 75 13 = h 75 13 := jK 0 f9 rg_75_13_0_1 (by first | decide | omega) (by first | decide | omega) (by decide)
    have q875 : h868 75 7 = h7 75 7 := by rw [← e870]; exact x_up_i (by first | decide | omega)
    have q876 : h868 75 10 = (1 + (h 75 10)) := by rw [← e870]; exact x_up_at
    have m881 := Tq.fr hT f9 (by decide) (by decide)
    have m880 : Tq tB tN h868 := by rw [← e870]; exact Tq.oth m881 (by decide) (by decide)
    refine x_cI (t := 6) (mj := 192) (n := 1) (rc := 12) (ml := 1) (nr := 0) (np := 34) (as := [x_r 75]) (rest := []) (lo1 := [x_r 75]) (by decide +kernel) (by decide) (by decide +kernel) (x_rb_of (by decide +kernel)) rfl rfl (x_wr (by decide) x_wn) x_wn (by decide) rfl (c192_75_D5 j869  (by first | decide | omega) (by first | decide | omega) m880) (fun v877 h882 l878 q879 => ?_)
    obtain ⟨j883, f884, b885, c886, c887, c888, c889, c890, c891, c892, c893⟩ := q879
    have f894 := Fr.trans f871 f884 (by decide)
    have q895 : h868 75 13 = h7 75 13 := by rw [← e870]; exact x_up_i (by first | decide | omega)
    have q896 : h7 75 13 = h 75 13 := jK 0 f9 rg_75_13_0_1 (by first | decide | omega) (by first | decide | omega) (by decide)
    have b897 := jB (e := 13) 0 j883 rg_75_13_0_1 (by first | decide | omega) (by first | decide | omega)
    have q898 : h868 75 7 = h7 75 7 := by rw [← e870]; exact x_up_i (by first | decide | omega)
    have b899 := jB (e := 7) 0 j883 rg_75_7_0_1 (by first | decide | omega) (by first | decide | omega)
    have q900 : h868 75 10 = (1 + (h 75 10)) := by rw [← e870]; exact x_up_at
    have b901 := jB (e := 10) 0 j883 rg_75_10_0_1 (by first | decide | omega) (by first | decide | omega)
    have q902 : h868 75 7 = h7 75 7 := by rw [← e870]; exact x_up_i (by first | decide | omega)
    have q903 : h868 75 13 = h7 75 13 := by rw [← e870]; exact x_up_i (by first | decide | omega)
    have q904 : h7 75 13 = h 75 13 := jK 0 f9 rg_75_13_0_1 (by first | decide | omega) (by first | decide | omega) (by decide)
    refine x_ifz (k := 1) (tg := 39) (np := 37) (by decide +kernel) (by decide) l878 (fun q905 => ?_) (fun q906 => ?_)
    · have q905 : v877 ≠ 2147483648 := q905
      have b907 := c886 (by first | decide | omega)
      have b908 := c887 (by first | decide | omega)
      have b909 := c888 (by first | decide | omega)
      have b910 := c889 (by first | decide | omega)
      have s911 := c891 (by first | decide | omega)
      have q912 : h868 75 13 = h7 75 13 := by rw [← e870]; exact x_up_i (by first | decide | omega)
      have q913 : h7 75 13 = h 75 13 := jK 0 f9 rg_75_13_0_1 (by first | decide | omega) (by first | decide | omega) (by decide)
      refine x_aload (np := 40) (x := 0) (by decide +kernel) rfl (x_nc_le (by decide)) ?_
      refine x_dup (np := 41) (x := 0) (by decide +kernel) (by have z := x_nc_le (k := 75) (by decide); unfold x_r; omega) ?_
      refine x_getC (np := 44) (x := 714) (f := 10) (q := (h882 75 10)) (by decide +kernel) (by decide) (by decide +kernel) rfl (fun l914 => ?_)
      refine x_const (np := 45) (x := 9223372043297226753) (a := 2147483649) (by decide +kernel) (by decide) (by decide) ?_
      obtain ⟨v915, q916⟩ : ∃ z, z + 2147483649 = (h882 75 10) + 2147483648 := ⟨(h882 75 10) + 2147483648 - 2147483649, by first | decide | omega⟩
      refine x_isub (np := 46) (x := 0) (v := v915) (by decide +kernel) l914 (by decide) (by first | decide | omega) (by first | decide | omega) ?_
      refine x_putI (np := 49) (x := 714) (f := 10) (by decide +kernel) (by decide +kernel) (by first | decide | omega) (Or.inl (by decide)) ?_
      have j918 := jU (e := 10) (v := v915) 0 j883 rg_75_10_0_1 (by first | decide | omega) (by first | decide | omega) (by first | decide | omega)
      have f920 := jF (e := 10) (v := v915) 0 f894 rg_75_10_0_1 (by first | decide | omega) (by first | decide | omega) (by decide)
      generalize e919 : x_up h882 75 10 v915 = h917 at j918 f920 ⊢
      refine x_aload (np := 50) (x := 0) (by decide +kernel) rfl (x_nc_le (by decide)) ?_
      refine x_const (np := 52) (x := 9223372215095918633) (a := 2147483689) (by decide +kernel) (by decide) (by decide) ?_
      have m925 := Tq.fr m880 f884 (by decide) (by decide)
      have m924 : Tq tB tN h917 := by rw [← e919]; exact Tq.oth m925 (by decide) (by decide)
      refine x_cI (t := 6) (mj := 173) (n := 2) (rc := 12) (ml := 2) (nr := 0) (np := 55) (as := [x_r 75, iv_c 2147483689]) (rest := []) (lo1 := [x_r 75, iv_c 2147483689]) (by decide +kernel) (by decide) (by decide +kernel) (x_rb_of (by decide +kernel)) rfl rfl (x_wr (by decide) (x_wi (by decide) x_wn)) x_wn (by decide) rfl (c173_75 j918  (by first | decide | omega) m924) (fun v921 h926 l922 q923 => ?_)
      obtain ⟨j927, f928, b929, c930, c931, c932, c933⟩ := q923
      have f934 := Fr.trans f920 f928 (by decide)
      have q935 : h917 75 7 = h882 75 7 := by rw [← e919]; exact x_up_i (by first | decide | omega)
      have b936 := jB (e := 7) 0 j927 rg_75_7_0_1 (by first | decide | omega) (by first | decide | omega)
      have q937 : h917 75 7 = h882 75 7 := by rw [← e919]; exact x_up_i (by first | decide | omega)
      have q938 : h926 75 13 = h917 75 13 := jK 0 f928 rg_75_13_0_1 (by first | decide | omega) (by first | decide | omega) (by decide)
      have q939 : h917 75 13 = h882 75 13 := by rw [← e919]; exact x_up_i (by first | decide | omega)
      have q940 : h926 75 10 = h917 75 10 := jK 0 f928 rg_75_10_0_1 (by first | decide | omega) (by first | decide | omega) (by decide)
      have q941 : h917 75 10 = v915 := by rw [← e919]; exact x_up_at
      have q942 : h926 75 13 = h917 75 13 := jK 0 f928 rg_75_13_0_1 (by first | decide | omega) (by first | decide | omega) (by decide)
      have q943 : h917 75 13 = h882 75 13 := by rw [← e919]; exact x_up_i (by first | decide | omega)
      have k948 : Kp h h7 (h 75 13 - 2147483648) := Kp.fr Kp.refl f9 (by first | decide | omega) (by decide)
      have k947 : Kp h h868 (h 75 13 - 2147483648) := by rw [← e870]; exact Kp.oth k948 (by decide)
      have q949 : h868 75 13 = h7 75 13 := by rw [← e870]; exact x_up_i (by first | decide | omega)
      have q950 : h7 75 13 = h 75 13 := jK 0 f9 rg_75_13_0_1 (by first | decide | omega) (by first | decide | omega) (by decide)
      have k946 : Kp h h882 (h 75 13 - 2147483648) := Kp.trans k947 c890 (by first | decide | omega)
      have k945 : Kp h h917 (h 75 13 - 2147483648) := by rw [← e919]; exact Kp.oth k946 (by decide)
      have k944 : Kp h h926 (h 75 13 - 2147483648) := Kp.fr k945 f928 (by first | decide | omega) (by decide)
      have q951 : h926 75 13 = h917 75 13 := jK 0 f928 rg_75_13_0_1 (by first | decide | omega) (by first | decide | omega) (by decide)
      have q952 : h917 75 13 = h882 75 13 := by rw [← e919]; exact x_up_i (by first | decide | omega)
      have k954 : Kp h882 h917 (h882 75 13 - 2147483648) := by rw [← e919]; exact Kp.oth Kp.refl (by decide)
      have k953 : Kp h882 h926 (h882 75 13 - 2147483648) := Kp.fr k954 f928 (by first | decide | omega) (by decide)
      have s955 : Seg (sg h926) (h 75 13 - 2147483648) (h926 75 13 - 2147483648) := Seg.cast (Seg.kp s911 k953) (by first | decide | omega) (by first | decide | omega)
      obtain ⟨w956, e957⟩ := Tk.yes c13 (by first | decide | omega)
      have q958 : h868 75 7 = h7 75 7 := by rw [← e870]; exact x_up_i (by first | decide | omega)
      have q959 : h917 75 7 = h882 75 7 := by rw [← e919]; exact x_up_i (by first | decide | omega)
      obtain ⟨w960, e961⟩ := Tk.yes c13 (by first | decide | omega)
      have q962 : h868 75 7 = h7 75 7 := by rw [← e870]; exact x_up_i (by first | decide | omega)
      have q963 : h917 75 7 = h882 75 7 := by rw [← e919]; exact x_up_i (by first | decide | omega)
      refine x_retI (np := 56) (x := 0) (by decide +kernel) l922 (Or.inr ⟨by decide +kernel, by first | decide | omega, by first | decide | omega⟩) ⟨_, rfl, l922, ?_⟩
      exact ⟨j927, f934, (by first | decide | omega), (fun z => by first | decide | omega), (fun z => by first | decide | omega), (fun z => by first | decide | omega), (fun z => by first | decide | omega), k944, (fun _ => s955), (gA_parT w956 rfl e957 (by decide) c892 (congrArg (sk tB tN) (show h868 75 7 = h7 75 7 by first | decide | omega)) (by first | decide | omega) c932 (congrArg (sk tB tN) (show h917 75 7 = h882 75 7 by first | decide | omega)) (by first | decide | omega) (fun z => rfl)), (fun _ => fA_par1 w960 rfl e961 (by decide) c892 (congrArg (sk tB tN) (show h868 75 7 = h7 75 7 by first | decide | omega)) (by first | decide | omega) (Tk.no c932 (by first | decide | omega)).1 (congrArg (sk tB tN) (show h917 75 7 = h882 75 7 by first | decide | omega)) c933)⟩
    have q906 : ¬ (v877 ≠ 2147483648) := q906
    refine x_const (np := 38) (x := 9223372039002259456) (a := 2147483648) (by decide +kernel) (by decide) (by decide) ?_
    have k966 : Kp h h7 (h 75 13 - 2147483648) := Kp.fr Kp.refl f9 (by first | decide | omega) (by decide)
    have k965 : Kp h h868 (h 75 13 - 2147483648) := by rw [← e870]; exact Kp.oth k966 (by decide)
    have q967 : h868 75 13 = h7 75 13 := by rw [← e870]; exact x_up_i (by first | decide | omega)
    have q968 : h7 75 13 = h 75 13 := jK 0 f9 rg_75_13_0_1 (by first | decide | omega) (by first | decide | omega) (by decide)
    have k964 : Kp h h882 (h 75 13 - 2147483648) := Kp.trans k965 c890 (by first | decide | omega)
    obtain ⟨w969, e970⟩ := Tk.yes c13 (by first | decide | omega)
    have q971 : h868 75 7 = h7 75 7 := by rw [← e870]; exact x_up_i (by first | decide | omega)
    obtain ⟨w972, e973⟩ := Tk.yes c13 (by first | decide | omega)
    have q974 : h868 75 7 = h7 75 7 := by rw [← e870]; exact x_up_i (by first | decide | omega)
    refine x_retI (np := 39) (x := 0) (by decide +kernel) (by decide) (Or.inr ⟨by decide +kernel, by first | decide | omega, by first | decide | omega⟩) ⟨_, rfl, (by decide), ?_⟩
    exact ⟨j883, f894, (by first | decide | omega), (fun z => by first | decide | omega), (fun z => by first | decide | omega), (fun z => by first | decide | omega), (fun z => by first | decide | omega), k964, (fun z => absurd z (by first | decide | omega)), (gA_par0 w969 rfl e970 (by decide) c892 (congrArg (sk tB tN) (show h868 75 7 = h7 75 7 by first | decide | omega)) (by first | decide | omega) (by first | decide | omega)), (fun _ => fA_par0 w972 rfl e973 (by decide) (c893 (by first | decide | omega)) (congrArg (sk tB tN) (show h868 75 7 = h7 75 7 by first | decide | omega)) rfl)⟩
  have q865 : ¬ ((h 75 10) ≠ 2147483654) := q865
  exfalso; omega
set_option maxHeartbeats 0 in
/-- LentNamesModel.readAllOf()Z -/
theorem c191_75_D4 {sc : Nat × Nat} {d  : Nat} {h : xh} {tB : Nat → Nat} {tN : Nat} (hJ : J h) (hr0 : (h 75 13) + 5 ≤ (h 75 7)) (hr1 : (h 75 10) = 2147483652) (hT : Tq tB tN h) : X sc 191 (d + 14) (xI fun r h' => J h' ∧ Fr 97517569 h h' ∧ (2147483648 ≤ r ∧ r ≤ 2147483649) ∧ (r = 2147483649 → h' 75 13 + h 75 7 ≤ h' 75 7 + h 75 13) ∧ (r = 2147483649 → h' 75 10 = h 75 10) ∧ (r = 2147483649 → h 75 7 + 0 ≤ h' 75 7) ∧ (r = 2147483649 → h 75 13 ≤ h' 75 13) ∧ Kp h h' (h 75 13 - 2147483648) ∧ (r = 2147483649 → Seg (sg h') (h 75 13 - 2147483648) (h' 75 13 - 2147483648)) ∧ G tB tN (Kd.seq 1) 4 (sk tB tN (h 75 7)) (rs r (sk tB tN (h' 75 7))) ∧ (r = 2147483648 → GF tB tN (Kd.seq 1) 4 (sk tB tN (h 75 7)) (h' 75 9))) 0 0 0 [x_r 75] [] h := by
  have hF := Fr.refl 97517569 h
  have b1 := jB (e := 13) 0 hJ rg_75_13_0_1 (by first | decide | omega) (by first | decide | omega)
  have b2 := jB (e := 7) 0 hJ rg_75_7_0_1 (by first | decide | omega) (by first | decide | omega)
  have b3 := jB (e := 10) 0 hJ rg_75_10_0_1 (by first | decide | omega) (by first | decide | omega)
  refine x_aload (np := 1) (x := 0) (by decide +kernel) rfl (x_nc_le (by decide)) ?_
  refine x_cI (t := 6) (mj := 190) (n := 1) (rc := 12) (ml := 3) (nr := 0) (np := 4) (as := [x_r 75]) (rest := []) (lo1 := [x_r 75, 147573952589676412928, 147573952589676412928]) (by decide +kernel) (by decide) (by decide +kernel) (x_rb_of (by decide +kernel)) rfl rfl (x_wr (by decide) x_wn) x_wn (by decide) rfl (c190_75_D4 hJ  (by first | decide | omega) (by first | decide | omega) hT) (fun v4 h7 l5 q6 => ?_)
  obtain ⟨j8, f9, b10, c11, c12, c13, c14, c15, c16, c17, c18⟩ := q6
  have f19 := Fr.trans hF f9 (by decide)
  have b20 := jB (e := 13) 0 j8 rg_75_13_0_1 (by first | decide | omega) (by first | decide | omega)
  have b21 := jB (e := 7) 0 j8 rg_75_7_0_1 (by first | decide | omega) (by first | decide | omega)
  have b22 := jB (e := 10) 0 j8 rg_75_10_0_1 (by first | decide | omega) (by first | decide | omega)
  refine x_ifz (k := 1) (tg := 9) (np := 7) (by decide +kernel) (by decide) l5 (fun q23 => ?_) (fun q24 => ?_)
  · have q23 : v4 ≠ 2147483648 := q23
    have b25 := c11 (by first | decide | omega)
    have b26 := c12 (by first | decide | omega)
    have b27 := c13 (by first | decide | omega)
    have b28 := c14 (by first | decide | omega)
    have s29 := c16 (by first | decide | omega)
    have p202 : ∀ (n : Nat) (h199 : xh), 4294967296 - h199 75 7 < n → h199 75 13 + h 75 7 ≤ h199 75 7 + h 75 13 → h199 75 10 = h 75 10 → h 75 7 ≤ h199 75 7 → h 75 13 ≤ h199 75 13 → J h199 → Fr 97517569 h7 h199 → Res tB tN (Kd.lp 1) 4 (sk tB tN (h199 75 7)) (Kd.seq 1) 4 (sk tB tN (h 75 7)) → ResF tB tN (Kd.lp 1) 4 (sk tB tN (h199 75 7)) (Kd.seq 1) 4 (sk tB tN (h 75 7)) → Kp h h199 (h 75 13 - 2147483648) → Seg (sg h199) (h 75 13 - 2147483648) (h199 75 13 - 2147483648) → X sc 191 (d + 14) (xI fun r h' => J h' ∧ Fr 97517569 h h' ∧ (2147483648 ≤ r ∧ r ≤ 2147483649) ∧ (r = 2147483649 → h' 75 13 + h 75 7 ≤ h' 75 7 + h 75 13) ∧ (r = 2147483649 → h' 75 10 = h 75 10) ∧ (r = 2147483649 → h 75 7 + 0 ≤ h' 75 7) ∧ (r = 2147483649 → h 75 13 ≤ h' 75 13) ∧ Kp h h' (h 75 13 - 2147483648) ∧ (r = 2147483649 → Seg (sg h') (h 75 13 - 2147483648) (h' 75 13 - 2147483648)) ∧ G tB tN (Kd.seq 1) 4 (sk tB tN (h 75 7)) (rs r (sk tB tN (h' 75 7))) ∧ (r = 2147483648 → GF tB tN (Kd.seq 1) 4 (sk tB tN (h 75 7)) (h' 75 9))) 0 0 9 [x_r 75] [] h199 := by
      intro n
      induction n with
      | zero => intro h199 q211; exact absurd q211 (Nat.not_lt_zero _)
      | succ n i212 =>
        intro h199 q211 b203 b204 b205 b206 j201 f200 m207 m208 m209 m210
        have f213 := Fr.trans f19 f200 (by decide)
        refine x_aload (np := 10) (x := 0) (by decide +kernel) rfl (x_nc_le (by decide)) ?_
        refine x_ldcwB (i := 31) (idx := 257) (tx := "and") (by rw [tb_y191]; exact List.mem_of_getElem? (i := 66) rfl) (by decide) (by rw [tb_b191]; decide +kernel) ?_
        have m218 := Tq.fr hT f9 (by decide) (by decide)
        have m217 := Tq.fr m218 f200 (by decide) (by decide)
        refine x_cI (t := 6) (mj := 171) (n := 2) (rc := 12) (ml := 2) (nr := 0) (np := 16) (as := [x_r 75, x_b (31 + 1)]) (rest := []) (lo1 := [x_r 75, x_b (31 + 1)]) (by decide +kernel) (by decide) (by decide +kernel) (x_rb_of (by decide +kernel)) rfl rfl (x_wr (by decide) (x_wB (by decide) x_wn)) x_wn (by decide) rfl (c171_75_S0 j201  (by decide) m217) (fun v214 h219 l215 q216 => ?_)
        obtain ⟨j220, f221, b222, c223, c224, c225, c226⟩ := q216
        have f227 := Fr.trans f213 f221 (by decide)
        have f228 := Fr.trans f200 f221 (by decide)
        have b229 := jB (e := 7) 0 j201 rg_75_7_0_1 (by first | decide | omega) (by first | decide | omega)
        have b230 := jB (e := 7) 0 j220 rg_75_7_0_1 (by first | decide | omega) (by first | decide | omega)
        refine x_ifz (k := 0) (tg := 38) (np := 19) (by decide +kernel) (by decide) l215 (fun q231 => ?_) (fun q232 => ?_)
        · have q231 : v214 = 2147483648 := q231
          refine x_const (np := 39) (x := 9223372043297226753) (a := 2147483649) (by decide +kernel) (by decide) (by decide) ?_
          have q233 : h219 75 13 = h199 75 13 := jK 0 f221 rg_75_13_0_1 (by first | decide | omega) (by first | decide | omega) (by decide)
          have b234 := jB (e := 13) 0 j201 rg_75_13_0_1 (by first | decide | omega) (by first | decide | omega)
          have q235 : h219 75 10 = h199 75 10 := jK 0 f221 rg_75_10_0_1 (by first | decide | omega) (by first | decide | omega) (by decide)
          have b236 := jB (e := 10) 0 j201 rg_75_10_0_1 (by first | decide | omega) (by first | decide | omega)
          have q237 : h219 75 13 = h199 75 13 := jK 0 f221 rg_75_13_0_1 (by first | decide | omega) (by first | decide | omega) (by decide)
          have k239 : Kp h h199 (h 75 13 - 2147483648) := Kp.less m209 (by first | decide | omega)
          have k238 : Kp h h219 (h 75 13 - 2147483648) := Kp.fr k239 f221 (by first | decide | omega) (by decide)
          have q240 : h219 75 13 = h199 75 13 := jK 0 f221 rg_75_13_0_1 (by first | decide | omega) (by first | decide | omega) (by decide)
          have k241 : Kp h199 h219 (h199 75 13 - 2147483648) := Kp.fr Kp.refl f221 (by first | decide | omega) (by decide)
          have s242 : Seg (sg h219) (h 75 13 - 2147483648) (h219 75 13 - 2147483648) := Seg.cast (Seg.kp m210 k241) (by first | decide | omega) (by first | decide | omega)
          obtain ⟨w243, e244⟩ := Tk.no c225 (by first | decide | omega)
          refine x_retI (np := 40) (x := 0) (by decide +kernel) (by decide) (Or.inr ⟨by decide +kernel, by first | decide | omega, by first | decide | omega⟩) ⟨_, rfl, (by decide), ?_⟩
          exact ⟨j220, f227, (by first | decide | omega), (fun z => by first | decide | omega), (fun z => by first | decide | omega), (fun z => by first | decide | omega), (fun z => by first | decide | omega), k238, (fun _ => s242), (gQ_e (t := 1) m207 w243 rfl (by first | decide | omega) ((Eq.symm e244))), (fun z => absurd z (by first | decide | omega))⟩
        have q232 : ¬ (v214 = 2147483648) := q232
        have b245 := c224 (by first | decide | omega)
        refine x_aload (np := 20) (x := 0) (by decide +kernel) rfl (x_nc_le (by decide)) ?_
        have q246 : h219 75 10 = h199 75 10 := jK 0 f221 rg_75_10_0_1 (by first | decide | omega) (by first | decide | omega) (by decide)
        have b247 := jB (e := 10) 0 j201 rg_75_10_0_1 (by first | decide | omega) (by first | decide | omega)
        have q248 : h219 75 13 = h199 75 13 := jK 0 f221 rg_75_13_0_1 (by first | decide | omega) (by first | decide | omega) (by decide)
        have b249 := jB (e := 13) 0 j201 rg_75_13_0_1 (by first | decide | omega) (by first | decide | omega)
        have q250 : h219 75 10 = h199 75 10 := jK 0 f221 rg_75_10_0_1 (by first | decide | omega) (by first | decide | omega) (by decide)
        have m254 := Tq.fr m217 f221 (by decide) (by decide)
        refine x_cI (t := 6) (mj := 190) (n := 1) (rc := 12) (ml := 3) (nr := 0) (np := 23) (as := [x_r 75]) (rest := []) (lo1 := [x_r 75, 147573952589676412928, 147573952589676412928]) (by decide +kernel) (by decide) (by decide +kernel) (x_rb_of (by decide +kernel)) rfl rfl (x_wr (by decide) x_wn) x_wn (by decide) rfl (c190_75_D4 j220  (by first | decide | omega) (by first | decide | omega) m254) (fun v251 h255 l252 q253 => ?_)
        obtain ⟨j256, f257, b258, c259, c260, c261, c262, c263, c264, c265, c266⟩ := q253
        have f267 := Fr.trans f227 f257 (by decide)
        have f268 := Fr.trans f228 f257 (by decide)
        have q269 : h219 75 13 = h199 75 13 := jK 0 f221 rg_75_13_0_1 (by first | decide | omega) (by first | decide | omega) (by decide)
        have b270 := jB (e := 13) 0 j256 rg_75_13_0_1 (by first | decide | omega) (by first | decide | omega)
        have b271 := jB (e := 7) 0 j256 rg_75_7_0_1 (by first | decide | omega) (by first | decide | omega)
        have q272 : h219 75 10 = h199 75 10 := jK 0 f221 rg_75_10_0_1 (by first | decide | omega) (by first | decide | omega) (by decide)
        have b273 := jB (e := 10) 0 j256 rg_75_10_0_1 (by first | decide | omega) (by first | decide | omega)
        have q274 : h219 75 13 = h199 75 13 := jK 0 f221 rg_75_13_0_1 (by first | decide | omega) (by first | decide | omega) (by decide)
        refine x_ifz (k := 1) (tg := 28) (np := 26) (by decide +kernel) (by decide) l252 (fun q275 => ?_) (fun q276 => ?_)
        · have q275 : v251 ≠ 2147483648 := q275
          have b277 := c259 (by first | decide | omega)
          have b278 := c260 (by first | decide | omega)
          have b279 := c261 (by first | decide | omega)
          have b280 := c262 (by first | decide | omega)
          have s281 := c264 (by first | decide | omega)
          have q282 : h219 75 13 = h199 75 13 := jK 0 f221 rg_75_13_0_1 (by first | decide | omega) (by first | decide | omega) (by decide)
          refine x_aload (np := 29) (x := 0) (by decide +kernel) rfl (x_nc_le (by decide)) ?_
          refine x_const (np := 31) (x := 9223372094836834317) (a := 2147483661) (by decide +kernel) (by decide) (by decide) ?_
          refine x_const (np := 32) (x := 9223372039002259456) (a := 2147483648) (by decide +kernel) (by decide) (by decide) ?_
          refine x_nV (t := 6) (mj := 187) (n := 3) (rc := 12) (ml := 3) (nr := 0) (np := 35) (as := [x_r 75, iv_c 2147483661, iv_c 2147483648]) (rest := []) (lo1 := [x_r 75, iv_c 2147483661, iv_c 2147483648]) (by decide +kernel) (by decide) (by decide +kernel) (x_rb_of (by decide +kernel)) rfl rfl (x_wr (by decide) (x_wi (by decide) (x_wi (by decide) x_wn))) x_wn (by decide) rfl ?_
          refine x_aload (np := 1) (x := 0) (by decide +kernel) rfl (x_nc_le (by decide)) ?_
          have q283 : h255 75 1 = 76 := by have z := jB (e := 1) 0 j256 rg_75_1_0_1 (by decide) (by decide); omega
          refine x_getR (np := 4) (x := 705) (f := 1) (q := 76) (by decide +kernel) (by decide) (by decide +kernel) q283 ?_
          refine x_const (np := 7) (x := 9223376986804585600) (a := 2147484800) (by decide +kernel) (by decide) (by decide) ?_
          refine x_const (np := 8) (x := 9223372047592194050) (a := 2147483650) (by decide +kernel) (by decide) (by decide) ?_
          refine x_aload (np := 9) (x := 0) (by decide +kernel) rfl (x_nc_le (by decide)) ?_
          refine x_getC (np := 12) (x := 717) (f := 13) (q := (h255 75 13)) (by decide +kernel) (by decide) (by decide +kernel) rfl (fun l284 => ?_)
          obtain ⟨u285, q286⟩ : ∃ z, (h255 75 13) = 2147483648 + z := ⟨(h255 75 13) - 2147483648, by first | decide | omega⟩
          refine x_imul (np := 13) (x := 0) (i := 2) (j := u285) (v := (2147483648 + 2 * u285)) (by decide +kernel) (by first | decide | omega) (by first | decide | omega) (by first | decide | omega) (by first | decide | omega) (by decide) l284 ?_
          refine x_iadd (np := 14) (x := 0) (v := (2147484800 + 2 * u285)) (by decide +kernel) (by decide) (by first | decide | omega) (by first | decide | omega) (by first | decide | omega) ?_
          refine x_iload (np := 15) (x := 1) (by decide +kernel) rfl (by decide) ?_
          refine x_ast (np := 16) (x := 0) (kd := 1) (n := 1952) (i := (1152 + 2 * u285)) (by decide +kernel) (Or.inl rfl) (by decide +kernel) (by first | decide | omega) (by first | decide | omega) (by decide) (by decide) (fun z => absurd z (by decide)) ?_
          have j289 := jU (e := (1152 + 2 * u285)) (v := 2147483661) u285 j256 rg_76_1152_2_394 (by first | decide | omega) (by first | decide | omega) (by first | decide | omega)
          have f291 := jF (e := (1152 + 2 * u285)) (v := 2147483661) u285 f267 rg_76_1152_2_394 (by first | decide | omega) (by first | decide | omega) (by decide)
          have f292 := jF (e := (1152 + 2 * u285)) (v := 2147483661) u285 f268 rg_76_1152_2_394 (by first | decide | omega) (by first | decide | omega) (by decide)
          generalize e290 : x_up h255 76 (1152 + 2 * u285) 2147483661 = h288 at j289 f291 f292 ⊢
          refine x_aload (np := 17) (x := 0) (by decide +kernel) rfl (x_nc_le (by decide)) ?_
          have q293 : h288 75 1 = 76 := by have z := jB (e := 1) 0 j289 rg_75_1_0_1 (by decide) (by decide); omega
          refine x_getR (np := 20) (x := 705) (f := 1) (q := 76) (by decide +kernel) (by decide) (by decide +kernel) q293 ?_
          refine x_const (np := 23) (x := 9223376986804585600) (a := 2147484800) (by decide +kernel) (by decide) (by decide) ?_
          refine x_const (np := 24) (x := 9223372047592194050) (a := 2147483650) (by decide +kernel) (by decide) (by decide) ?_
          refine x_aload (np := 25) (x := 0) (by decide +kernel) rfl (x_nc_le (by decide)) ?_
          have q294 : h288 75 13 = h255 75 13 := by rw [← e290]; exact x_up_k (by decide)
          refine x_getC (np := 28) (x := 717) (f := 13) (q := (h255 75 13)) (by decide +kernel) (by decide) (by decide +kernel) q294 (fun l295 => ?_)
          refine x_imul (np := 29) (x := 0) (i := 2) (j := u285) (v := (2147483648 + 2 * u285)) (by decide +kernel) (by first | decide | omega) (by first | decide | omega) (by first | decide | omega) (by first | decide | omega) (by decide) l284 ?_
          refine x_iadd (np := 30) (x := 0) (v := (2147484800 + 2 * u285)) (by decide +kernel) (by decide) (by first | decide | omega) (by first | decide | omega) (by first | decide | omega) ?_
          refine x_const (np := 31) (x := 9223372043297226753) (a := 2147483649) (by decide +kernel) (by decide) (by decide) ?_
          refine x_iadd (np := 32) (x := 0) (v := (2147484801 + 2 * u285)) (by decide +kernel) (by first | decide | omega) (by decide) (by first | decide | omega) (by first | decide | omega) ?_
          refine x_iload (np := 33) (x := 2) (by decide +kernel) rfl (by decide) ?_
          refine x_ast (np := 34) (x := 0) (kd := 1) (n := 1952) (i := (1153 + 2 * u285)) (by decide +kernel) (Or.inl rfl) (by decide +kernel) (by first | decide | omega) (by first | decide | omega) (by decide) (by decide) (fun z => absurd z (by decide)) ?_
          have j298 := jU (e := (1153 + 2 * u285)) (v := 2147483648) u285 j289 rg_76_1153_2_394 (by first | decide | omega) (by first | decide | omega) (by first | decide | omega)
          have f300 := jF (e := (1153 + 2 * u285)) (v := 2147483648) u285 f291 rg_76_1153_2_394 (by first | decide | omega) (by first | decide | omega) (by decide)
          have f301 := jF (e := (1153 + 2 * u285)) (v := 2147483648) u285 f292 rg_76_1153_2_394 (by first | decide | omega) (by first | decide | omega) (by decide)
          generalize e299 : x_up h288 76 (1153 + 2 * u285) 2147483648 = h297 at j298 f300 f301 ⊢
          refine x_aload (np := 35) (x := 0) (by decide +kernel) rfl (x_nc_le (by decide)) ?_
          refine x_dup (np := 36) (x := 0) (by decide +kernel) (by have z := x_nc_le (k := 75) (by decide); unfold x_r; omega) ?_
          have q302 : h297 75 13 = h288 75 13 := by rw [← e299]; exact x_up_k (by decide)
          have q303 : h288 75 13 = h255 75 13 := by rw [← e290]; exact x_up_k (by decide)
          refine x_getC (np := 39) (x := 717) (f := 13) (q := (h255 75 13)) (by decide +kernel) (by decide) (by decide +kernel) (q302.trans q303) (fun l304 => ?_)
          refine x_const (np := 40) (x := 9223372043297226753) (a := 2147483649) (by decide +kernel) (by decide) (by decide) ?_
          refine x_iadd (np := 41) (x := 0) (v := (1 + (h255 75 13))) (by decide +kernel) l284 (by decide) (by first | decide | omega) (by first | decide | omega) ?_
          refine x_putI (np := 44) (x := 717) (f := 13) (by decide +kernel) (by decide +kernel) (by first | decide | omega) (Or.inl (by decide)) ?_
          have j306 := jU (e := 13) (v := (1 + (h255 75 13))) 0 j298 rg_75_13_0_1 (by first | decide | omega) (by first | decide | omega) (by first | decide | omega)
          have f308 := jF (e := 13) (v := (1 + (h255 75 13))) 0 f300 rg_75_13_0_1 (by first | decide | omega) (by first | decide | omega) (by decide)
          have f309 := jF (e := 13) (v := (1 + (h255 75 13))) 0 f301 rg_75_13_0_1 (by first | decide | omega) (by first | decide | omega) (by decide)
          generalize e307 : x_up h297 75 13 (1 + (h255 75 13)) = h305 at j306 f308 f309 ⊢
          refine x_retV (np := 45) (x := 0) (by decide +kernel) (by decide +kernel) ⟨rfl, ?_⟩
          have q310 : h305 75 13 = (1 + (h255 75 13)) := by rw [← e307]; exact x_up_at
          refine x_goto (np := 38) (x := 9) (by decide +kernel) ?_
          have q311 : h305 75 7 = h297 75 7 := by rw [← e307]; exact x_up_i (by first | decide | omega)
          have q312 : h297 75 7 = h288 75 7 := by rw [← e299]; exact x_up_k (by decide)
          have q313 : h288 75 7 = h255 75 7 := by rw [← e290]; exact x_up_k (by decide)
          have q314 : h305 75 7 = h297 75 7 := by rw [← e307]; exact x_up_i (by first | decide | omega)
          have q315 : h297 75 7 = h288 75 7 := by rw [← e299]; exact x_up_k (by decide)
          have q316 : h288 75 7 = h255 75 7 := by rw [← e290]; exact x_up_k (by decide)
          have q317 : h305 75 13 = (1 + (h255 75 13)) := by rw [← e307]; exact x_up_at
          have q318 : h305 75 10 = h297 75 10 := by rw [← e307]; exact x_up_i (by first | decide | omega)
          have q319 : h297 75 10 = h288 75 10 := by rw [← e299]; exact x_up_k (by decide)
          have q320 : h288 75 10 = h255 75 10 := by rw [← e290]; exact x_up_k (by decide)
          obtain ⟨w321, e322⟩ := Tk.yes c225 (by first | decide | omega)
          have q323 : h305 75 7 = h297 75 7 := by rw [← e307]; exact x_up_i (by first | decide | omega)
          have q324 : h297 75 7 = h288 75 7 := by rw [← e299]; exact x_up_k (by decide)
          have q325 : h288 75 7 = h255 75 7 := by rw [← e290]; exact x_up_k (by decide)
          obtain ⟨w326, e327⟩ := Tk.yes c225 (by first | decide | omega)
          have q328 : h305 75 7 = h297 75 7 := by rw [← e307]; exact x_up_i (by first | decide | omega)
          have q329 : h297 75 7 = h288 75 7 := by rw [← e299]; exact x_up_k (by decide)
          have q330 : h288 75 7 = h255 75 7 := by rw [← e290]; exact x_up_k (by decide)
          have k336 : Kp h h199 (h 75 13 - 2147483648) := Kp.less m209 (by first | decide | omega)
          have k335 : Kp h h219 (h 75 13 - 2147483648) := Kp.fr k336 f221 (by first | decide | omega) (by decide)
          have q337 : h219 75 13 = h199 75 13 := jK 0 f221 rg_75_13_0_1 (by first | decide | omega) (by first | decide | omega) (by decide)
          have k334 : Kp h h255 (h 75 13 - 2147483648) := Kp.trans k335 c263 (by first | decide | omega)
          have k333 : Kp h h288 (h 75 13 - 2147483648) := by rw [← e290]; exact Kp.up k334 (by first | decide | omega) (fun i hi => by first | decide | omega)
          have k332 : Kp h h297 (h 75 13 - 2147483648) := by rw [← e299]; exact Kp.up k333 (by first | decide | omega) (fun i hi => by first | decide | omega)
          have k331 : Kp h h305 (h 75 13 - 2147483648) := by rw [← e307]; exact Kp.oth k332 (by decide)
          have q338 : h305 75 13 = (1 + (h255 75 13)) := by rw [← e307]; exact x_up_at
          have q340 : h305 76 (1152 + 2 * u285) = h297 76 (1152 + 2 * u285) := by rw [← e307]; exact x_up_k (by decide)
          have q341 : h297 76 (1152 + 2 * u285) = h288 76 (1152 + 2 * u285) := by rw [← e299]; exact x_up_i (by first | decide | omega)
          have q342 : h288 76 (1152 + 2 * u285) = 2147483661 := by rw [← e290]; exact x_up_at
          have k347 : Kp h199 h219 (h199 75 13 - 2147483648) := Kp.fr Kp.refl f221 (by first | decide | omega) (by decide)
          have q348 : h219 75 13 = h199 75 13 := jK 0 f221 rg_75_13_0_1 (by first | decide | omega) (by first | decide | omega) (by decide)
          have k346 : Kp h199 h255 (h199 75 13 - 2147483648) := Kp.trans k347 c263 (by first | decide | omega)
          have k345 : Kp h199 h288 (h199 75 13 - 2147483648) := by rw [← e290]; exact Kp.up k346 (by first | decide | omega) (fun i hi => by first | decide | omega)
          have k344 : Kp h199 h297 (h199 75 13 - 2147483648) := by rw [← e299]; exact Kp.up k345 (by first | decide | omega) (fun i hi => by first | decide | omega)
          have k343 : Kp h199 h305 (h199 75 13 - 2147483648) := by rw [← e307]; exact Kp.oth k344 (by decide)
          have k351 : Kp h255 h288 (h255 75 13 - 2147483648) := by rw [← e290]; exact Kp.up Kp.refl (by first | decide | omega) (fun i hi => by first | decide | omega)
          have k350 : Kp h255 h297 (h255 75 13 - 2147483648) := by rw [← e299]; exact Kp.up k351 (by first | decide | omega) (fun i hi => by first | decide | omega)
          have k349 : Kp h255 h305 (h255 75 13 - 2147483648) := by rw [← e307]; exact Kp.oth k350 (by decide)
          have s339 : Seg (sg h305) (h 75 13 - 2147483648) (u285 + 1) := Seg.bin (Seg.kp m210 k343) (Seg.cast (a' := (h199 75 13 - 2147483648)) (b' := u285) (Seg.kp s281 k349) (by first | decide | omega) (by first | decide | omega)) (show 2147483656 < h305 76 (1152 + 2 * u285) by first | decide | omega) (show h305 76 (1152 + 2 * u285) ≠ 2147483660 by first | decide | omega)
          have s352 : Seg (sg h305) (h 75 13 - 2147483648) (h305 75 13 - 2147483648) := Seg.cast (Seg.kp s339 Kp.refl) (by first | decide | omega) (by first | decide | omega)
          exact i212  h305 (by first | decide | omega) (by first | decide | omega) (by first | decide | omega) (by first | decide | omega) (by first | decide | omega) j306 f309 (gQ_st (t := 1) m207 w321 rfl e322 c265 rfl (by first | decide | omega) (congrArg (sk tB tN) (show h255 75 7 = h305 75 7 by first | decide | omega))) (fQ_st (t := 1) m208 w326 rfl e327 c265 rfl (by first | decide | omega) (congrArg (sk tB tN) (show h255 75 7 = h305 75 7 by first | decide | omega))) k331 s352
        have q276 : ¬ (v251 ≠ 2147483648) := q276
        refine x_const (np := 27) (x := 9223372039002259456) (a := 2147483648) (by decide +kernel) (by decide) (by decide) ?_
        have k355 : Kp h h199 (h 75 13 - 2147483648) := Kp.less m209 (by first | decide | omega)
        have k354 : Kp h h219 (h 75 13 - 2147483648) := Kp.fr k355 f221 (by first | decide | omega) (by decide)
        have q356 : h219 75 13 = h199 75 13 := jK 0 f221 rg_75_13_0_1 (by first | decide | omega) (by first | decide | omega) (by decide)
        have k353 : Kp h h255 (h 75 13 - 2147483648) := Kp.trans k354 c263 (by first | decide | omega)
        obtain ⟨w357, e358⟩ := Tk.yes c225 (by first | decide | omega)
        obtain ⟨w359, e360⟩ := Tk.yes c225 (by first | decide | omega)
        refine x_retI (np := 28) (x := 0) (by decide +kernel) (by decide) (Or.inr ⟨by decide +kernel, by first | decide | omega, by first | decide | omega⟩) ⟨_, rfl, (by decide), ?_⟩
        exact ⟨j256, f267, (by first | decide | omega), (fun z => by first | decide | omega), (fun z => by first | decide | omega), (fun z => by first | decide | omega), (fun z => by first | decide | omega), k353, (fun z => absurd z (by first | decide | omega)), (gQ_f (t := 1) m207 w357 rfl e358 c265 rfl (by first | decide | omega) (by first | decide | omega)), (fun _ => fQ_f (t := 1) m208 w359 rfl e360 (c266 (by first | decide | omega)) rfl rfl)⟩
    have k361 : Kp h h7 (h 75 13 - 2147483648) := Kp.less c15 (by first | decide | omega)
    have s362 : Seg (sg h7) (h 75 13 - 2147483648) (h7 75 13 - 2147483648) := Seg.cast (Seg.kp s29 Kp.refl) (by first | decide | omega) (by first | decide | omega)
    exact p202 _  h7 (Nat.lt_succ_self _) (by first | decide | omega) (by first | decide | omega) (by first | decide | omega) (by first | decide | omega) j8 (Fr.refl _ _) (gQ_in (t := 1) c17 rfl (by first | decide | omega) rfl) (fQ_in (t := 1) c17 rfl (by first | decide | omega) rfl) k361 s362
  have q24 : ¬ (v4 ≠ 2147483648) := q24
  refine x_const (np := 8) (x := 9223372039002259456) (a := 2147483648) (by decide +kernel) (by decide) (by decide) ?_
  have k363 : Kp h h7 (h 75 13 - 2147483648) := Kp.less c15 (by first | decide | omega)
  refine x_retI (np := 9) (x := 0) (by decide +kernel) (by decide) (Or.inr ⟨by decide +kernel, by first | decide | omega, by first | decide | omega⟩) ⟨_, rfl, (by decide), ?_⟩
  exact ⟨j8, f19, (by first | decide | omega), (fun z => by first | decide | omega), (fun z => by first | decide | omega), (fun z => by first | decide | omega), (fun z => by first | decide | omega), k363, (fun z => absurd z (by first | decide | omega)), (gQ_no (t := 1) c17 rfl (by first | decide | omega) (by first | decide | omega)), (fun _ => fQ_no (t := 1) (c18 (by first | decide | omega)) rfl rfl)⟩
set_option maxHeartbeats 0 in
/-- LentNamesModel.readCond()Z -/
theorem c192_75_D4 {sc : Nat × Nat} {d  : Nat} {h : xh} {tB : Nat → Nat} {tN : Nat} (hJ : J h) (hr0 : (h 75 13) + 5 ≤ (h 75 7)) (hr1 : (h 75 10) = 2147483652) (hT : Tq tB tN h) : X sc 192 (d + 15) (xI fun r h' => J h' ∧ Fr 97517569 h h' ∧ (2147483648 ≤ r ∧ r ≤ 2147483649) ∧ (r = 2147483649 → h' 75 13 + h 75 7 ≤ h' 75 7 + h 75 13) ∧ (r = 2147483649 → h' 75 10 = h 75 10) ∧ (r = 2147483649 → h 75 7 + 0 ≤ h' 75 7) ∧ (r = 2147483649 → h 75 13 ≤ h' 75 13) ∧ Kp h h' (h 75 13 - 2147483648) ∧ (r = 2147483649 → Seg (sg h') (h 75 13 - 2147483648) (h' 75 13 - 2147483648)) ∧ G tB tN (Kd.seq 2) 4 (sk tB tN (h 75 7)) (rs r (sk tB tN (h' 75 7))) ∧ (r = 2147483648 → GF tB tN (Kd.seq 2) 4 (sk tB tN (h 75 7)) (h' 75 9))) 0 0 0 [x_r 75] [] h := by
  have hF := Fr.refl 97517569 h
  have b1 := jB (e := 13) 0 hJ rg_75_13_0_1 (by first | decide | omega) (by first | decide | omega)
  have b2 := jB (e := 7) 0 hJ rg_75_7_0_1 (by first | decide | omega) (by first | decide | omega)
  have b3 := jB (e := 10) 0 hJ rg_75_10_0_1 (by first | decide | omega) (by first | decide | omega)
  refine x_aload (np := 1) (x := 0) (by decide +kernel) rfl (x_nc_le (by decide)) ?_
  refine x_cI (t := 6) (mj := 191) (n := 1) (rc := 12) (ml := 1) (nr := 0) (np := 4) (as := [x_r 75]) (rest := []) (lo1 := [x_r 75]) (by decide +kernel) (by decide) (by decide +kernel) (x_rb_of (by decide +kernel)) rfl rfl (x_wr (by decide) x_wn) x_wn (by decide) rfl (c191_75_D4 hJ  (by first | decide | omega) (by first | decide | omega) hT) (fun v4 h7 l5 q6 => ?_)
  obtain ⟨j8, f9, b10, c11, c12, c13, c14, c15, c16, c17, c18⟩ := q6
  have f19 := Fr.trans hF f9 (by decide)
  have b20 := jB (e := 13) 0 j8 rg_75_13_0_1 (by first | decide | omega) (by first | decide | omega)
  have b21 := jB (e := 7) 0 j8 rg_75_7_0_1 (by first | decide | omega) (by first | decide | omega)
  have b22 := jB (e := 10) 0 j8 rg_75_10_0_1 (by first | decide | omega) (by first | decide | omega)
  refine x_ifz (k := 1) (tg := 9) (np := 7) (by decide +kernel) (by decide) l5 (fun q23 => ?_) (fun q24 => ?_)
  · have q23 : v4 ≠ 2147483648 := q23
    have b25 := c11 (by first | decide | omega)
    have b26 := c12 (by first | decide | omega)
    have b27 := c13 (by first | decide | omega)
    have b28 := c14 (by first | decide | omega)
    have s29 := c16 (by first | decide | omega)
    have p202 : ∀ (n : Nat) (h199 : xh), 4294967296 - h199 75 7 < n → h199 75 13 + h 75 7 ≤ h199 75 7 + h 75 13 → h199 75 10 = h 75 10 → h 75 7 ≤ h199 75 7 → h 75 13 ≤ h199 75 13 → J h199 → Fr 97517569 h7 h199 → Res tB tN (Kd.lp 2) 4 (sk tB tN (h199 75 7)) (Kd.seq 2) 4 (sk tB tN (h 75 7)) → ResF tB tN (Kd.lp 2) 4 (sk tB tN (h199 75 7)) (Kd.seq 2) 4 (sk tB tN (h 75 7)) → Kp h h199 (h 75 13 - 2147483648) → Seg (sg h199) (h 75 13 - 2147483648) (h199 75 13 - 2147483648) → X sc 192 (d + 15) (xI fun r h' => J h' ∧ Fr 97517569 h h' ∧ (2147483648 ≤ r ∧ r ≤ 2147483649) ∧ (r = 2147483649 → h' 75 13 + h 75 7 ≤ h' 75 7 + h 75 13) ∧ (r = 2147483649 → h' 75 10 = h 75 10) ∧ (r = 2147483649 → h 75 7 + 0 ≤ h' 75 7) ∧ (r = 2147483649 → h 75 13 ≤ h' 75 13) ∧ Kp h h' (h 75 13 - 2147483648) ∧ (r = 2147483649 → Seg (sg h') (h 75 13 - 2147483648) (h' 75 13 - 2147483648)) ∧ G tB tN (Kd.seq 2) 4 (sk tB tN (h 75 7)) (rs r (sk tB tN (h' 75 7))) ∧ (r = 2147483648 → GF tB tN (Kd.seq 2) 4 (sk tB tN (h 75 7)) (h' 75 9))) 0 0 9 [x_r 75] [] h199 := by
      intro n
      induction n with
      | zero => intro h199 q211; exact absurd q211 (Nat.not_lt_zero _)
      | succ n i212 =>
        intro h199 q211 b203 b204 b205 b206 j201 f200 m207 m208 m209 m210
        have f213 := Fr.trans f19 f200 (by decide)
        refine x_aload (np := 10) (x := 0) (by decide +kernel) rfl (x_nc_le (by decide)) ?_
        refine x_ldcB (i := 15) (idx := 179) (tx := "or") (by rw [tb_y192]; exact List.mem_of_getElem? (i := 54) rfl) (by decide) (by rw [tb_b192]; decide +kernel) ?_
        have m218 := Tq.fr hT f9 (by decide) (by decide)
        have m217 := Tq.fr m218 f200 (by decide) (by decide)
        refine x_cI (t := 6) (mj := 171) (n := 2) (rc := 12) (ml := 2) (nr := 0) (np := 15) (as := [x_r 75, x_b (15 + 1)]) (rest := []) (lo1 := [x_r 75, x_b (15 + 1)]) (by decide +kernel) (by decide) (by decide +kernel) (x_rb_of (by decide +kernel)) rfl rfl (x_wr (by decide) (x_wB (by decide) x_wn)) x_wn (by decide) rfl (c171_75_S0 j201  (by decide) m217) (fun v214 h219 l215 q216 => ?_)
        obtain ⟨j220, f221, b222, c223, c224, c225, c226⟩ := q216
        have f227 := Fr.trans f213 f221 (by decide)
        have f228 := Fr.trans f200 f221 (by decide)
        have b229 := jB (e := 7) 0 j201 rg_75_7_0_1 (by first | decide | omega) (by first | decide | omega)
        have b230 := jB (e := 7) 0 j220 rg_75_7_0_1 (by first | decide | omega) (by first | decide | omega)
        refine x_ifz (k := 0) (tg := 37) (np := 18) (by decide +kernel) (by decide) l215 (fun q231 => ?_) (fun q232 => ?_)
        · have q231 : v214 = 2147483648 := q231
          refine x_const (np := 38) (x := 9223372043297226753) (a := 2147483649) (by decide +kernel) (by decide) (by decide) ?_
          have q233 : h219 75 13 = h199 75 13 := jK 0 f221 rg_75_13_0_1 (by first | decide | omega) (by first | decide | omega) (by decide)
          have b234 := jB (e := 13) 0 j201 rg_75_13_0_1 (by first | decide | omega) (by first | decide | omega)
          have q235 : h219 75 10 = h199 75 10 := jK 0 f221 rg_75_10_0_1 (by first | decide | omega) (by first | decide | omega) (by decide)
          have b236 := jB (e := 10) 0 j201 rg_75_10_0_1 (by first | decide | omega) (by first | decide | omega)
          have q237 : h219 75 13 = h199 75 13 := jK 0 f221 rg_75_13_0_1 (by first | decide | omega) (by first | decide | omega) (by decide)
          have k239 : Kp h h199 (h 75 13 - 2147483648) := Kp.less m209 (by first | decide | omega)
          have k238 : Kp h h219 (h 75 13 - 2147483648) := Kp.fr k239 f221 (by first | decide | omega) (by decide)
          have q240 : h219 75 13 = h199 75 13 := jK 0 f221 rg_75_13_0_1 (by first | decide | omega) (by first | decide | omega) (by decide)
          have k241 : Kp h199 h219 (h199 75 13 - 2147483648) := Kp.fr Kp.refl f221 (by first | decide | omega) (by decide)
          have s242 : Seg (sg h219) (h 75 13 - 2147483648) (h219 75 13 - 2147483648) := Seg.cast (Seg.kp m210 k241) (by first | decide | omega) (by first | decide | omega)
          obtain ⟨w243, e244⟩ := Tk.no c225 (by first | decide | omega)
          refine x_retI (np := 39) (x := 0) (by decide +kernel) (by decide) (Or.inr ⟨by decide +kernel, by first | decide | omega, by first | decide | omega⟩) ⟨_, rfl, (by decide), ?_⟩
          exact ⟨j220, f227, (by first | decide | omega), (fun z => by first | decide | omega), (fun z => by first | decide | omega), (fun z => by first | decide | omega), (fun z => by first | decide | omega), k238, (fun _ => s242), (gQ_e (t := 2) m207 w243 rfl (by first | decide | omega) ((Eq.symm e244))), (fun z => absurd z (by first | decide | omega))⟩
        have q232 : ¬ (v214 = 2147483648) := q232
        have b245 := c224 (by first | decide | omega)
        refine x_aload (np := 19) (x := 0) (by decide +kernel) rfl (x_nc_le (by decide)) ?_
        have q246 : h219 75 10 = h199 75 10 := jK 0 f221 rg_75_10_0_1 (by first | decide | omega) (by first | decide | omega) (by decide)
        have b247 := jB (e := 10) 0 j201 rg_75_10_0_1 (by first | decide | omega) (by first | decide | omega)
        have q248 : h219 75 13 = h199 75 13 := jK 0 f221 rg_75_13_0_1 (by first | decide | omega) (by first | decide | omega) (by decide)
        have b249 := jB (e := 13) 0 j201 rg_75_13_0_1 (by first | decide | omega) (by first | decide | omega)
        have q250 : h219 75 10 = h199 75 10 := jK 0 f221 rg_75_10_0_1 (by first | decide | omega) (by first | decide | omega) (by decide)
        have m254 := Tq.fr m217 f221 (by decide) (by decide)
        refine x_cI (t := 6) (mj := 191) (n := 1) (rc := 12) (ml := 1) (nr := 0) (np := 22) (as := [x_r 75]) (rest := []) (lo1 := [x_r 75]) (by decide +kernel) (by decide) (by decide +kernel) (x_rb_of (by decide +kernel)) rfl rfl (x_wr (by decide) x_wn) x_wn (by decide) rfl (c191_75_D4 j220  (by first | decide | omega) (by first | decide | omega) m254) (fun v251 h255 l252 q253 => ?_)
        obtain ⟨j256, f257, b258, c259, c260, c261, c262, c263, c264, c265, c266⟩ := q253
        have f267 := Fr.trans f227 f257 (by decide)
        have f268 := Fr.trans f228 f257 (by decide)
        have q269 : h219 75 13 = h199 75 13 := jK 0 f221 rg_75_13_0_1 (by first | decide | omega) (by first | decide | omega) (by decide)
        have b270 := jB (e := 13) 0 j256 rg_75_13_0_1 (by first | decide | omega) (by first | decide | omega)
        have b271 := jB (e := 7) 0 j256 rg_75_7_0_1 (by first | decide | omega) (by first | decide | omega)
        have q272 : h219 75 10 = h199 75 10 := jK 0 f221 rg_75_10_0_1 (by first | decide | omega) (by first | decide | omega) (by decide)
        have b273 := jB (e := 10) 0 j256 rg_75_10_0_1 (by first | decide | omega) (by first | decide | omega)
        have q274 : h219 75 13 = h199 75 13 := jK 0 f221 rg_75_13_0_1 (by first | decide | omega) (by first | decide | omega) (by decide)
        refine x_ifz (k := 1) (tg := 27) (np := 25) (by decide +kernel) (by decide) l252 (fun q275 => ?_) (fun q276 => ?_)
        · have q275 : v251 ≠ 2147483648 := q275
          have b277 := c259 (by first | decide | omega)
          have b278 := c260 (by first | decide | omega)
          have b279 := c261 (by first | decide | omega)
          have b280 := c262 (by first | decide | omega)
          have s281 := c264 (by first | decide | omega)
          have q282 : h219 75 13 = h199 75 13 := jK 0 f221 rg_75_13_0_1 (by first | decide | omega) (by first | decide | omega) (by decide)
          refine x_aload (np := 28) (x := 0) (by decide +kernel) rfl (x_nc_le (by decide)) ?_
          refine x_const (np := 30) (x := 9223372099131801614) (a := 2147483662) (by decide +kernel) (by decide) (by decide) ?_
          refine x_const (np := 31) (x := 9223372039002259456) (a := 2147483648) (by decide +kernel) (by decide) (by decide) ?_
          refine x_nV (t := 6) (mj := 187) (n := 3) (rc := 12) (ml := 3) (nr := 0) (np := 34) (as := [x_r 75, iv_c 2147483662, iv_c 2147483648]) (rest := []) (lo1 := [x_r 75, iv_c 2147483662, iv_c 2147483648]) (by decide +kernel) (by decide) (by decide +kernel) (x_rb_of (by decide +kernel)) rfl rfl (x_wr (by decide) (x_wi (by decide) (x_wi (by decide) x_wn))) x_wn (by decide) rfl ?_
          refine x_aload (np := 1) (x := 0) (by decide +kernel) rfl (x_nc_le (by decide)) ?_
          have q283 : h255 75 1 = 76 := by have z := jB (e := 1) 0 j256 rg_75_1_0_1 (by decide) (by decide); omega
          refine x_getR (np := 4) (x := 705) (f := 1) (q := 76) (by decide +kernel) (by decide) (by decide +kernel) q283 ?_
          refine x_const (np := 7) (x := 9223376986804585600) (a := 2147484800) (by decide +kernel) (by decide) (by decide) ?_
          refine x_const (np := 8) (x := 9223372047592194050) (a := 2147483650) (by decide +kernel) (by decide) (by decide) ?_
          refine x_aload (np := 9) (x := 0) (by decide +kernel) rfl (x_nc_le (by decide)) ?_
          refine x_getC (np := 12) (x := 717) (f := 13) (q := (h255 75 13)) (by decide +kernel) (by decide) (by decide +kernel) rfl (fun l284 => ?_)
          obtain ⟨u285, q286⟩ : ∃ z, (h255 75 13) = 2147483648 + z := ⟨(h255 75 13) - 2147483648, by first | decide | omega⟩
          refine x_imul (np := 13) (x := 0) (i := 2) (j := u285) (v := (2147483648 + 2 * u285)) (by decide +kernel) (by first | decide | omega) (by first | decide | omega) (by first | decide | omega) (by first | decide | omega) (by decide) l284 ?_
          refine x_iadd (np := 14) (x := 0) (v := (2147484800 + 2 * u285)) (by decide +kernel) (by decide) (by first | decide | omega) (by first | decide | omega) (by first | decide | omega) ?_
          refine x_iload (np := 15) (x := 1) (by decide +kernel) rfl (by decide) ?_
          refine x_ast (np := 16) (x := 0) (kd := 1) (n := 1952) (i := (1152 + 2 * u285)) (by decide +kernel) (Or.inl rfl) (by decide +kernel) (by first | decide | omega) (by first | decide | omega) (by decide) (by decide) (fun z => absurd z (by decide)) ?_
          have j289 := jU (e := (1152 + 2 * u285)) (v := 2147483662) u285 j256 rg_76_1152_2_394 (by first | decide | omega) (by first | decide | omega) (by first | decide | omega)
          have f291 := jF (e := (1152 + 2 * u285)) (v := 2147483662) u285 f267 rg_76_1152_2_394 (by first | decide | omega) (by first | decide | omega) (by decide)
          have f292 := jF (e := (1152 + 2 * u285)) (v := 2147483662) u285 f268 rg_76_1152_2_394 (by first | decide | omega) (by first | decide | omega) (by decide)
          generalize e290 : x_up h255 76 (1152 + 2 * u285) 2147483662 = h288 at j289 f291 f292 ⊢
          refine x_aload (np := 17) (x := 0) (by decide +kernel) rfl (x_nc_le (by decide)) ?_
          have q293 : h288 75 1 = 76 := by have z := jB (e := 1) 0 j289 rg_75_1_0_1 (by decide) (by decide); omega
          refine x_getR (np := 20) (x := 705) (f := 1) (q := 76) (by decide +kernel) (by decide) (by decide +kernel) q293 ?_
          refine x_const (np := 23) (x := 9223376986804585600) (a := 2147484800) (by decide +kernel) (by decide) (by decide) ?_
          refine x_const (np := 24) (x := 9223372047592194050) (a := 2147483650) (by decide +kernel) (by decide) (by decide) ?_
          refine x_aload (np := 25) (x := 0) (by decide +kernel) rfl (x_nc_le (by decide)) ?_
          have q294 : h288 75 13 = h255 75 13 := by rw [← e290]; exact x_up_k (by decide)
          refine x_getC (np := 28) (x := 717) (f := 13) (q := (h255 75 13)) (by decide +kernel) (by decide) (by decide +kernel) q294 (fun l295 => ?_)
          refine x_imul (np := 29) (x := 0) (i := 2) (j := u285) (v := (2147483648 + 2 * u285)) (by decide +kernel) (by first | decide | omega) (by first | decide | omega) (by first | decide | omega) (by first | decide | omega) (by decide) l284 ?_
          refine x_iadd (np := 30) (x := 0) (v := (2147484800 + 2 * u285)) (by decide +kernel) (by decide) (by first | decide | omega) (by first | decide | omega) (by first | decide | omega) ?_
          refine x_const (np := 31) (x := 9223372043297226753) (a := 2147483649) (by decide +kernel) (by decide) (by decide) ?_
          refine x_iadd (np := 32) (x := 0) (v := (2147484801 + 2 * u285)) (by decide +kernel) (by first | decide | omega) (by decide) (by first | decide | omega) (by first | decide | omega) ?_
          refine x_iload (np := 33) (x := 2) (by decide +kernel) rfl (by decide) ?_
          refine x_ast (np := 34) (x := 0) (kd := 1) (n := 1952) (i := (1153 + 2 * u285)) (by decide +kernel) (Or.inl rfl) (by decide +kernel) (by first | decide | omega) (by first | decide | omega) (by decide) (by decide) (fun z => absurd z (by decide)) ?_
          have j298 := jU (e := (1153 + 2 * u285)) (v := 2147483648) u285 j289 rg_76_1153_2_394 (by first | decide | omega) (by first | decide | omega) (by first | decide | omega)
          have f300 := jF (e := (1153 + 2 * u285)) (v := 2147483648) u285 f291 rg_76_1153_2_394 (by first | decide | omega) (by first | decide | omega) (by decide)
          have f301 := jF (e := (1153 + 2 * u285)) (v := 2147483648) u285 f292 rg_76_1153_2_394 (by first | decide | omega) (by first | decide | omega) (by decide)
          generalize e299 : x_up h288 76 (1153 + 2 * u285) 2147483648 = h297 at j298 f300 f301 ⊢
          refine x_aload (np := 35) (x := 0) (by decide +kernel) rfl (x_nc_le (by decide)) ?_
          refine x_dup (np := 36) (x := 0) (by decide +kernel) (by have z := x_nc_le (k := 75) (by decide); unfold x_r; omega) ?_
          have q302 : h297 75 13 = h288 75 13 := by rw [← e299]; exact x_up_k (by decide)
          have q303 : h288 75 13 = h255 75 13 := by rw [← e290]; exact x_up_k (by decide)
          refine x_getC (np := 39) (x := 717) (f := 13) (q := (h255 75 13)) (by decide +kernel) (by decide) (by decide +kernel) (q302.trans q303) (fun l304 => ?_)
          refine x_const (np := 40) (x := 9223372043297226753) (a := 2147483649) (by decide +kernel) (by decide) (by decide) ?_
          refine x_iadd (np := 41) (x := 0) (v := (1 + (h255 75 13))) (by decide +kernel) l284 (by decide) (by first | decide | omega) (by first | decide | omega) ?_
          refine x_putI (np := 44) (x := 717) (f := 13) (by decide +kernel) (by decide +kernel) (by first | decide | omega) (Or.inl (by decide)) ?_
          have j306 := jU (e := 13) (v := (1 + (h255 75 13))) 0 j298 rg_75_13_0_1 (by first | decide | omega) (by first | decide | omega) (by first | decide | omega)
          have f308 := jF (e := 13) (v := (1 + (h255 75 13))) 0 f300 rg_75_13_0_1 (by first | decide | omega) (by first | decide | omega) (by decide)
          have f309 := jF (e := 13) (v := (1 + (h255 75 13))) 0 f301 rg_75_13_0_1 (by first | decide | omega) (by first | decide | omega) (by decide)
          generalize e307 : x_up h297 75 13 (1 + (h255 75 13)) = h305 at j306 f308 f309 ⊢
          refine x_retV (np := 45) (x := 0) (by decide +kernel) (by decide +kernel) ⟨rfl, ?_⟩
          have q310 : h305 75 13 = (1 + (h255 75 13)) := by rw [← e307]; exact x_up_at
          refine x_goto (np := 37) (x := 9) (by decide +kernel) ?_
          have q311 : h305 75 7 = h297 75 7 := by rw [← e307]; exact x_up_i (by first | decide | omega)
          have q312 : h297 75 7 = h288 75 7 := by rw [← e299]; exact x_up_k (by decide)
          have q313 : h288 75 7 = h255 75 7 := by rw [← e290]; exact x_up_k (by decide)
          have q314 : h305 75 7 = h297 75 7 := by rw [← e307]; exact x_up_i (by first | decide | omega)
          have q315 : h297 75 7 = h288 75 7 := by rw [← e299]; exact x_up_k (by decide)
          have q316 : h288 75 7 = h255 75 7 := by rw [← e290]; exact x_up_k (by decide)
          have q317 : h305 75 13 = (1 + (h255 75 13)) := by rw [← e307]; exact x_up_at
          have q318 : h305 75 10 = h297 75 10 := by rw [← e307]; exact x_up_i (by first | decide | omega)
          have q319 : h297 75 10 = h288 75 10 := by rw [← e299]; exact x_up_k (by decide)
          have q320 : h288 75 10 = h255 75 10 := by rw [← e290]; exact x_up_k (by decide)
          obtain ⟨w321, e322⟩ := Tk.yes c225 (by first | decide | omega)
          have q323 : h305 75 7 = h297 75 7 := by rw [← e307]; exact x_up_i (by first | decide | omega)
          have q324 : h297 75 7 = h288 75 7 := by rw [← e299]; exact x_up_k (by decide)
          have q325 : h288 75 7 = h255 75 7 := by rw [← e290]; exact x_up_k (by decide)
          obtain ⟨w326, e327⟩ := Tk.yes c225 (by first | decide | omega)
          have q328 : h305 75 7 = h297 75 7 := by rw [← e307]; exact x_up_i (by first | decide | omega)
          have q329 : h297 75 7 = h288 75 7 := by rw [← e299]; exact x_up_k (by decide)
          have q330 : h288 75 7 = h255 75 7 := by rw [← e290]; exact x_up_k (by decide)
          have k336 : Kp h h199 (h 75 13 - 2147483648) := Kp.less m209 (by first | decide | omega)
          have k335 : Kp h h219 (h 75 13 - 2147483648) := Kp.fr k336 f221 (by first | decide | omega) (by decide)
          have q337 : h219 75 13 = h199 75 13 := jK 0 f221 rg_75_13_0_1 (by first | decide | omega) (by first | decide | omega) (by decide)
          have k334 : Kp h h255 (h 75 13 - 2147483648) := Kp.trans k335 c263 (by first | decide | omega)
          have k333 : Kp h h288 (h 75 13 - 2147483648) := by rw [← e290]; exact Kp.up k334 (by first | decide | omega) (fun i hi => by first | decide | omega)
          have k332 : Kp h h297 (h 75 13 - 2147483648) := by rw [← e299]; exact Kp.up k333 (by first | decide | omega) (fun i hi => by first | decide | omega)
          have k331 : Kp h h305 (h 75 13 - 2147483648) := by rw [← e307]; exact Kp.oth k332 (by decide)
          have q338 : h305 75 13 = (1 + (h255 75 13)) := by rw [← e307]; exact x_up_at
          have q340 : h305 76 (1152 + 2 * u285) = h297 76 (1152 + 2 * u285) := by rw [← e307]; exact x_up_k (by decide)
          have q341 : h297 76 (1152 + 2 * u285) = h288 76 (1152 + 2 * u285) := by rw [← e299]; exact x_up_i (by first | decide | omega)
          have q342 : h288 76 (1152 + 2 * u285) = 2147483662 := by rw [← e290]; exact x_up_at
          have k347 : Kp h199 h219 (h199 75 13 - 2147483648) := Kp.fr Kp.refl f221 (by first | decide | omega) (by decide)
          have q348 : h219 75 13 = h199 75 13 := jK 0 f221 rg_75_13_0_1 (by first | decide | omega) (by first | decide | omega) (by decide)
          have k346 : Kp h199 h255 (h199 75 13 - 2147483648) := Kp.trans k347 c263 (by first | decide | omega)
          have k345 : Kp h199 h288 (h199 75 13 - 2147483648) := by rw [← e290]; exact Kp.up k346 (by first | decide | omega) (fun i hi => by first | decide | omega)
          have k344 : Kp h199 h297 (h199 75 13 - 2147483648) := by rw [← e299]; exact Kp.up k345 (by first | decide | omega) (fun i hi => by first | decide | omega)
          have k343 : Kp h199 h305 (h199 75 13 - 2147483648) := by rw [← e307]; exact Kp.oth k344 (by decide)
          have k351 : Kp h255 h288 (h255 75 13 - 2147483648) := by rw [← e290]; exact Kp.up Kp.refl (by first | decide | omega) (fun i hi => by first | decide | omega)
          have k350 : Kp h255 h297 (h255 75 13 - 2147483648) := by rw [← e299]; exact Kp.up k351 (by first | decide | omega) (fun i hi => by first | decide | omega)
          have k349 : Kp h255 h305 (h255 75 13 - 2147483648) := by rw [← e307]; exact Kp.oth k350 (by decide)
          have s339 : Seg (sg h305) (h 75 13 - 2147483648) (u285 + 1) := Seg.bin (Seg.kp m210 k343) (Seg.cast (a' := (h199 75 13 - 2147483648)) (b' := u285) (Seg.kp s281 k349) (by first | decide | omega) (by first | decide | omega)) (show 2147483656 < h305 76 (1152 + 2 * u285) by first | decide | omega) (show h305 76 (1152 + 2 * u285) ≠ 2147483660 by first | decide | omega)
          have s352 : Seg (sg h305) (h 75 13 - 2147483648) (h305 75 13 - 2147483648) := Seg.cast (Seg.kp s339 Kp.refl) (by first | decide | omega) (by first | decide | omega)
          exact i212  h305 (by first | decide | omega) (by first | decide | omega) (by first | decide | omega) (by first | decide | omega) (by first | decide | omega) j306 f309 (gQ_st (t := 2) m207 w321 rfl e322 c265 rfl (by first | decide | omega) (congrArg (sk tB tN) (show h255 75 7 = h305 75 7 by first | decide | omega))) (fQ_st (t := 2) m208 w326 rfl e327 c265 rfl (by first | decide | omega) (congrArg (sk tB tN) (show h255 75 7 = h305 75 7 by first | decide | omega))) k331 s352
        have q276 : ¬ (v251 ≠ 2147483648) := q276
        refine x_const (np := 26) (x := 9223372039002259456) (a := 2147483648) (by decide +kernel) (by decide) (by decide) ?_
        have k355 : Kp h h199 (h 75 13 - 2147483648) := Kp.less m209 (by first | decide | omega)
        have k354 : Kp h h219 (h 75 13 - 2147483648) := Kp.fr k355 f221 (by first | decide | omega) (by decide)
        have q356 : h219 75 13 = h199 75 13 := jK 0 f221 rg_75_13_0_1 (by first | decide | omega) (by first | decide | omega) (by decide)
        have k353 : Kp h h255 (h 75 13 - 2147483648) := Kp.trans k354 c263 (by first | decide | omega)
        obtain ⟨w357, e358⟩ := Tk.yes c225 (by first | decide | omega)
        obtain ⟨w359, e360⟩ := Tk.yes c225 (by first | decide | omega)
        refine x_retI (np := 27) (x := 0) (by decide +kernel) (by decide) (Or.inr ⟨by decide +kernel, by first | decide | omega, by first | decide | omega⟩) ⟨_, rfl, (by decide), ?_⟩
        exact ⟨j256, f267, (by first | decide | omega), (fun z => by first | decide | omega), (fun z => by first | decide | omega), (fun z => by first | decide | omega), (fun z => by first | decide | omega), k353, (fun z => absurd z (by first | decide | omega)), (gQ_f (t := 2) m207 w357 rfl e358 c265 rfl (by first | decide | omega) (by first | decide | omega)), (fun _ => fQ_f (t := 2) m208 w359 rfl e360 (c266 (by first | decide | omega)) rfl rfl)⟩
    have k361 : Kp h h7 (h 75 13 - 2147483648) := Kp.less c15 (by first | decide | omega)
    have s362 : Seg (sg h7) (h 75 13 - 2147483648) (h7 75 13 - 2147483648) := Seg.cast (Seg.kp s29 Kp.refl) (by first | decide | omega) (by first | decide | omega)
    exact p202 _  h7 (Nat.lt_succ_self _) (by first | decide | omega) (by first | decide | omega) (by first | decide | omega) (by first | decide | omega) j8 (Fr.refl _ _) (gQ_in (t := 2) c17 rfl (by first | decide | omega) rfl) (fQ_in (t := 2) c17 rfl (by first | decide | omega) rfl) k361 s362
  have q24 : ¬ (v4 ≠ 2147483648) := q24
  refine x_const (np := 8) (x := 9223372039002259456) (a := 2147483648) (by decide +kernel) (by decide) (by decide) ?_
  have k363 : Kp h h7 (h 75 13 - 2147483648) := Kp.less c15 (by first | decide | omega)
  refine x_retI (np := 9) (x := 0) (by decide +kernel) (by decide) (Or.inr ⟨by decide +kernel, by first | decide | omega, by first | decide | omega⟩) ⟨_, rfl, (by decide), ?_⟩
  exact ⟨j8, f19, (by first | decide | omega), (fun z => by first | decide | omega), (fun z => by first | decide | omega), (fun z => by first | decide | omega), (fun z => by first | decide | omega), k363, (fun z => absurd z (by first | decide | omega)), (gQ_no (t := 2) c17 rfl (by first | decide | omega) (by first | decide | omega)), (fun _ => fQ_no (t := 2) (c18 (by first | decide | omega)) rfl rfl)⟩
set_option maxHeartbeats 0 in
/-- LentNamesModel.readAtom()Z -/
theorem c190_75_D3 {sc : Nat × Nat} {d  : Nat} {h : xh} {tB : Nat → Nat} {tN : Nat} (hJ : J h) (hr0 : (h 75 13) + 5 ≤ (h 75 7)) (hr1 : (h 75 10) = 2147483651) (hT : Tq tB tN h) : X sc 190 (d + 16) (xI fun r h' => J h' ∧ Fr 97517569 h h' ∧ (2147483648 ≤ r ∧ r ≤ 2147483649) ∧ (r = 2147483649 → h' 75 13 + h 75 7 ≤ h' 75 7 + h 75 13) ∧ (r = 2147483649 → h' 75 10 = h 75 10) ∧ (r = 2147483649 → h 75 7 + 0 ≤ h' 75 7) ∧ (r = 2147483649 → h 75 13 ≤ h' 75 13) ∧ Kp h h' (h 75 13 - 2147483648) ∧ (r = 2147483649 → Seg (sg h') (h 75 13 - 2147483648) (h' 75 13 - 2147483648)) ∧ G tB tN Kd.atom 3 (sk tB tN (h 75 7)) (rs r (sk tB tN (h' 75 7))) ∧ (r = 2147483648 → GF tB tN Kd.atom 3 (sk tB tN (h 75 7)) (h' 75 9))) 0 0 0 [x_r 75, 147573952589676412928, 147573952589676412928] [] h := by
  have hF := Fr.refl 97517569 h
  have b1 := jB (e := 13) 0 hJ rg_75_13_0_1 (by first | decide | omega) (by first | decide | omega)
  have b2 := jB (e := 7) 0 hJ rg_75_7_0_1 (by first | decide | omega) (by first | decide | omega)
  have b3 := jB (e := 10) 0 hJ rg_75_10_0_1 (by first | decide | omega) (by first | decide | omega)
  refine x_aload (np := 1) (x := 0) (by decide +kernel) rfl (x_nc_le (by decide)) ?_
  refine x_const (np := 3) (x := 9223372210800951336) (a := 2147483688) (by decide +kernel) (by decide) (by decide) ?_
  refine x_cI (t := 6) (mj := 173) (n := 2) (rc := 12) (ml := 2) (nr := 0) (np := 6) (as := [x_r 75, iv_c 2147483688]) (rest := []) (lo1 := [x_r 75, iv_c 2147483688]) (by decide +kernel) (by decide) (by decide +kernel) (x_rb_of (by decide +kernel)) rfl rfl (x_wr (by decide) (x_wi (by decide) x_wn)) x_wn (by decide) rfl (c173_75 hJ  (by first | decide | omega) hT) (fun v4 h7 l5 q6 => ?_)
  obtain ⟨j8, f9, b10, c11, c12, c13, c14⟩ := q6
  have f15 := Fr.trans hF f9 (by decide)
  have b16 := jB (e := 7) 0 j8 rg_75_7_0_1 (by first | decide | omega) (by first | decide | omega)
  refine x_ifz (k := 0) (tg := 56) (np := 9) (by decide +kernel) (by decide) l5 (fun q17 => ?_) (fun q18 => ?_)
  · have q17 : v4 = 2147483648 := q17
    refine x_aload (np := 57) (x := 0) (by decide +kernel) rfl (x_nc_le (by decide)) ?_
    refine x_ldcB (i := 24) (idx := 245) (tx := "not") (by rw [tb_y190]; exact List.mem_of_getElem? (i := 59) rfl) (by decide) (by rw [tb_b190]; decide +kernel) ?_
    have m22 := Tq.fr hT f9 (by decide) (by decide)
    refine x_cI (t := 6) (mj := 171) (n := 2) (rc := 12) (ml := 2) (nr := 0) (np := 62) (as := [x_r 75, x_b (24 + 1)]) (rest := []) (lo1 := [x_r 75, x_b (24 + 1)]) (by decide +kernel) (by decide) (by decide +kernel) (x_rb_of (by decide +kernel)) rfl rfl (x_wr (by decide) (x_wB (by decide) x_wn)) x_wn (by decide) rfl (c171_75_S0 j8  (by decide) m22) (fun v19 h23 l20 q21 => ?_)
    obtain ⟨j24, f25, b26, c27, c28, c29, c30⟩ := q21
    have f31 := Fr.trans f15 f25 (by decide)
    have b32 := jB (e := 7) 0 j24 rg_75_7_0_1 (by first | decide | omega) (by first | decide | omega)
    refine x_ifz (k := 0) (tg := 114) (np := 65) (by decide +kernel) (by decide) l20 (fun q33 => ?_) (fun q34 => ?_)
    · have q33 : v19 = 2147483648 := q33
      refine x_aload (np := 115) (x := 0) (by decide +kernel) rfl (x_nc_le (by decide)) ?_
      refine x_ldcB (i := 25) (idx := 250) (tx := "own") (by rw [tb_y190]; exact List.mem_of_getElem? (i := 60) rfl) (by decide) (by rw [tb_b190]; decide +kernel) ?_
      have m38 := Tq.fr m22 f25 (by decide) (by decide)
      refine x_cI (t := 6) (mj := 171) (n := 2) (rc := 12) (ml := 2) (nr := 0) (np := 120) (as := [x_r 75, x_b (25 + 1)]) (rest := []) (lo1 := [x_r 75, x_b (25 + 1)]) (by decide +kernel) (by decide) (by decide +kernel) (x_rb_of (by decide +kernel)) rfl rfl (x_wr (by decide) (x_wB (by decide) x_wn)) x_wn (by decide) rfl (c171_75_S0 j24  (by decide) m38) (fun v35 h39 l36 q37 => ?_)
      obtain ⟨j40, f41, b42, c43, c44, c45, c46⟩ := q37
      have f47 := Fr.trans f31 f41 (by decide)
      have b48 := jB (e := 7) 0 j40 rg_75_7_0_1 (by first | decide | omega) (by first | decide | omega)
      refine x_istore (np := 121) (x := 1) (lo' := [x_r 75, iv_c v35, 147573952589676412928]) (by decide +kernel) l36 (Nat.le_of_ble_eq_true rfl) rfl ?_
      refine x_iload (np := 122) (x := 1) (by decide +kernel) rfl l36 ?_
      refine x_ifz (k := 1) (tg := 134) (np := 125) (by decide +kernel) (by decide) l36 (fun q49 => ?_) (fun q50 => ?_)
      · have q49 : v35 ≠ 2147483648 := q49
        have b51 := c44 (by first | decide | omega)
        refine x_aload (np := 135) (x := 0) (by decide +kernel) rfl (x_nc_le (by decide)) ?_
        refine x_iload (np := 136) (x := 1) (by decide +kernel) rfl l36 ?_
        refine x_ifz (k := 0) (tg := 144) (np := 139) (by decide +kernel) (by decide) l36 (fun q52 => ?_) (fun q53 => ?_)
        · have q52 : v35 = 2147483648 := q52
          exfalso; omega
        have q53 : ¬ (v35 = 2147483648) := q53
        refine x_const (np := 141) (x := 9223372064772063238) (a := 2147483654) (by decide +kernel) (by decide) (by decide) ?_
        refine x_goto (np := 144) (x := 146) (by decide +kernel) ?_
        refine x_const (np := 147) (x := 9223372039002259456) (a := 2147483648) (by decide +kernel) (by decide) (by decide) ?_
        refine x_nV (t := 6) (mj := 187) (n := 3) (rc := 12) (ml := 3) (nr := 0) (np := 150) (as := [x_r 75, iv_c 2147483654, iv_c 2147483648]) (rest := []) (lo1 := [x_r 75, iv_c 2147483654, iv_c 2147483648]) (by decide +kernel) (by decide) (by decide +kernel) (x_rb_of (by decide +kernel)) rfl rfl (x_wr (by decide) (x_wi (by decide) (x_wi (by decide) x_wn))) x_wn (by decide) rfl ?_
        refine x_aload (np := 1) (x := 0) (by decide +kernel) rfl (x_nc_le (by decide)) ?_
        have q54 : h39 75 1 = 76 := by have z := jB (e := 1) 0 j40 rg_75_1_0_1 (by decide) (by decide); omega
        refine x_getR (np := 4) (x := 705) (f := 1) (q := 76) (by decide +kernel) (by decide) (by decide +kernel) q54 ?_
        refine x_const (np := 7) (x := 9223376986804585600) (a := 2147484800) (by decide +kernel) (by decide) (by decide) ?_
        refine x_const (np := 8) (x := 9223372047592194050) (a := 2147483650) (by decide +kernel) (by decide) (by decide) ?_
        refine x_aload (np := 9) (x := 0) (by decide +kernel) rfl (x_nc_le (by decide)) ?_
        have q55 : h39 75 13 = h23 75 13 := jK 0 f41 rg_75_13_0_1 (by first | decide | omega) (by first | decide | omega) (by decide)
        have q56 : h23 75 13 = h7 75 13 := jK 0 f25 rg_75_13_0_1 (by first | decide | omega) (by first | decide | omega) (by decide)
        have q57 : h7 75 13 = h 75 13 := jK 0 f9 rg_75_13_0_1 (by first | decide | omega) (by first | decide | omega) (by decide)
        refine x_getC (np := 12) (x := 717) (f := 13) (q := (h 75 13)) (by decide +kernel) (by decide) (by decide +kernel) ((q55.trans q56).trans q57) (fun l58 => ?_)
        obtain ⟨u59, q60⟩ : ∃ z, (h 75 13) = 2147483648 + z := ⟨(h 75 13) - 2147483648, by first | decide | omega⟩
        refine x_imul (np := 13) (x := 0) (i := 2) (j := u59) (v := (2147483648 + 2 * u59)) (by decide +kernel) (by first | decide | omega) (by first | decide | omega) (by first | decide | omega) (by first | decide | omega) (by decide) l58 ?_
        refine x_iadd (np := 14) (x := 0) (v := (2147484800 + 2 * u59)) (by decide +kernel) (by decide) (by first | decide | omega) (by first | decide | omega) (by first | decide | omega) ?_
        refine x_iload (np := 15) (x := 1) (by decide +kernel) rfl (by decide) ?_
        refine x_ast (np := 16) (x := 0) (kd := 1) (n := 1952) (i := (1152 + 2 * u59)) (by decide +kernel) (Or.inl rfl) (by decide +kernel) (by first | decide | omega) (by first | decide | omega) (by decide) (by decide) (fun z => absurd z (by decide)) ?_
        have j63 := jU (e := (1152 + 2 * u59)) (v := 2147483654) u59 j40 rg_76_1152_2_394 (by first | decide | omega) (by first | decide | omega) (by first | decide | omega)
        have f65 := jF (e := (1152 + 2 * u59)) (v := 2147483654) u59 f47 rg_76_1152_2_394 (by first | decide | omega) (by first | decide | omega) (by decide)
        generalize e64 : x_up h39 76 (1152 + 2 * u59) 2147483654 = h62 at j63 f65 ⊢
        refine x_aload (np := 17) (x := 0) (by decide +kernel) rfl (x_nc_le (by decide)) ?_
        have q66 : h62 75 1 = 76 := by have z := jB (e := 1) 0 j63 rg_75_1_0_1 (by decide) (by decide); omega
        refine x_getR (np := 20) (x := 705) (f := 1) (q := 76) (by decide +kernel) (by decide) (by decide +kernel) q66 ?_
        refine x_const (np := 23) (x := 9223376986804585600) (a := 2147484800) (by decide +kernel) (by decide) (by decide) ?_
        refine x_const (np := 24) (x := 9223372047592194050) (a := 2147483650) (by decide +kernel) (by decide) (by decide) ?_
        refine x_aload (np := 25) (x := 0) (by decide +kernel) rfl (x_nc_le (by decide)) ?_
        have q67 : h62 75 13 = h39 75 13 := by rw [← e64]; exact x_up_k (by decide)
        have q68 : h39 75 13 = h23 75 13 := jK 0 f41 rg_75_13_0_1 (by first | decide | omega) (by first | decide | omega) (by decide)
        have q69 : h23 75 13 = h7 75 13 := jK 0 f25 rg_75_13_0_1 (by first | decide | omega) (by first | decide | omega) (by decide)
        have q70 : h7 75 13 = h 75 13 := jK 0 f9 rg_75_13_0_1 (by first | decide | omega) (by first | decide | omega) (by decide)
        refine x_getC (np := 28) (x := 717) (f := 13) (q := (h 75 13)) (by decide +kernel) (by decide) (by decide +kernel) (((q67.trans q68).trans q69).trans q70) (fun l71 => ?_)
        refine x_imul (np := 29) (x := 0) (i := 2) (j := u59) (v := (2147483648 + 2 * u59)) (by decide +kernel) (by first | decide | omega) (by first | decide | omega) (by first | decide | omega) (by first | decide | omega) (by decide) l58 ?_
        refine x_iadd (np := 30) (x := 0) (v := (2147484800 + 2 * u59)) (by decide +kernel) (by decide) (by first | decide | omega) (by first | decide | omega) (by first | decide | omega) ?_
        refine x_const (np := 31) (x := 9223372043297226753) (a := 2147483649) (by decide +kernel) (by decide) (by decide) ?_
        refine x_iadd (np := 32) (x := 0) (v := (2147484801 + 2 * u59)) (by decide +kernel) (by first | decide | omega) (by decide) (by first | decide | omega) (by first | decide | omega) ?_
        refine x_iload (np := 33) (x := 2) (by decide +kernel) rfl (by decide) ?_
        refine x_ast (np := 34) (x := 0) (kd := 1) (n := 1952) (i := (1153 + 2 * u59)) (by decide +kernel) (Or.inl rfl) (by decide +kernel) (by first | decide | omega) (by first | decide | omega) (by decide) (by decide) (fun z => absurd z (by decide)) ?_
        have j74 := jU (e := (1153 + 2 * u59)) (v := 2147483648) u59 j63 rg_76_1153_2_394 (by first | decide | omega) (by first | decide | omega) (by first | decide | omega)
        have f76 := jF (e := (1153 + 2 * u59)) (v := 2147483648) u59 f65 rg_76_1153_2_394 (by first | decide | omega) (by first | decide | omega) (by decide)
        generalize e75 : x_up h62 76 (1153 + 2 * u59) 2147483648 = h73 at j74 f76 ⊢
        refine x_aload (np := 35) (x := 0) (by decide +kernel) rfl (x_nc_le (by decide)) ?_
        refine x_dup (np := 36) (x := 0) (by decide +kernel) (by have z := x_nc_le (k := 75) (by decide); unfold x_r; omega) ?_
        have q77 : h73 75 13 = h62 75 13 := by rw [← e75]; exact x_up_k (by decide)
        have q78 : h62 75 13 = h39 75 13 := by rw [← e64]; exact x_up_k (by decide)
        have q79 : h39 75 13 = h23 75 13 := jK 0 f41 rg_75_13_0_1 (by first | decide | omega) (by first | decide | omega) (by decide)
        have q80 : h23 75 13 = h7 75 13 := jK 0 f25 rg_75_13_0_1 (by first | decide | omega) (by first | decide | omega) (by decide)
        have q81 : h7 75 13 = h 75 13 := jK 0 f9 rg_75_13_0_1 (by first | decide | omega) (by first | decide | omega) (by decide)
        refine x_getC (np := 39) (x := 717) (f := 13) (q := (h 75 13)) (by decide +kernel) (by decide) (by decide +kernel) ((((q77.trans q78).trans q79).trans q80).trans q81) (fun l82 => ?_)
        refine x_const (np := 40) (x := 9223372043297226753) (a := 2147483649) (by decide +kernel) (by decide) (by decide) ?_
        refine x_iadd (np := 41) (x := 0) (v := (1 + (h 75 13))) (by decide +kernel) l58 (by decide) (by first | decide | omega) (by first | decide | omega) ?_
        refine x_putI (np := 44) (x := 717) (f := 13) (by decide +kernel) (by decide +kernel) (by first | decide | omega) (Or.inl (by decide)) ?_
        have j84 := jU (e := 13) (v := (1 + (h 75 13))) 0 j74 rg_75_13_0_1 (by first | decide | omega) (by first | decide | omega) (by first | decide | omega)
        have f86 := jF (e := 13) (v := (1 + (h 75 13))) 0 f76 rg_75_13_0_1 (by first | decide | omega) (by first | decide | omega) (by decide)
        generalize e85 : x_up h73 75 13 (1 + (h 75 13)) = h83 at j84 f86 ⊢
        refine x_retV (np := 45) (x := 0) (by decide +kernel) (by decide +kernel) ⟨rfl, ?_⟩
        have q87 : h83 75 13 = (1 + (h 75 13)) := by rw [← e85]; exact x_up_at
        refine x_const (np := 151) (x := 9223372043297226753) (a := 2147483649) (by decide +kernel) (by decide) (by decide) ?_
        have q88 : h83 75 13 = (1 + (h 75 13)) := by rw [← e85]; exact x_up_at
        have q89 : h83 75 7 = h73 75 7 := by rw [← e85]; exact x_up_i (by first | decide | omega)
        have q90 : h73 75 7 = h62 75 7 := by rw [← e75]; exact x_up_k (by decide)
        have q91 : h62 75 7 = h39 75 7 := by rw [← e64]; exact x_up_k (by decide)
        have q92 : h83 75 10 = h73 75 10 := by rw [← e85]; exact x_up_i (by first | decide | omega)
        have q93 : h73 75 10 = h62 75 10 := by rw [← e75]; exact x_up_k (by decide)
        have q94 : h62 75 10 = h39 75 10 := by rw [← e64]; exact x_up_k (by decide)
        have q95 : h39 75 10 = h23 75 10 := jK 0 f41 rg_75_10_0_1 (by first | decide | omega) (by first | decide | omega) (by decide)
        have q96 : h23 75 10 = h7 75 10 := jK 0 f25 rg_75_10_0_1 (by first | decide | omega) (by first | decide | omega) (by decide)
        have q97 : h7 75 10 = h 75 10 := jK 0 f9 rg_75_10_0_1 (by first | decide | omega) (by first | decide | omega) (by decide)
        have q98 : h83 75 7 = h73 75 7 := by rw [← e85]; exact x_up_i (by first | decide | omega)
        have q99 : h73 75 7 = h62 75 7 := by rw [← e75]; exact x_up_k (by decide)
        have q100 : h62 75 7 = h39 75 7 := by rw [← e64]; exact x_up_k (by decide)
        have q101 : h83 75 13 = (1 + (h 75 13)) := by rw [← e85]; exact x_up_at
        have k107 : Kp h h7 (h 75 13 - 2147483648) := Kp.fr Kp.refl f9 (by first | decide | omega) (by decide)
        have k106 : Kp h h23 (h 75 13 - 2147483648) := Kp.fr k107 f25 (by first | decide | omega) (by decide)
        have k105 : Kp h h39 (h 75 13 - 2147483648) := Kp.fr k106 f41 (by first | decide | omega) (by decide)
        have k104 : Kp h h62 (h 75 13 - 2147483648) := by rw [← e64]; exact Kp.up k105 (by first | decide | omega) (fun i hi => by first | decide | omega)
        have k103 : Kp h h73 (h 75 13 - 2147483648) := by rw [← e75]; exact Kp.up k104 (by first | decide | omega) (fun i hi => by first | decide | omega)
        have k102 : Kp h h83 (h 75 13 - 2147483648) := by rw [← e85]; exact Kp.oth k103 (by decide)
        have q108 : h83 75 13 = (1 + (h 75 13)) := by rw [← e85]; exact x_up_at
        have q110 : h83 76 (1152 + 2 * u59) = h73 76 (1152 + 2 * u59) := by rw [← e85]; exact x_up_k (by decide)
        have q111 : h73 76 (1152 + 2 * u59) = h62 76 (1152 + 2 * u59) := by rw [← e75]; exact x_up_i (by first | decide | omega)
        have q112 : h62 76 (1152 + 2 * u59) = 2147483654 := by rw [← e64]; exact x_up_at
        have s109 : Seg (sg h83) u59 (u59 + 1) := Seg.push (show 2147483648 ≤ h83 76 (1152 + 2 * u59) by first | decide | omega) (show h83 76 (1152 + 2 * u59) ≤ 2147483656 by first | decide | omega)
        have s113 : Seg (sg h83) (h 75 13 - 2147483648) (h83 75 13 - 2147483648) := Seg.cast (Seg.kp s109 Kp.refl) (by first | decide | omega) (by first | decide | omega)
        obtain ⟨w114, e115⟩ := Tk.no c13 (by first | decide | omega)
        obtain ⟨w116, e117⟩ := Tk.no c29 (by first | decide | omega)
        obtain ⟨w118, e119⟩ := Tk.yes c45 (by first | decide | omega)
        have q120 : h83 75 7 = h73 75 7 := by rw [← e85]; exact x_up_i (by first | decide | omega)
        have q121 : h73 75 7 = h62 75 7 := by rw [← e75]; exact x_up_k (by decide)
        have q122 : h62 75 7 = h39 75 7 := by rw [← e64]; exact x_up_k (by decide)
        refine x_retI (np := 152) (x := 0) (by decide +kernel) (by decide) (Or.inr ⟨by decide +kernel, by first | decide | omega, by first | decide | omega⟩) ⟨_, rfl, (by decide), ?_⟩
        exact ⟨j84, f86, (by first | decide | omega), (fun z => by first | decide | omega), (fun z => by first | decide | omega), (fun z => by first | decide | omega), (fun z => by first | decide | omega), k102, (fun _ => s113), (gA_own w118 (Eq.trans e117 e115) e119 (by first | decide | omega) (congrArg (sk tB tN) (show h39 75 7 = h83 75 7 by first | decide | omega))), (fun z => absurd z (by first | decide | omega))⟩
      have q50 : ¬ (v35 ≠ 2147483648) := q50
      refine x_aload (np := 126) (x := 0) (by decide +kernel) rfl (x_nc_le (by decide)) ?_
      refine x_ldcB (i := 26) (idx := 252) (tx := "mine") (by rw [tb_y190]; exact List.mem_of_getElem? (i := 61) rfl) (by decide) (by rw [tb_b190]; decide +kernel) ?_
      have m126 := Tq.fr m38 f41 (by decide) (by decide)
      refine x_cI (t := 6) (mj := 171) (n := 2) (rc := 12) (ml := 2) (nr := 0) (np := 131) (as := [x_r 75, x_b (26 + 1)]) (rest := []) (lo1 := [x_r 75, x_b (26 + 1)]) (by decide +kernel) (by decide) (by decide +kernel) (x_rb_of (by decide +kernel)) rfl rfl (x_wr (by decide) (x_wB (by decide) x_wn)) x_wn (by decide) rfl (c171_75_S0 j40  (by decide) m126) (fun v123 h127 l124 q125 => ?_)
      obtain ⟨j128, f129, b130, c131, c132, c133, c134⟩ := q125
      have f135 := Fr.trans f47 f129 (by decide)
      have b136 := jB (e := 7) 0 j128 rg_75_7_0_1 (by first | decide | omega) (by first | decide | omega)
      refine x_ifz (k := 0) (tg := 152) (np := 134) (by decide +kernel) (by decide) l124 (fun q137 => ?_) (fun q138 => ?_)
      · have q137 : v123 = 2147483648 := q137
        refine x_aload (np := 153) (x := 0) (by decide +kernel) rfl (x_nc_le (by decide)) ?_
        have q139 : h127 75 13 = h39 75 13 := jK 0 f129 rg_75_13_0_1 (by first | decide | omega) (by first | decide | omega) (by decide)
        have q140 : h39 75 13 = h23 75 13 := jK 0 f41 rg_75_13_0_1 (by first | decide | omega) (by first | decide | omega) (by decide)
        have q141 : h23 75 13 = h7 75 13 := jK 0 f25 rg_75_13_0_1 (by first | decide | omega) (by first | decide | omega) (by decide)
        have q142 : h7 75 13 = h 75 13 := jK 0 f9 rg_75_13_0_1 (by first | decide | omega) (by first | decide | omega) (by decide)
        have m146 := Tq.fr m126 f129 (by decide) (by decide)
        refine x_cI (t := 6) (mj := 189) (n := 1) (rc := 12) (ml := 1) (nr := 0) (np := 156) (as := [x_r 75]) (rest := []) (lo1 := [x_r 75]) (by decide +kernel) (by decide) (by decide +kernel) (x_rb_of (by decide +kernel)) rfl rfl (x_wr (by decide) x_wn) x_wn (by decide) rfl (c189_75 j128  (by first | decide | omega) m146) (fun v143 h147 l144 q145 => ?_)
        obtain ⟨j148, f149, b150, c151, c152, c153, c154, c155, c156, c157⟩ := q145
        have f158 := Fr.trans f135 f149 (by decide)
        have q159 : h127 75 13 = h39 75 13 := jK 0 f129 rg_75_13_0_1 (by first | decide | omega) (by first | decide | omega) (by decide)
        have q160 : h39 75 13 = h23 75 13 := jK 0 f41 rg_75_13_0_1 (by first | decide | omega) (by first | decide | omega) (by decide)
        have q161 : h23 75 13 = h7 75 13 := jK 0 f25 rg_75_13_0_1 (by first | decide | omega) (by first | decide | omega) (by decide)
        have q162 : h7 75 13 = h 75 13 := jK 0 f9 rg_75_13_0_1 (by first | decide | omega) (by first | decide | omega) (by decide)
        have b163 := jB (e := 13) 0 j148 rg_75_13_0_1 (by first | decide | omega) (by first | decide | omega)
        have b164 := jB (e := 7) 0 j148 rg_75_7_0_1 (by first | decide | omega) (by first | decide | omega)
        have q165 : h127 75 13 = h39 75 13 := jK 0 f129 rg_75_13_0_1 (by first | decide | omega) (by first | decide | omega) (by decide)
        have q166 : h39 75 13 = h23 75 13 := jK 0 f41 rg_75_13_0_1 (by first | decide | omega) (by first | decide | omega) (by decide)
        have q167 : h23 75 13 = h7 75 13 := jK 0 f25 rg_75_13_0_1 (by first | decide | omega) (by first | decide | omega) (by decide)
        have q168 : h7 75 13 = h 75 13 := jK 0 f9 rg_75_13_0_1 (by first | decide | omega) (by first | decide | omega) (by decide)
        refine x_ifz (k := 1) (tg := 161) (np := 159) (by decide +kernel) (by decide) l144 (fun q169 => ?_) (fun q170 => ?_)
        · have q169 : v143 ≠ 2147483648 := q169
          have b171 := c151 (by first | decide | omega)
          have b172 := c152 (by first | decide | omega)
          have b173 := c153 (by first | decide | omega)
          have s174 := c155 (by first | decide | omega)
          have q175 : h127 75 13 = h39 75 13 := jK 0 f129 rg_75_13_0_1 (by first | decide | omega) (by first | decide | omega) (by decide)
          have q176 : h39 75 13 = h23 75 13 := jK 0 f41 rg_75_13_0_1 (by first | decide | omega) (by first | decide | omega) (by decide)
          have q177 : h23 75 13 = h7 75 13 := jK 0 f25 rg_75_13_0_1 (by first | decide | omega) (by first | decide | omega) (by decide)
          have q178 : h7 75 13 = h 75 13 := jK 0 f9 rg_75_13_0_1 (by first | decide | omega) (by first | decide | omega) (by decide)
          refine x_aload (np := 162) (x := 0) (by decide +kernel) rfl (x_nc_le (by decide)) ?_
          refine x_const (np := 164) (x := 9223372296700297276) (a := 2147483708) (by decide +kernel) (by decide) (by decide) ?_
          have m182 := Tq.fr m146 f149 (by decide) (by decide)
          refine x_cI (t := 6) (mj := 173) (n := 2) (rc := 12) (ml := 2) (nr := 0) (np := 167) (as := [x_r 75, iv_c 2147483708]) (rest := []) (lo1 := [x_r 75, iv_c 2147483708]) (by decide +kernel) (by decide) (by decide +kernel) (x_rb_of (by decide +kernel)) rfl rfl (x_wr (by decide) (x_wi (by decide) x_wn)) x_wn (by decide) rfl (c173_75 j148  (by first | decide | omega) m182) (fun v179 h183 l180 q181 => ?_)
          obtain ⟨j184, f185, b186, c187, c188, c189, c190⟩ := q181
          have f191 := Fr.trans f158 f185 (by decide)
          have b192 := jB (e := 7) 0 j184 rg_75_7_0_1 (by first | decide | omega) (by first | decide | omega)
          refine x_istore (np := 168) (x := 2) (lo' := [x_r 75, iv_c v35, iv_c v179]) (by decide +kernel) l180 (Nat.le_of_ble_eq_true rfl) rfl ?_
          refine x_iload (np := 169) (x := 2) (by decide +kernel) rfl l180 ?_
          refine x_ifz (k := 1) (tg := 181) (np := 172) (by decide +kernel) (by decide) l180 (fun q193 => ?_) (fun q194 => ?_)
          · have q193 : v179 ≠ 2147483648 := q193
            have b195 := c188 (by first | decide | omega)
            refine x_aload (np := 182) (x := 0) (by decide +kernel) rfl (x_nc_le (by decide)) ?_
            have q196 : h183 75 13 = h147 75 13 := jK 0 f185 rg_75_13_0_1 (by first | decide | omega) (by first | decide | omega) (by decide)
            have m200 := Tq.fr m182 f185 (by decide) (by decide)
            refine x_cI (t := 6) (mj := 189) (n := 1) (rc := 12) (ml := 1) (nr := 0) (np := 185) (as := [x_r 75]) (rest := []) (lo1 := [x_r 75]) (by decide +kernel) (by decide) (by decide +kernel) (x_rb_of (by decide +kernel)) rfl rfl (x_wr (by decide) x_wn) x_wn (by decide) rfl (c189_75 j184  (by first | decide | omega) m200) (fun v197 h201 l198 q199 => ?_)
            obtain ⟨j202, f203, b204, c205, c206, c207, c208, c209, c210, c211⟩ := q199
            have f212 := Fr.trans f191 f203 (by decide)
            have q213 : h183 75 13 = h147 75 13 := jK 0 f185 rg_75_13_0_1 (by first | decide | omega) (by first | decide | omega) (by decide)
            have b214 := jB (e := 13) 0 j202 rg_75_13_0_1 (by first | decide | omega) (by first | decide | omega)
            have b215 := jB (e := 7) 0 j202 rg_75_7_0_1 (by first | decide | omega) (by first | decide | omega)
            have q216 : h183 75 13 = h147 75 13 := jK 0 f185 rg_75_13_0_1 (by first | decide | omega) (by first | decide | omega) (by decide)
            refine x_ifz (k := 1) (tg := 190) (np := 188) (by decide +kernel) (by decide) l198 (fun q217 => ?_) (fun q218 => ?_)
            · have q217 : v197 ≠ 2147483648 := q217
              have b219 := c205 (by first | decide | omega)
              have b220 := c206 (by first | decide | omega)
              have b221 := c207 (by first | decide | omega)
              have s222 := c209 (by first | decide | omega)
              have q223 : h183 75 13 = h147 75 13 := jK 0 f185 rg_75_13_0_1 (by first | decide | omega) (by first | decide | omega) (by decide)
              refine x_aload (np := 191) (x := 0) (by decide +kernel) rfl (x_nc_le (by decide)) ?_
              refine x_iload (np := 192) (x := 2) (by decide +kernel) rfl l180 ?_
              refine x_ifz (k := 0) (tg := 200) (np := 195) (by decide +kernel) (by decide) l180 (fun q224 => ?_) (fun q225 => ?_)
              · have q224 : v179 = 2147483648 := q224
                exfalso; omega
              have q225 : ¬ (v179 = 2147483648) := q225
              refine x_const (np := 197) (x := 9223372081951932426) (a := 2147483658) (by decide +kernel) (by decide) (by decide) ?_
              refine x_goto (np := 200) (x := 202) (by decide +kernel) ?_
              refine x_const (np := 203) (x := 9223372039002259456) (a := 2147483648) (by decide +kernel) (by decide) (by decide) ?_
              refine x_nV (t := 6) (mj := 187) (n := 3) (rc := 12) (ml := 3) (nr := 0) (np := 206) (as := [x_r 75, iv_c 2147483658, iv_c 2147483648]) (rest := []) (lo1 := [x_r 75, iv_c 2147483658, iv_c 2147483648]) (by decide +kernel) (by decide) (by decide +kernel) (x_rb_of (by decide +kernel)) rfl rfl (x_wr (by decide) (x_wi (by decide) (x_wi (by decide) x_wn))) x_wn (by decide) rfl ?_
              refine x_aload (np := 1) (x := 0) (by decide +kernel) rfl (x_nc_le (by decide)) ?_
              have q226 : h201 75 1 = 76 := by have z := jB (e := 1) 0 j202 rg_75_1_0_1 (by decide) (by decide); omega
              refine x_getR (np := 4) (x := 705) (f := 1) (q := 76) (by decide +kernel) (by decide) (by decide +kernel) q226 ?_
              refine x_const (np := 7) (x := 9223376986804585600) (a := 2147484800) (by decide +kernel) (by decide) (by decide) ?_
              refine x_const (np := 8) (x := 9223372047592194050) (a := 2147483650) (by decide +kernel) (by decide) (by decide) ?_
              refine x_aload (np := 9) (x := 0) (by decide +kernel) rfl (x_nc_le (by decide)) ?_
              refine x_getC (np := 12) (x := 717) (f := 13) (q := (h201 75 13)) (by decide +kernel) (by decide) (by decide +kernel) rfl (fun l227 => ?_)
              obtain ⟨u228, q229⟩ : ∃ z, (h201 75 13) = 2147483648 + z := ⟨(h201 75 13) - 2147483648, by first | decide | omega⟩
              refine x_imul (np := 13) (x := 0) (i := 2) (j := u228) (v := (2147483648 + 2 * u228)) (by decide +kernel) (by first | decide | omega) (by first | decide | omega) (by first | decide | omega) (by first | decide | omega) (by decide) l227 ?_
              refine x_iadd (np := 14) (x := 0) (v := (2147484800 + 2 * u228)) (by decide +kernel) (by decide) (by first | decide | omega) (by first | decide | omega) (by first | decide | omega) ?_
              refine x_iload (np := 15) (x := 1) (by decide +kernel) rfl (by decide) ?_
              refine x_ast (np := 16) (x := 0) (kd := 1) (n := 1952) (i := (1152 + 2 * u228)) (by decide +kernel) (Or.inl rfl) (by decide +kernel) (by first | decide | omega) (by first | decide | omega) (by decide) (by decide) (fun z => absurd z (by decide)) ?_
              have j232 := jU (e := (1152 + 2 * u228)) (v := 2147483658) u228 j202 rg_76_1152_2_395 (by first | decide | omega) (by first | decide | omega) (by first | decide | omega)
              have f234 := jF (e := (1152 + 2 * u228)) (v := 2147483658) u228 f212 rg_76_1152_2_395 (by first | decide | omega) (by first | decide | omega) (by decide)
              generalize e233 : x_up h201 76 (1152 + 2 * u228) 2147483658 = h231 at j232 f234 ⊢
              refine x_aload (np := 17) (x := 0) (by decide +kernel) rfl (x_nc_le (by decide)) ?_
              have q235 : h231 75 1 = 76 := by have z := jB (e := 1) 0 j232 rg_75_1_0_1 (by decide) (by decide); omega
              refine x_getR (np := 20) (x := 705) (f := 1) (q := 76) (by decide +kernel) (by decide) (by decide +kernel) q235 ?_
              refine x_const (np := 23) (x := 9223376986804585600) (a := 2147484800) (by decide +kernel) (by decide) (by decide) ?_
              refine x_const (np := 24) (x := 9223372047592194050) (a := 2147483650) (by decide +kernel) (by decide) (by decide) ?_
              refine x_aload (np := 25) (x := 0) (by decide +kernel) rfl (x_nc_le (by decide)) ?_
              have q236 : h231 75 13 = h201 75 13 := by rw [← e233]; exact x_up_k (by decide)
              refine x_getC (np := 28) (x := 717) (f := 13) (q := (h201 75 13)) (by decide +kernel) (by decide) (by decide +kernel) q236 (fun l237 => ?_)
              refine x_imul (np := 29) (x := 0) (i := 2) (j := u228) (v := (2147483648 + 2 * u228)) (by decide +kernel) (by first | decide | omega) (by first | decide | omega) (by first | decide | omega) (by first | decide | omega) (by decide) l227 ?_
              refine x_iadd (np := 30) (x := 0) (v := (2147484800 + 2 * u228)) (by decide +kernel) (by decide) (by first | decide | omega) (by first | decide | omega) (by first | decide | omega) ?_
              refine x_const (np := 31) (x := 9223372043297226753) (a := 2147483649) (by decide +kernel) (by decide) (by decide) ?_
              refine x_iadd (np := 32) (x := 0) (v := (2147484801 + 2 * u228)) (by decide +kernel) (by first | decide | omega) (by decide) (by first | decide | omega) (by first | decide | omega) ?_
              refine x_iload (np := 33) (x := 2) (by decide +kernel) rfl (by decide) ?_
              refine x_ast (np := 34) (x := 0) (kd := 1) (n := 1952) (i := (1153 + 2 * u228)) (by decide +kernel) (Or.inl rfl) (by decide +kernel) (by first | decide | omega) (by first | decide | omega) (by decide) (by decide) (fun z => absurd z (by decide)) ?_
              have j240 := jU (e := (1153 + 2 * u228)) (v := 2147483648) u228 j232 rg_76_1153_2_395 (by first | decide | omega) (by first | decide | omega) (by first | decide | omega)
              have f242 := jF (e := (1153 + 2 * u228)) (v := 2147483648) u228 f234 rg_76_1153_2_395 (by first | decide | omega) (by first | decide | omega) (by decide)
              generalize e241 : x_up h231 76 (1153 + 2 * u228) 2147483648 = h239 at j240 f242 ⊢
              refine x_aload (np := 35) (x := 0) (by decide +kernel) rfl (x_nc_le (by decide)) ?_
              refine x_dup (np := 36) (x := 0) (by decide +kernel) (by have z := x_nc_le (k := 75) (by decide); unfold x_r; omega) ?_
              have q243 : h239 75 13 = h231 75 13 := by rw [← e241]; exact x_up_k (by decide)
              have q244 : h231 75 13 = h201 75 13 := by rw [← e233]; exact x_up_k (by decide)
              refine x_getC (np := 39) (x := 717) (f := 13) (q := (h201 75 13)) (by decide +kernel) (by decide) (by decide +kernel) (q243.trans q244) (fun l245 => ?_)
              refine x_const (np := 40) (x := 9223372043297226753) (a := 2147483649) (by decide +kernel) (by decide) (by decide) ?_
              refine x_iadd (np := 41) (x := 0) (v := (1 + (h201 75 13))) (by decide +kernel) l227 (by decide) (by first | decide | omega) (by first | decide | omega) ?_
              refine x_putI (np := 44) (x := 717) (f := 13) (by decide +kernel) (by decide +kernel) (by first | decide | omega) (Or.inl (by decide)) ?_
              have j247 := jU (e := 13) (v := (1 + (h201 75 13))) 0 j240 rg_75_13_0_1 (by first | decide | omega) (by first | decide | omega) (by first | decide | omega)
              have f249 := jF (e := 13) (v := (1 + (h201 75 13))) 0 f242 rg_75_13_0_1 (by first | decide | omega) (by first | decide | omega) (by decide)
              generalize e248 : x_up h239 75 13 (1 + (h201 75 13)) = h246 at j247 f249 ⊢
              refine x_retV (np := 45) (x := 0) (by decide +kernel) (by decide +kernel) ⟨rfl, ?_⟩
              have q250 : h246 75 13 = (1 + (h201 75 13)) := by rw [← e248]; exact x_up_at
              refine x_const (np := 207) (x := 9223372043297226753) (a := 2147483649) (by decide +kernel) (by decide) (by decide) ?_
              have q251 : h246 75 13 = (1 + (h201 75 13)) := by rw [← e248]; exact x_up_at
              have q252 : h246 75 7 = h239 75 7 := by rw [← e248]; exact x_up_i (by first | decide | omega)
              have q253 : h239 75 7 = h231 75 7 := by rw [← e241]; exact x_up_k (by decide)
              have q254 : h231 75 7 = h201 75 7 := by rw [← e233]; exact x_up_k (by decide)
              have q255 : h246 75 10 = h239 75 10 := by rw [← e248]; exact x_up_i (by first | decide | omega)
              have q256 : h239 75 10 = h231 75 10 := by rw [← e241]; exact x_up_k (by decide)
              have q257 : h231 75 10 = h201 75 10 := by rw [← e233]; exact x_up_k (by decide)
              have q258 : h201 75 10 = h183 75 10 := jK 0 f203 rg_75_10_0_1 (by first | decide | omega) (by first | decide | omega) (by decide)
              have q259 : h183 75 10 = h147 75 10 := jK 0 f185 rg_75_10_0_1 (by first | decide | omega) (by first | decide | omega) (by decide)
              have q260 : h147 75 10 = h127 75 10 := jK 0 f149 rg_75_10_0_1 (by first | decide | omega) (by first | decide | omega) (by decide)
              have q261 : h127 75 10 = h39 75 10 := jK 0 f129 rg_75_10_0_1 (by first | decide | omega) (by first | decide | omega) (by decide)
              have q262 : h39 75 10 = h23 75 10 := jK 0 f41 rg_75_10_0_1 (by first | decide | omega) (by first | decide | omega) (by decide)
              have q263 : h23 75 10 = h7 75 10 := jK 0 f25 rg_75_10_0_1 (by first | decide | omega) (by first | decide | omega) (by decide)
              have q264 : h7 75 10 = h 75 10 := jK 0 f9 rg_75_10_0_1 (by first | decide | omega) (by first | decide | omega) (by decide)
              have q265 : h246 75 7 = h239 75 7 := by rw [← e248]; exact x_up_i (by first | decide | omega)
              have q266 : h239 75 7 = h231 75 7 := by rw [← e241]; exact x_up_k (by decide)
              have q267 : h231 75 7 = h201 75 7 := by rw [← e233]; exact x_up_k (by decide)
              have q268 : h246 75 13 = (1 + (h201 75 13)) := by rw [← e248]; exact x_up_at
              have k278 : Kp h h7 (h 75 13 - 2147483648) := Kp.fr Kp.refl f9 (by first | decide | omega) (by decide)
              have k277 : Kp h h23 (h 75 13 - 2147483648) := Kp.fr k278 f25 (by first | decide | omega) (by decide)
              have k276 : Kp h h39 (h 75 13 - 2147483648) := Kp.fr k277 f41 (by first | decide | omega) (by decide)
              have k275 : Kp h h127 (h 75 13 - 2147483648) := Kp.fr k276 f129 (by first | decide | omega) (by decide)
              have q279 : h127 75 13 = h39 75 13 := jK 0 f129 rg_75_13_0_1 (by first | decide | omega) (by first | decide | omega) (by decide)
              have q280 : h39 75 13 = h23 75 13 := jK 0 f41 rg_75_13_0_1 (by first | decide | omega) (by first | decide | omega) (by decide)
              have q281 : h23 75 13 = h7 75 13 := jK 0 f25 rg_75_13_0_1 (by first | decide | omega) (by first | decide | omega) (by decide)
              have q282 : h7 75 13 = h 75 13 := jK 0 f9 rg_75_13_0_1 (by first | decide | omega) (by first | decide | omega) (by decide)
              have k274 : Kp h h147 (h 75 13 - 2147483648) := Kp.trans k275 c154 (by first | decide | omega)
              have k273 : Kp h h183 (h 75 13 - 2147483648) := Kp.fr k274 f185 (by first | decide | omega) (by decide)
              have q283 : h183 75 13 = h147 75 13 := jK 0 f185 rg_75_13_0_1 (by first | decide | omega) (by first | decide | omega) (by decide)
              have k272 : Kp h h201 (h 75 13 - 2147483648) := Kp.trans k273 c208 (by first | decide | omega)
              have k271 : Kp h h231 (h 75 13 - 2147483648) := by rw [← e233]; exact Kp.up k272 (by first | decide | omega) (fun i hi => by first | decide | omega)
              have k270 : Kp h h239 (h 75 13 - 2147483648) := by rw [← e241]; exact Kp.up k271 (by first | decide | omega) (fun i hi => by first | decide | omega)
              have k269 : Kp h h246 (h 75 13 - 2147483648) := by rw [← e248]; exact Kp.oth k270 (by decide)
              have q284 : h246 75 13 = (1 + (h201 75 13)) := by rw [← e248]; exact x_up_at
              have q286 : h246 76 (1152 + 2 * u228) = h239 76 (1152 + 2 * u228) := by rw [← e248]; exact x_up_k (by decide)
              have q287 : h239 76 (1152 + 2 * u228) = h231 76 (1152 + 2 * u228) := by rw [← e241]; exact x_up_i (by first | decide | omega)
              have q288 : h231 76 (1152 + 2 * u228) = 2147483658 := by rw [← e233]; exact x_up_at
              have k293 : Kp h147 h183 (h147 75 13 - 2147483648) := Kp.fr Kp.refl f185 (by first | decide | omega) (by decide)
              have q294 : h183 75 13 = h147 75 13 := jK 0 f185 rg_75_13_0_1 (by first | decide | omega) (by first | decide | omega) (by decide)
              have k292 : Kp h147 h201 (h147 75 13 - 2147483648) := Kp.trans k293 c208 (by first | decide | omega)
              have k291 : Kp h147 h231 (h147 75 13 - 2147483648) := by rw [← e233]; exact Kp.up k292 (by first | decide | omega) (fun i hi => by first | decide | omega)
              have k290 : Kp h147 h239 (h147 75 13 - 2147483648) := by rw [← e241]; exact Kp.up k291 (by first | decide | omega) (fun i hi => by first | decide | omega)
              have k289 : Kp h147 h246 (h147 75 13 - 2147483648) := by rw [← e248]; exact Kp.oth k290 (by decide)
              have k297 : Kp h201 h231 (h201 75 13 - 2147483648) := by rw [← e233]; exact Kp.up Kp.refl (by first | decide | omega) (fun i hi => by first | decide | omega)
              have k296 : Kp h201 h239 (h201 75 13 - 2147483648) := by rw [← e241]; exact Kp.up k297 (by first | decide | omega) (fun i hi => by first | decide | omega)
              have k295 : Kp h201 h246 (h201 75 13 - 2147483648) := by rw [← e248]; exact Kp.oth k296 (by decide)
              have s285 : Seg (sg h246) (h127 75 13 - 2147483648) (u228 + 1) := Seg.bin (Seg.kp s174 k289) (Seg.cast (a' := (h147 75 13 - 2147483648)) (b' := u228) (Seg.kp s222 k295) (by first | decide | omega) (by first | decide | omega)) (show 2147483656 < h246 76 (1152 + 2 * u228) by first | decide | omega) (show h246 76 (1152 + 2 * u228) ≠ 2147483660 by first | decide | omega)
              have s298 : Seg (sg h246) (h 75 13 - 2147483648) (h246 75 13 - 2147483648) := Seg.cast (Seg.kp s285 Kp.refl) (by first | decide | omega) (by first | decide | omega)
              obtain ⟨w299, e300⟩ := Tk.no c13 (by first | decide | omega)
              obtain ⟨w301, e302⟩ := Tk.no c29 (by first | decide | omega)
              obtain ⟨w303, e304⟩ := Tk.no c45 (by first | decide | omega)
              obtain ⟨w305, e306⟩ := Tk.no c133 (by first | decide | omega)
              have w307 : An tB tN (sk tB tN (h 75 7)) := gA_an w301 e300 w299 rfl w303 (Eq.trans e302 e300) w305 (Eq.trans e304 (Eq.trans e302 e300))
              obtain ⟨w308, e309⟩ := Tk.yes c189 (by first | decide | omega)
              have q310 : h246 75 7 = h239 75 7 := by rw [← e248]; exact x_up_i (by first | decide | omega)
              have q311 : h239 75 7 = h231 75 7 := by rw [← e241]; exact x_up_k (by decide)
              have q312 : h231 75 7 = h201 75 7 := by rw [← e233]; exact x_up_k (by decide)
              refine x_retI (np := 208) (x := 0) (by decide +kernel) (by decide) (Or.inr ⟨by decide +kernel, by first | decide | omega, by first | decide | omega⟩) ⟨_, rfl, (by decide), ?_⟩
              exact ⟨j247, f249, (by first | decide | omega), (fun z => by first | decide | omega), (fun z => by first | decide | omega), (fun z => by first | decide | omega), (fun z => by first | decide | omega), k269, (fun _ => s298), (gA_c2 w307 (c156 3) (Eq.trans e306 (Eq.trans e304 (Eq.trans e302 e300))) (by first | decide | omega) (Or.inl w308) rfl e309 (c210 3) rfl (by first | decide | omega) (fun z => (congrArg (sk tB tN) (show h201 75 7 = h246 75 7 by first | decide | omega)))), (fun z => absurd z (by first | decide | omega))⟩
            have q218 : ¬ (v197 ≠ 2147483648) := q218
            refine x_const (np := 189) (x := 9223372039002259456) (a := 2147483648) (by decide +kernel) (by decide) (by decide) ?_
            have q313 : h201 75 10 = h183 75 10 := jK 0 f203 rg_75_10_0_1 (by first | decide | omega) (by first | decide | omega) (by decide)
            have q314 : h183 75 10 = h147 75 10 := jK 0 f185 rg_75_10_0_1 (by first | decide | omega) (by first | decide | omega) (by decide)
            have q315 : h147 75 10 = h127 75 10 := jK 0 f149 rg_75_10_0_1 (by first | decide | omega) (by first | decide | omega) (by decide)
            have q316 : h127 75 10 = h39 75 10 := jK 0 f129 rg_75_10_0_1 (by first | decide | omega) (by first | decide | omega) (by decide)
            have q317 : h39 75 10 = h23 75 10 := jK 0 f41 rg_75_10_0_1 (by first | decide | omega) (by first | decide | omega) (by decide)
            have q318 : h23 75 10 = h7 75 10 := jK 0 f25 rg_75_10_0_1 (by first | decide | omega) (by first | decide | omega) (by decide)
            have q319 : h7 75 10 = h 75 10 := jK 0 f9 rg_75_10_0_1 (by first | decide | omega) (by first | decide | omega) (by decide)
            have k326 : Kp h h7 (h 75 13 - 2147483648) := Kp.fr Kp.refl f9 (by first | decide | omega) (by decide)
            have k325 : Kp h h23 (h 75 13 - 2147483648) := Kp.fr k326 f25 (by first | decide | omega) (by decide)
            have k324 : Kp h h39 (h 75 13 - 2147483648) := Kp.fr k325 f41 (by first | decide | omega) (by decide)
            have k323 : Kp h h127 (h 75 13 - 2147483648) := Kp.fr k324 f129 (by first | decide | omega) (by decide)
            have q327 : h127 75 13 = h39 75 13 := jK 0 f129 rg_75_13_0_1 (by first | decide | omega) (by first | decide | omega) (by decide)
            have q328 : h39 75 13 = h23 75 13 := jK 0 f41 rg_75_13_0_1 (by first | decide | omega) (by first | decide | omega) (by decide)
            have q329 : h23 75 13 = h7 75 13 := jK 0 f25 rg_75_13_0_1 (by first | decide | omega) (by first | decide | omega) (by decide)
            have q330 : h7 75 13 = h 75 13 := jK 0 f9 rg_75_13_0_1 (by first | decide | omega) (by first | decide | omega) (by decide)
            have k322 : Kp h h147 (h 75 13 - 2147483648) := Kp.trans k323 c154 (by first | decide | omega)
            have k321 : Kp h h183 (h 75 13 - 2147483648) := Kp.fr k322 f185 (by first | decide | omega) (by decide)
            have q331 : h183 75 13 = h147 75 13 := jK 0 f185 rg_75_13_0_1 (by first | decide | omega) (by first | decide | omega) (by decide)
            have k320 : Kp h h201 (h 75 13 - 2147483648) := Kp.trans k321 c208 (by first | decide | omega)
            obtain ⟨w332, e333⟩ := Tk.no c13 (by first | decide | omega)
            obtain ⟨w334, e335⟩ := Tk.no c29 (by first | decide | omega)
            obtain ⟨w336, e337⟩ := Tk.no c45 (by first | decide | omega)
            obtain ⟨w338, e339⟩ := Tk.no c133 (by first | decide | omega)
            have w340 : An tB tN (sk tB tN (h 75 7)) := gA_an w334 e333 w332 rfl w336 (Eq.trans e335 e333) w338 (Eq.trans e337 (Eq.trans e335 e333))
            obtain ⟨w341, e342⟩ := Tk.yes c189 (by first | decide | omega)
            obtain ⟨w343, e344⟩ := Tk.no c13 (by first | decide | omega)
            obtain ⟨w345, e346⟩ := Tk.no c29 (by first | decide | omega)
            obtain ⟨w347, e348⟩ := Tk.no c45 (by first | decide | omega)
            obtain ⟨w349, e350⟩ := Tk.no c133 (by first | decide | omega)
            have w351 : An tB tN (sk tB tN (h 75 7)) := gA_an w345 e344 w343 rfl w347 (Eq.trans e346 e344) w349 (Eq.trans e348 (Eq.trans e346 e344))
            obtain ⟨w352, e353⟩ := Tk.yes c189 (by first | decide | omega)
            refine x_retI (np := 190) (x := 0) (by decide +kernel) (by decide) (Or.inr ⟨by decide +kernel, by first | decide | omega, by first | decide | omega⟩) ⟨_, rfl, (by decide), ?_⟩
            exact ⟨j202, f212, (by first | decide | omega), (fun z => by first | decide | omega), (fun z => by first | decide | omega), (fun z => by first | decide | omega), (fun z => by first | decide | omega), k320, (fun z => absurd z (by first | decide | omega)), (gA_c2 w340 (c156 3) (Eq.trans e339 (Eq.trans e337 (Eq.trans e335 e333))) (by first | decide | omega) (Or.inl w341) rfl e342 (c210 3) rfl (by first | decide | omega) (fun z => absurd z (by first | decide | omega))), (fun _ => fA_c2 w351 (c156 3) (Eq.trans e350 (Eq.trans e348 (Eq.trans e346 e344))) (by first | decide | omega) (Or.inl w352) rfl e353 (c211 (by first | decide | omega) 3) rfl rfl)⟩
          have q194 : ¬ (v179 ≠ 2147483648) := q194
          refine x_aload (np := 173) (x := 0) (by decide +kernel) rfl (x_nc_le (by decide)) ?_
          refine x_const (np := 175) (x := 9223372305290231870) (a := 2147483710) (by decide +kernel) (by decide) (by decide) ?_
          have m357 := Tq.fr m182 f185 (by decide) (by decide)
          refine x_cI (t := 6) (mj := 173) (n := 2) (rc := 12) (ml := 2) (nr := 0) (np := 178) (as := [x_r 75, iv_c 2147483710]) (rest := []) (lo1 := [x_r 75, iv_c 2147483710]) (by decide +kernel) (by decide) (by decide +kernel) (x_rb_of (by decide +kernel)) rfl rfl (x_wr (by decide) (x_wi (by decide) x_wn)) x_wn (by decide) rfl (c173_75 j184  (by first | decide | omega) m357) (fun v354 h358 l355 q356 => ?_)
          obtain ⟨j359, f360, b361, c362, c363, c364, c365⟩ := q356
          have f366 := Fr.trans f191 f360 (by decide)
          have b367 := jB (e := 7) 0 j359 rg_75_7_0_1 (by first | decide | omega) (by first | decide | omega)
          refine x_ifz (k := 0) (tg := 188) (np := 181) (by decide +kernel) (by decide) l355 (fun q368 => ?_) (fun q369 => ?_)
          · have q368 : v354 = 2147483648 := q368
            refine x_const (np := 189) (x := 9223372039002259456) (a := 2147483648) (by decide +kernel) (by decide) (by decide) ?_
            have q370 : h358 75 13 = h183 75 13 := jK 0 f360 rg_75_13_0_1 (by first | decide | omega) (by first | decide | omega) (by decide)
            have q371 : h183 75 13 = h147 75 13 := jK 0 f185 rg_75_13_0_1 (by first | decide | omega) (by first | decide | omega) (by decide)
            have q372 : h358 75 10 = h183 75 10 := jK 0 f360 rg_75_10_0_1 (by first | decide | omega) (by first | decide | omega) (by decide)
            have q373 : h183 75 10 = h147 75 10 := jK 0 f185 rg_75_10_0_1 (by first | decide | omega) (by first | decide | omega) (by decide)
            have q374 : h147 75 10 = h127 75 10 := jK 0 f149 rg_75_10_0_1 (by first | decide | omega) (by first | decide | omega) (by decide)
            have q375 : h127 75 10 = h39 75 10 := jK 0 f129 rg_75_10_0_1 (by first | decide | omega) (by first | decide | omega) (by decide)
            have q376 : h39 75 10 = h23 75 10 := jK 0 f41 rg_75_10_0_1 (by first | decide | omega) (by first | decide | omega) (by decide)
            have q377 : h23 75 10 = h7 75 10 := jK 0 f25 rg_75_10_0_1 (by first | decide | omega) (by first | decide | omega) (by decide)
            have q378 : h7 75 10 = h 75 10 := jK 0 f9 rg_75_10_0_1 (by first | decide | omega) (by first | decide | omega) (by decide)
            have q379 : h358 75 13 = h183 75 13 := jK 0 f360 rg_75_13_0_1 (by first | decide | omega) (by first | decide | omega) (by decide)
            have q380 : h183 75 13 = h147 75 13 := jK 0 f185 rg_75_13_0_1 (by first | decide | omega) (by first | decide | omega) (by decide)
            have k387 : Kp h h7 (h 75 13 - 2147483648) := Kp.fr Kp.refl f9 (by first | decide | omega) (by decide)
            have k386 : Kp h h23 (h 75 13 - 2147483648) := Kp.fr k387 f25 (by first | decide | omega) (by decide)
            have k385 : Kp h h39 (h 75 13 - 2147483648) := Kp.fr k386 f41 (by first | decide | omega) (by decide)
            have k384 : Kp h h127 (h 75 13 - 2147483648) := Kp.fr k385 f129 (by first | decide | omega) (by decide)
            have q388 : h127 75 13 = h39 75 13 := jK 0 f129 rg_75_13_0_1 (by first | decide | omega) (by first | decide | omega) (by decide)
            have q389 : h39 75 13 = h23 75 13 := jK 0 f41 rg_75_13_0_1 (by first | decide | omega) (by first | decide | omega) (by decide)
            have q390 : h23 75 13 = h7 75 13 := jK 0 f25 rg_75_13_0_1 (by first | decide | omega) (by first | decide | omega) (by decide)
            have q391 : h7 75 13 = h 75 13 := jK 0 f9 rg_75_13_0_1 (by first | decide | omega) (by first | decide | omega) (by decide)
            have k383 : Kp h h147 (h 75 13 - 2147483648) := Kp.trans k384 c154 (by first | decide | omega)
            have k382 : Kp h h183 (h 75 13 - 2147483648) := Kp.fr k383 f185 (by first | decide | omega) (by decide)
            have k381 : Kp h h358 (h 75 13 - 2147483648) := Kp.fr k382 f360 (by first | decide | omega) (by decide)
            obtain ⟨w392, e393⟩ := Tk.no c13 (by first | decide | omega)
            obtain ⟨w394, e395⟩ := Tk.no c29 (by first | decide | omega)
            obtain ⟨w396, e397⟩ := Tk.no c45 (by first | decide | omega)
            obtain ⟨w398, e399⟩ := Tk.no c133 (by first | decide | omega)
            have w400 : An tB tN (sk tB tN (h 75 7)) := gA_an w394 e393 w392 rfl w396 (Eq.trans e395 e393) w398 (Eq.trans e397 (Eq.trans e395 e393))
            obtain ⟨w401, e402⟩ := Tk.no c189 (by first | decide | omega)
            obtain ⟨w403, e404⟩ := Tk.no c364 (by first | decide | omega)
            obtain ⟨w405, e406⟩ := Tk.no c13 (by first | decide | omega)
            obtain ⟨w407, e408⟩ := Tk.no c29 (by first | decide | omega)
            obtain ⟨w409, e410⟩ := Tk.no c45 (by first | decide | omega)
            obtain ⟨w411, e412⟩ := Tk.no c133 (by first | decide | omega)
            have w413 : An tB tN (sk tB tN (h 75 7)) := gA_an w407 e406 w405 rfl w409 (Eq.trans e408 e406) w411 (Eq.trans e410 (Eq.trans e408 e406))
            obtain ⟨w414, e415⟩ := Tk.no c189 (by first | decide | omega)
            obtain ⟨w416, e417⟩ := Tk.no c364 (by first | decide | omega)
            refine x_retI (np := 190) (x := 0) (by decide +kernel) (by decide) (Or.inr ⟨by decide +kernel, by first | decide | omega, by first | decide | omega⟩) ⟨_, rfl, (by decide), ?_⟩
            exact ⟨j359, f366, (by first | decide | omega), (fun z => by first | decide | omega), (fun z => by first | decide | omega), (fun z => by first | decide | omega), (fun z => by first | decide | omega), k381, (fun z => absurd z (by first | decide | omega)), (gA_c1 w400 (c156 3) (Eq.trans e399 (Eq.trans e397 (Eq.trans e395 e393))) (by first | decide | omega) w401 rfl w403 (Eq.trans rfl (Eq.trans e402 rfl)) (by first | decide | omega)), (fun _ => fA_c1 w413 (c156 3) (Eq.trans e412 (Eq.trans e410 (Eq.trans e408 e406))) (by first | decide | omega) w414 rfl w416 (Eq.trans rfl (Eq.trans e415 rfl)) c365)⟩
          have q369 : ¬ (v354 = 2147483648) := q369
          have b418 := c363 (by first | decide | omega)
          refine x_aload (np := 182) (x := 0) (by decide +kernel) rfl (x_nc_le (by decide)) ?_
          have q419 : h358 75 13 = h183 75 13 := jK 0 f360 rg_75_13_0_1 (by first | decide | omega) (by first | decide | omega) (by decide)
          have q420 : h183 75 13 = h147 75 13 := jK 0 f185 rg_75_13_0_1 (by first | decide | omega) (by first | decide | omega) (by decide)
          have m424 := Tq.fr m357 f360 (by decide) (by decide)
          refine x_cI (t := 6) (mj := 189) (n := 1) (rc := 12) (ml := 1) (nr := 0) (np := 185) (as := [x_r 75]) (rest := []) (lo1 := [x_r 75]) (by decide +kernel) (by decide) (by decide +kernel) (x_rb_of (by decide +kernel)) rfl rfl (x_wr (by decide) x_wn) x_wn (by decide) rfl (c189_75 j359  (by first | decide | omega) m424) (fun v421 h425 l422 q423 => ?_)
          obtain ⟨j426, f427, b428, c429, c430, c431, c432, c433, c434, c435⟩ := q423
          have f436 := Fr.trans f366 f427 (by decide)
          have q437 : h358 75 13 = h183 75 13 := jK 0 f360 rg_75_13_0_1 (by first | decide | omega) (by first | decide | omega) (by decide)
          have q438 : h183 75 13 = h147 75 13 := jK 0 f185 rg_75_13_0_1 (by first | decide | omega) (by first | decide | omega) (by decide)
          have b439 := jB (e := 13) 0 j426 rg_75_13_0_1 (by first | decide | omega) (by first | decide | omega)
          have b440 := jB (e := 7) 0 j426 rg_75_7_0_1 (by first | decide | omega) (by first | decide | omega)
          have q441 : h358 75 13 = h183 75 13 := jK 0 f360 rg_75_13_0_1 (by first | decide | omega) (by first | decide | omega) (by decide)
          have q442 : h183 75 13 = h147 75 13 := jK 0 f185 rg_75_13_0_1 (by first | decide | omega) (by first | decide | omega) (by decide)
          refine x_ifz (k := 1) (tg := 190) (np := 188) (by decide +kernel) (by decide) l422 (fun q443 => ?_) (fun q444 => ?_)
          · have q443 : v421 ≠ 2147483648 := q443
            have b445 := c429 (by first | decide | omega)
            have b446 := c430 (by first | decide | omega)
            have b447 := c431 (by first | decide | omega)
            have s448 := c433 (by first | decide | omega)
            have q449 : h358 75 13 = h183 75 13 := jK 0 f360 rg_75_13_0_1 (by first | decide | omega) (by first | decide | omega) (by decide)
            have q450 : h183 75 13 = h147 75 13 := jK 0 f185 rg_75_13_0_1 (by first | decide | omega) (by first | decide | omega) (by decide)
            refine x_aload (np := 191) (x := 0) (by decide +kernel) rfl (x_nc_le (by decide)) ?_
            refine x_iload (np := 192) (x := 2) (by decide +kernel) rfl l180 ?_
            refine x_ifz (k := 0) (tg := 200) (np := 195) (by decide +kernel) (by decide) l180 (fun q451 => ?_) (fun q452 => ?_)
            · have q451 : v179 = 2147483648 := q451
              refine x_const (np := 202) (x := 9223372086246899723) (a := 2147483659) (by decide +kernel) (by decide) (by decide) ?_
              refine x_const (np := 203) (x := 9223372039002259456) (a := 2147483648) (by decide +kernel) (by decide) (by decide) ?_
              refine x_nV (t := 6) (mj := 187) (n := 3) (rc := 12) (ml := 3) (nr := 0) (np := 206) (as := [x_r 75, iv_c 2147483659, iv_c 2147483648]) (rest := []) (lo1 := [x_r 75, iv_c 2147483659, iv_c 2147483648]) (by decide +kernel) (by decide) (by decide +kernel) (x_rb_of (by decide +kernel)) rfl rfl (x_wr (by decide) (x_wi (by decide) (x_wi (by decide) x_wn))) x_wn (by decide) rfl ?_
              refine x_aload (np := 1) (x := 0) (by decide +kernel) rfl (x_nc_le (by decide)) ?_
              have q453 : h425 75 1 = 76 := by have z := jB (e := 1) 0 j426 rg_75_1_0_1 (by decide) (by decide); omega
              refine x_getR (np := 4) (x := 705) (f := 1) (q := 76) (by decide +kernel) (by decide) (by decide +kernel) q453 ?_
              refine x_const (np := 7) (x := 9223376986804585600) (a := 2147484800) (by decide +kernel) (by decide) (by decide) ?_
              refine x_const (np := 8) (x := 9223372047592194050) (a := 2147483650) (by decide +kernel) (by decide) (by decide) ?_
              refine x_aload (np := 9) (x := 0) (by decide +kernel) rfl (x_nc_le (by decide)) ?_
              refine x_getC (np := 12) (x := 717) (f := 13) (q := (h425 75 13)) (by decide +kernel) (by decide) (by decide +kernel) rfl (fun l454 => ?_)
              obtain ⟨u455, q456⟩ : ∃ z, (h425 75 13) = 2147483648 + z := ⟨(h425 75 13) - 2147483648, by first | decide | omega⟩
              refine x_imul (np := 13) (x := 0) (i := 2) (j := u455) (v := (2147483648 + 2 * u455)) (by decide +kernel) (by first | decide | omega) (by first | decide | omega) (by first | decide | omega) (by first | decide | omega) (by decide) l454 ?_
              refine x_iadd (np := 14) (x := 0) (v := (2147484800 + 2 * u455)) (by decide +kernel) (by decide) (by first | decide | omega) (by first | decide | omega) (by first | decide | omega) ?_
              refine x_iload (np := 15) (x := 1) (by decide +kernel) rfl (by decide) ?_
              refine x_ast (np := 16) (x := 0) (kd := 1) (n := 1952) (i := (1152 + 2 * u455)) (by decide +kernel) (Or.inl rfl) (by decide +kernel) (by first | decide | omega) (by first | decide | omega) (by decide) (by decide) (fun z => absurd z (by decide)) ?_
              have j459 := jU (e := (1152 + 2 * u455)) (v := 2147483659) u455 j426 rg_76_1152_2_395 (by first | decide | omega) (by first | decide | omega) (by first | decide | omega)
              have f461 := jF (e := (1152 + 2 * u455)) (v := 2147483659) u455 f436 rg_76_1152_2_395 (by first | decide | omega) (by first | decide | omega) (by decide)
              generalize e460 : x_up h425 76 (1152 + 2 * u455) 2147483659 = h458 at j459 f461 ⊢
              refine x_aload (np := 17) (x := 0) (by decide +kernel) rfl (x_nc_le (by decide)) ?_
              have q462 : h458 75 1 = 76 := by have z := jB (e := 1) 0 j459 rg_75_1_0_1 (by decide) (by decide); omega
              refine x_getR (np := 20) (x := 705) (f := 1) (q := 76) (by decide +kernel) (by decide) (by decide +kernel) q462 ?_
              refine x_const (np := 23) (x := 9223376986804585600) (a := 2147484800) (by decide +kernel) (by decide) (by decide) ?_
              refine x_const (np := 24) (x := 9223372047592194050) (a := 2147483650) (by decide +kernel) (by decide) (by decide) ?_
              refine x_aload (np := 25) (x := 0) (by decide +kernel) rfl (x_nc_le (by decide)) ?_
              have q463 : h458 75 13 = h425 75 13 := by rw [← e460]; exact x_up_k (by decide)
              refine x_getC (np := 28) (x := 717) (f := 13) (q := (h425 75 13)) (by decide +kernel) (by decide) (by decide +kernel) q463 (fun l464 => ?_)
              refine x_imul (np := 29) (x := 0) (i := 2) (j := u455) (v := (2147483648 + 2 * u455)) (by decide +kernel) (by first | decide | omega) (by first | decide | omega) (by first | decide | omega) (by first | decide | omega) (by decide) l454 ?_
              refine x_iadd (np := 30) (x := 0) (v := (2147484800 + 2 * u455)) (by decide +kernel) (by decide) (by first | decide | omega) (by first | decide | omega) (by first | decide | omega) ?_
              refine x_const (np := 31) (x := 9223372043297226753) (a := 2147483649) (by decide +kernel) (by decide) (by decide) ?_
              refine x_iadd (np := 32) (x := 0) (v := (2147484801 + 2 * u455)) (by decide +kernel) (by first | decide | omega) (by decide) (by first | decide | omega) (by first | decide | omega) ?_
              refine x_iload (np := 33) (x := 2) (by decide +kernel) rfl (by decide) ?_
              refine x_ast (np := 34) (x := 0) (kd := 1) (n := 1952) (i := (1153 + 2 * u455)) (by decide +kernel) (Or.inl rfl) (by decide +kernel) (by first | decide | omega) (by first | decide | omega) (by decide) (by decide) (fun z => absurd z (by decide)) ?_
              have j467 := jU (e := (1153 + 2 * u455)) (v := 2147483648) u455 j459 rg_76_1153_2_395 (by first | decide | omega) (by first | decide | omega) (by first | decide | omega)
              have f469 := jF (e := (1153 + 2 * u455)) (v := 2147483648) u455 f461 rg_76_1153_2_395 (by first | decide | omega) (by first | decide | omega) (by decide)
              generalize e468 : x_up h458 76 (1153 + 2 * u455) 2147483648 = h466 at j467 f469 ⊢
              refine x_aload (np := 35) (x := 0) (by decide +kernel) rfl (x_nc_le (by decide)) ?_
              refine x_dup (np := 36) (x := 0) (by decide +kernel) (by have z := x_nc_le (k := 75) (by decide); unfold x_r; omega) ?_
              have q470 : h466 75 13 = h458 75 13 := by rw [← e468]; exact x_up_k (by decide)
              have q471 : h458 75 13 = h425 75 13 := by rw [← e460]; exact x_up_k (by decide)
              refine x_getC (np := 39) (x := 717) (f := 13) (q := (h425 75 13)) (by decide +kernel) (by decide) (by decide +kernel) (q470.trans q471) (fun l472 => ?_)
              refine x_const (np := 40) (x := 9223372043297226753) (a := 2147483649) (by decide +kernel) (by decide) (by decide) ?_
              refine x_iadd (np := 41) (x := 0) (v := (1 + (h425 75 13))) (by decide +kernel) l454 (by decide) (by first | decide | omega) (by first | decide | omega) ?_
              refine x_putI (np := 44) (x := 717) (f := 13) (by decide +kernel) (by decide +kernel) (by first | decide | omega) (Or.inl (by decide)) ?_
              have j474 := jU (e := 13) (v := (1 + (h425 75 13))) 0 j467 rg_75_13_0_1 (by first | decide | omega) (by first | decide | omega) (by first | decide | omega)
              have f476 := jF (e := 13) (v := (1 + (h425 75 13))) 0 f469 rg_75_13_0_1 (by first | decide | omega) (by first | decide | omega) (by decide)
              generalize e475 : x_up h466 75 13 (1 + (h425 75 13)) = h473 at j474 f476 ⊢
              refine x_retV (np := 45) (x := 0) (by decide +kernel) (by decide +kernel) ⟨rfl, ?_⟩
              have q477 : h473 75 13 = (1 + (h425 75 13)) := by rw [← e475]; exact x_up_at
              refine x_const (np := 207) (x := 9223372043297226753) (a := 2147483649) (by decide +kernel) (by decide) (by decide) ?_
              have q478 : h473 75 13 = (1 + (h425 75 13)) := by rw [← e475]; exact x_up_at
              have q479 : h473 75 7 = h466 75 7 := by rw [← e475]; exact x_up_i (by first | decide | omega)
              have q480 : h466 75 7 = h458 75 7 := by rw [← e468]; exact x_up_k (by decide)
              have q481 : h458 75 7 = h425 75 7 := by rw [← e460]; exact x_up_k (by decide)
              have q482 : h473 75 10 = h466 75 10 := by rw [← e475]; exact x_up_i (by first | decide | omega)
              have q483 : h466 75 10 = h458 75 10 := by rw [← e468]; exact x_up_k (by decide)
              have q484 : h458 75 10 = h425 75 10 := by rw [← e460]; exact x_up_k (by decide)
              have q485 : h425 75 10 = h358 75 10 := jK 0 f427 rg_75_10_0_1 (by first | decide | omega) (by first | decide | omega) (by decide)
              have q486 : h358 75 10 = h183 75 10 := jK 0 f360 rg_75_10_0_1 (by first | decide | omega) (by first | decide | omega) (by decide)
              have q487 : h183 75 10 = h147 75 10 := jK 0 f185 rg_75_10_0_1 (by first | decide | omega) (by first | decide | omega) (by decide)
              have q488 : h147 75 10 = h127 75 10 := jK 0 f149 rg_75_10_0_1 (by first | decide | omega) (by first | decide | omega) (by decide)
              have q489 : h127 75 10 = h39 75 10 := jK 0 f129 rg_75_10_0_1 (by first | decide | omega) (by first | decide | omega) (by decide)
              have q490 : h39 75 10 = h23 75 10 := jK 0 f41 rg_75_10_0_1 (by first | decide | omega) (by first | decide | omega) (by decide)
              have q491 : h23 75 10 = h7 75 10 := jK 0 f25 rg_75_10_0_1 (by first | decide | omega) (by first | decide | omega) (by decide)
              have q492 : h7 75 10 = h 75 10 := jK 0 f9 rg_75_10_0_1 (by first | decide | omega) (by first | decide | omega) (by decide)
              have q493 : h473 75 7 = h466 75 7 := by rw [← e475]; exact x_up_i (by first | decide | omega)
              have q494 : h466 75 7 = h458 75 7 := by rw [← e468]; exact x_up_k (by decide)
              have q495 : h458 75 7 = h425 75 7 := by rw [← e460]; exact x_up_k (by decide)
              have q496 : h473 75 13 = (1 + (h425 75 13)) := by rw [← e475]; exact x_up_at
              have k507 : Kp h h7 (h 75 13 - 2147483648) := Kp.fr Kp.refl f9 (by first | decide | omega) (by decide)
              have k506 : Kp h h23 (h 75 13 - 2147483648) := Kp.fr k507 f25 (by first | decide | omega) (by decide)
              have k505 : Kp h h39 (h 75 13 - 2147483648) := Kp.fr k506 f41 (by first | decide | omega) (by decide)
              have k504 : Kp h h127 (h 75 13 - 2147483648) := Kp.fr k505 f129 (by first | decide | omega) (by decide)
              have q508 : h127 75 13 = h39 75 13 := jK 0 f129 rg_75_13_0_1 (by first | decide | omega) (by first | decide | omega) (by decide)
              have q509 : h39 75 13 = h23 75 13 := jK 0 f41 rg_75_13_0_1 (by first | decide | omega) (by first | decide | omega) (by decide)
              have q510 : h23 75 13 = h7 75 13 := jK 0 f25 rg_75_13_0_1 (by first | decide | omega) (by first | decide | omega) (by decide)
              have q511 : h7 75 13 = h 75 13 := jK 0 f9 rg_75_13_0_1 (by first | decide | omega) (by first | decide | omega) (by decide)
              have k503 : Kp h h147 (h 75 13 - 2147483648) := Kp.trans k504 c154 (by first | decide | omega)
              have k502 : Kp h h183 (h 75 13 - 2147483648) := Kp.fr k503 f185 (by first | decide | omega) (by decide)
              have k501 : Kp h h358 (h 75 13 - 2147483648) := Kp.fr k502 f360 (by first | decide | omega) (by decide)
              have q512 : h358 75 13 = h183 75 13 := jK 0 f360 rg_75_13_0_1 (by first | decide | omega) (by first | decide | omega) (by decide)
              have q513 : h183 75 13 = h147 75 13 := jK 0 f185 rg_75_13_0_1 (by first | decide | omega) (by first | decide | omega) (by decide)
              have k500 : Kp h h425 (h 75 13 - 2147483648) := Kp.trans k501 c432 (by first | decide | omega)
              have k499 : Kp h h458 (h 75 13 - 2147483648) := by rw [← e460]; exact Kp.up k500 (by first | decide | omega) (fun i hi => by first | decide | omega)
              have k498 : Kp h h466 (h 75 13 - 2147483648) := by rw [← e468]; exact Kp.up k499 (by first | decide | omega) (fun i hi => by first | decide | omega)
              have k497 : Kp h h473 (h 75 13 - 2147483648) := by rw [← e475]; exact Kp.oth k498 (by decide)
              have q514 : h473 75 13 = (1 + (h425 75 13)) := by rw [← e475]; exact x_up_at
              have q516 : h473 76 (1152 + 2 * u455) = h466 76 (1152 + 2 * u455) := by rw [← e475]; exact x_up_k (by decide)
              have q517 : h466 76 (1152 + 2 * u455) = h458 76 (1152 + 2 * u455) := by rw [← e468]; exact x_up_i (by first | decide | omega)
              have q518 : h458 76 (1152 + 2 * u455) = 2147483659 := by rw [← e460]; exact x_up_at
              have k524 : Kp h147 h183 (h147 75 13 - 2147483648) := Kp.fr Kp.refl f185 (by first | decide | omega) (by decide)
              have k523 : Kp h147 h358 (h147 75 13 - 2147483648) := Kp.fr k524 f360 (by first | decide | omega) (by decide)
              have q525 : h358 75 13 = h183 75 13 := jK 0 f360 rg_75_13_0_1 (by first | decide | omega) (by first | decide | omega) (by decide)
              have q526 : h183 75 13 = h147 75 13 := jK 0 f185 rg_75_13_0_1 (by first | decide | omega) (by first | decide | omega) (by decide)
              have k522 : Kp h147 h425 (h147 75 13 - 2147483648) := Kp.trans k523 c432 (by first | decide | omega)
              have k521 : Kp h147 h458 (h147 75 13 - 2147483648) := by rw [← e460]; exact Kp.up k522 (by first | decide | omega) (fun i hi => by first | decide | omega)
              have k520 : Kp h147 h466 (h147 75 13 - 2147483648) := by rw [← e468]; exact Kp.up k521 (by first | decide | omega) (fun i hi => by first | decide | omega)
              have k519 : Kp h147 h473 (h147 75 13 - 2147483648) := by rw [← e475]; exact Kp.oth k520 (by decide)
              have k529 : Kp h425 h458 (h425 75 13 - 2147483648) := by rw [← e460]; exact Kp.up Kp.refl (by first | decide | omega) (fun i hi => by first | decide | omega)
              have k528 : Kp h425 h466 (h425 75 13 - 2147483648) := by rw [← e468]; exact Kp.up k529 (by first | decide | omega) (fun i hi => by first | decide | omega)
              have k527 : Kp h425 h473 (h425 75 13 - 2147483648) := by rw [← e475]; exact Kp.oth k528 (by decide)
              have s515 : Seg (sg h473) (h127 75 13 - 2147483648) (u455 + 1) := Seg.bin (Seg.kp s174 k519) (Seg.cast (a' := (h147 75 13 - 2147483648)) (b' := u455) (Seg.kp s448 k527) (by first | decide | omega) (by first | decide | omega)) (show 2147483656 < h473 76 (1152 + 2 * u455) by first | decide | omega) (show h473 76 (1152 + 2 * u455) ≠ 2147483660 by first | decide | omega)
              have s530 : Seg (sg h473) (h 75 13 - 2147483648) (h473 75 13 - 2147483648) := Seg.cast (Seg.kp s515 Kp.refl) (by first | decide | omega) (by first | decide | omega)
              obtain ⟨w531, e532⟩ := Tk.no c13 (by first | decide | omega)
              obtain ⟨w533, e534⟩ := Tk.no c29 (by first | decide | omega)
              obtain ⟨w535, e536⟩ := Tk.no c45 (by first | decide | omega)
              obtain ⟨w537, e538⟩ := Tk.no c133 (by first | decide | omega)
              have w539 : An tB tN (sk tB tN (h 75 7)) := gA_an w533 e532 w531 rfl w535 (Eq.trans e534 e532) w537 (Eq.trans e536 (Eq.trans e534 e532))
              obtain ⟨w540, e541⟩ := Tk.no c189 (by first | decide | omega)
              obtain ⟨w542, e543⟩ := Tk.yes c364 (by first | decide | omega)
              have q544 : h473 75 7 = h466 75 7 := by rw [← e475]; exact x_up_i (by first | decide | omega)
              have q545 : h466 75 7 = h458 75 7 := by rw [← e468]; exact x_up_k (by decide)
              have q546 : h458 75 7 = h425 75 7 := by rw [← e460]; exact x_up_k (by decide)
              refine x_retI (np := 208) (x := 0) (by decide +kernel) (by decide) (Or.inr ⟨by decide +kernel, by first | decide | omega, by first | decide | omega⟩) ⟨_, rfl, (by decide), ?_⟩
              exact ⟨j474, f476, (by first | decide | omega), (fun z => by first | decide | omega), (fun z => by first | decide | omega), (fun z => by first | decide | omega), (fun z => by first | decide | omega), k497, (fun _ => s530), (gA_c2 w539 (c156 3) (Eq.trans e538 (Eq.trans e536 (Eq.trans e534 e532))) (by first | decide | omega) (Or.inr w542) (Eq.trans rfl (Eq.trans e541 rfl)) e543 (c434 3) rfl (by first | decide | omega) (fun z => (congrArg (sk tB tN) (show h425 75 7 = h473 75 7 by first | decide | omega)))), (fun z => absurd z (by first | decide | omega))⟩
            have q452 : ¬ (v179 = 2147483648) := q452
            exfalso; omega
          have q444 : ¬ (v421 ≠ 2147483648) := q444
          refine x_const (np := 189) (x := 9223372039002259456) (a := 2147483648) (by decide +kernel) (by decide) (by decide) ?_
          have q547 : h425 75 10 = h358 75 10 := jK 0 f427 rg_75_10_0_1 (by first | decide | omega) (by first | decide | omega) (by decide)
          have q548 : h358 75 10 = h183 75 10 := jK 0 f360 rg_75_10_0_1 (by first | decide | omega) (by first | decide | omega) (by decide)
          have q549 : h183 75 10 = h147 75 10 := jK 0 f185 rg_75_10_0_1 (by first | decide | omega) (by first | decide | omega) (by decide)
          have q550 : h147 75 10 = h127 75 10 := jK 0 f149 rg_75_10_0_1 (by first | decide | omega) (by first | decide | omega) (by decide)
          have q551 : h127 75 10 = h39 75 10 := jK 0 f129 rg_75_10_0_1 (by first | decide | omega) (by first | decide | omega) (by decide)
          have q552 : h39 75 10 = h23 75 10 := jK 0 f41 rg_75_10_0_1 (by first | decide | omega) (by first | decide | omega) (by decide)
          have q553 : h23 75 10 = h7 75 10 := jK 0 f25 rg_75_10_0_1 (by first | decide | omega) (by first | decide | omega) (by decide)
          have q554 : h7 75 10 = h 75 10 := jK 0 f9 rg_75_10_0_1 (by first | decide | omega) (by first | decide | omega) (by decide)
          have k562 : Kp h h7 (h 75 13 - 2147483648) := Kp.fr Kp.refl f9 (by first | decide | omega) (by decide)
          have k561 : Kp h h23 (h 75 13 - 2147483648) := Kp.fr k562 f25 (by first | decide | omega) (by decide)
          have k560 : Kp h h39 (h 75 13 - 2147483648) := Kp.fr k561 f41 (by first | decide | omega) (by decide)
          have k559 : Kp h h127 (h 75 13 - 2147483648) := Kp.fr k560 f129 (by first | decide | omega) (by decide)
          have q563 : h127 75 13 = h39 75 13 := jK 0 f129 rg_75_13_0_1 (by first | decide | omega) (by first | decide | omega) (by decide)
          have q564 : h39 75 13 = h23 75 13 := jK 0 f41 rg_75_13_0_1 (by first | decide | omega) (by first | decide | omega) (by decide)
          have q565 : h23 75 13 = h7 75 13 := jK 0 f25 rg_75_13_0_1 (by first | decide | omega) (by first | decide | omega) (by decide)
          have q566 : h7 75 13 = h 75 13 := jK 0 f9 rg_75_13_0_1 (by first | decide | omega) (by first | decide | omega) (by decide)
          have k558 : Kp h h147 (h 75 13 - 2147483648) := Kp.trans k559 c154 (by first | decide | omega)
          have k557 : Kp h h183 (h 75 13 - 2147483648) := Kp.fr k558 f185 (by first | decide | omega) (by decide)
          have k556 : Kp h h358 (h 75 13 - 2147483648) := Kp.fr k557 f360 (by first | decide | omega) (by decide)
          have q567 : h358 75 13 = h183 75 13 := jK 0 f360 rg_75_13_0_1 (by first | decide | omega) (by first | decide | omega) (by decide)
          have q568 : h183 75 13 = h147 75 13 := jK 0 f185 rg_75_13_0_1 (by first | decide | omega) (by first | decide | omega) (by decide)
          have k555 : Kp h h425 (h 75 13 - 2147483648) := Kp.trans k556 c432 (by first | decide | omega)
          obtain ⟨w569, e570⟩ := Tk.no c13 (by first | decide | omega)
          obtain ⟨w571, e572⟩ := Tk.no c29 (by first | decide | omega)
          obtain ⟨w573, e574⟩ := Tk.no c45 (by first | decide | omega)
          obtain ⟨w575, e576⟩ := Tk.no c133 (by first | decide | omega)
          have w577 : An tB tN (sk tB tN (h 75 7)) := gA_an w571 e570 w569 rfl w573 (Eq.trans e572 e570) w575 (Eq.trans e574 (Eq.trans e572 e570))
          obtain ⟨w578, e579⟩ := Tk.no c189 (by first | decide | omega)
          obtain ⟨w580, e581⟩ := Tk.yes c364 (by first | decide | omega)
          obtain ⟨w582, e583⟩ := Tk.no c13 (by first | decide | omega)
          obtain ⟨w584, e585⟩ := Tk.no c29 (by first | decide | omega)
          obtain ⟨w586, e587⟩ := Tk.no c45 (by first | decide | omega)
          obtain ⟨w588, e589⟩ := Tk.no c133 (by first | decide | omega)
          have w590 : An tB tN (sk tB tN (h 75 7)) := gA_an w584 e583 w582 rfl w586 (Eq.trans e585 e583) w588 (Eq.trans e587 (Eq.trans e585 e583))
          obtain ⟨w591, e592⟩ := Tk.no c189 (by first | decide | omega)
          obtain ⟨w593, e594⟩ := Tk.yes c364 (by first | decide | omega)
          refine x_retI (np := 190) (x := 0) (by decide +kernel) (by decide) (Or.inr ⟨by decide +kernel, by first | decide | omega, by first | decide | omega⟩) ⟨_, rfl, (by decide), ?_⟩
          exact ⟨j426, f436, (by first | decide | omega), (fun z => by first | decide | omega), (fun z => by first | decide | omega), (fun z => by first | decide | omega), (fun z => by first | decide | omega), k555, (fun z => absurd z (by first | decide | omega)), (gA_c2 w577 (c156 3) (Eq.trans e576 (Eq.trans e574 (Eq.trans e572 e570))) (by first | decide | omega) (Or.inr w580) (Eq.trans rfl (Eq.trans e579 rfl)) e581 (c434 3) rfl (by first | decide | omega) (fun z => absurd z (by first | decide | omega))), (fun _ => fA_c2 w590 (c156 3) (Eq.trans e589 (Eq.trans e587 (Eq.trans e585 e583))) (by first | decide | omega) (Or.inr w593) (Eq.trans rfl (Eq.trans e592 rfl)) e594 (c435 (by first | decide | omega) 3) rfl rfl)⟩
        have q170 : ¬ (v143 ≠ 2147483648) := q170
        refine x_const (np := 160) (x := 9223372039002259456) (a := 2147483648) (by decide +kernel) (by decide) (by decide) ?_
        have q595 : h147 75 10 = h127 75 10 := jK 0 f149 rg_75_10_0_1 (by first | decide | omega) (by first | decide | omega) (by decide)
        have q596 : h127 75 10 = h39 75 10 := jK 0 f129 rg_75_10_0_1 (by first | decide | omega) (by first | decide | omega) (by decide)
        have q597 : h39 75 10 = h23 75 10 := jK 0 f41 rg_75_10_0_1 (by first | decide | omega) (by first | decide | omega) (by decide)
        have q598 : h23 75 10 = h7 75 10 := jK 0 f25 rg_75_10_0_1 (by first | decide | omega) (by first | decide | omega) (by decide)
        have q599 : h7 75 10 = h 75 10 := jK 0 f9 rg_75_10_0_1 (by first | decide | omega) (by first | decide | omega) (by decide)
        have k604 : Kp h h7 (h 75 13 - 2147483648) := Kp.fr Kp.refl f9 (by first | decide | omega) (by decide)
        have k603 : Kp h h23 (h 75 13 - 2147483648) := Kp.fr k604 f25 (by first | decide | omega) (by decide)
        have k602 : Kp h h39 (h 75 13 - 2147483648) := Kp.fr k603 f41 (by first | decide | omega) (by decide)
        have k601 : Kp h h127 (h 75 13 - 2147483648) := Kp.fr k602 f129 (by first | decide | omega) (by decide)
        have q605 : h127 75 13 = h39 75 13 := jK 0 f129 rg_75_13_0_1 (by first | decide | omega) (by first | decide | omega) (by decide)
        have q606 : h39 75 13 = h23 75 13 := jK 0 f41 rg_75_13_0_1 (by first | decide | omega) (by first | decide | omega) (by decide)
        have q607 : h23 75 13 = h7 75 13 := jK 0 f25 rg_75_13_0_1 (by first | decide | omega) (by first | decide | omega) (by decide)
        have q608 : h7 75 13 = h 75 13 := jK 0 f9 rg_75_13_0_1 (by first | decide | omega) (by first | decide | omega) (by decide)
        have k600 : Kp h h147 (h 75 13 - 2147483648) := Kp.trans k601 c154 (by first | decide | omega)
        obtain ⟨w609, e610⟩ := Tk.no c13 (by first | decide | omega)
        obtain ⟨w611, e612⟩ := Tk.no c29 (by first | decide | omega)
        obtain ⟨w613, e614⟩ := Tk.no c45 (by first | decide | omega)
        obtain ⟨w615, e616⟩ := Tk.no c133 (by first | decide | omega)
        have w617 : An tB tN (sk tB tN (h 75 7)) := gA_an w611 e610 w609 rfl w613 (Eq.trans e612 e610) w615 (Eq.trans e614 (Eq.trans e612 e610))
        obtain ⟨w618, e619⟩ := Tk.no c13 (by first | decide | omega)
        obtain ⟨w620, e621⟩ := Tk.no c29 (by first | decide | omega)
        obtain ⟨w622, e623⟩ := Tk.no c45 (by first | decide | omega)
        obtain ⟨w624, e625⟩ := Tk.no c133 (by first | decide | omega)
        have w626 : An tB tN (sk tB tN (h 75 7)) := gA_an w620 e619 w618 rfl w622 (Eq.trans e621 e619) w624 (Eq.trans e623 (Eq.trans e621 e619))
        refine x_retI (np := 161) (x := 0) (by decide +kernel) (by decide) (Or.inr ⟨by decide +kernel, by first | decide | omega, by first | decide | omega⟩) ⟨_, rfl, (by decide), ?_⟩
        exact ⟨j148, f158, (by first | decide | omega), (fun z => by first | decide | omega), (fun z => by first | decide | omega), (fun z => by first | decide | omega), (fun z => by first | decide | omega), k600, (fun z => absurd z (by first | decide | omega)), (gA_c0 w617 (c156 3) (Eq.trans e616 (Eq.trans e614 (Eq.trans e612 e610))) (by first | decide | omega) (by first | decide | omega)), (fun _ => fA_c0 w626 (c157 (by first | decide | omega) 3) (Eq.trans e625 (Eq.trans e623 (Eq.trans e621 e619))) rfl)⟩
      have q138 : ¬ (v123 = 2147483648) := q138
      have b627 := c132 (by first | decide | omega)
      refine x_aload (np := 135) (x := 0) (by decide +kernel) rfl (x_nc_le (by decide)) ?_
      refine x_iload (np := 136) (x := 1) (by decide +kernel) rfl l36 ?_
      refine x_ifz (k := 0) (tg := 144) (np := 139) (by decide +kernel) (by decide) l36 (fun q628 => ?_) (fun q629 => ?_)
      · have q628 : v35 = 2147483648 := q628
        refine x_const (np := 146) (x := 9223372069067030535) (a := 2147483655) (by decide +kernel) (by decide) (by decide) ?_
        refine x_const (np := 147) (x := 9223372039002259456) (a := 2147483648) (by decide +kernel) (by decide) (by decide) ?_
        refine x_nV (t := 6) (mj := 187) (n := 3) (rc := 12) (ml := 3) (nr := 0) (np := 150) (as := [x_r 75, iv_c 2147483655, iv_c 2147483648]) (rest := []) (lo1 := [x_r 75, iv_c 2147483655, iv_c 2147483648]) (by decide +kernel) (by decide) (by decide +kernel) (x_rb_of (by decide +kernel)) rfl rfl (x_wr (by decide) (x_wi (by decide) (x_wi (by decide) x_wn))) x_wn (by decide) rfl ?_
        refine x_aload (np := 1) (x := 0) (by decide +kernel) rfl (x_nc_le (by decide)) ?_
        have q630 : h127 75 1 = 76 := by have z := jB (e := 1) 0 j128 rg_75_1_0_1 (by decide) (by decide); omega
        refine x_getR (np := 4) (x := 705) (f := 1) (q := 76) (by decide +kernel) (by decide) (by decide +kernel) q630 ?_
        refine x_const (np := 7) (x := 9223376986804585600) (a := 2147484800) (by decide +kernel) (by decide) (by decide) ?_
        refine x_const (np := 8) (x := 9223372047592194050) (a := 2147483650) (by decide +kernel) (by decide) (by decide) ?_
        refine x_aload (np := 9) (x := 0) (by decide +kernel) rfl (x_nc_le (by decide)) ?_
        have q631 : h127 75 13 = h39 75 13 := jK 0 f129 rg_75_13_0_1 (by first | decide | omega) (by first | decide | omega) (by decide)
        have q632 : h39 75 13 = h23 75 13 := jK 0 f41 rg_75_13_0_1 (by first | decide | omega) (by first | decide | omega) (by decide)
        have q633 : h23 75 13 = h7 75 13 := jK 0 f25 rg_75_13_0_1 (by first | decide | omega) (by first | decide | omega) (by decide)
        have q634 : h7 75 13 = h 75 13 := jK 0 f9 rg_75_13_0_1 (by first | decide | omega) (by first | decide | omega) (by decide)
        refine x_getC (np := 12) (x := 717) (f := 13) (q := (h 75 13)) (by decide +kernel) (by decide) (by decide +kernel) (((q631.trans q632).trans q633).trans q634) (fun l635 => ?_)
        obtain ⟨u636, q637⟩ : ∃ z, (h 75 13) = 2147483648 + z := ⟨(h 75 13) - 2147483648, by first | decide | omega⟩
        refine x_imul (np := 13) (x := 0) (i := 2) (j := u636) (v := (2147483648 + 2 * u636)) (by decide +kernel) (by first | decide | omega) (by first | decide | omega) (by first | decide | omega) (by first | decide | omega) (by decide) l635 ?_
        refine x_iadd (np := 14) (x := 0) (v := (2147484800 + 2 * u636)) (by decide +kernel) (by decide) (by first | decide | omega) (by first | decide | omega) (by first | decide | omega) ?_
        refine x_iload (np := 15) (x := 1) (by decide +kernel) rfl (by decide) ?_
        refine x_ast (np := 16) (x := 0) (kd := 1) (n := 1952) (i := (1152 + 2 * u636)) (by decide +kernel) (Or.inl rfl) (by decide +kernel) (by first | decide | omega) (by first | decide | omega) (by decide) (by decide) (fun z => absurd z (by decide)) ?_
        have j640 := jU (e := (1152 + 2 * u636)) (v := 2147483655) u636 j128 rg_76_1152_2_394 (by first | decide | omega) (by first | decide | omega) (by first | decide | omega)
        have f642 := jF (e := (1152 + 2 * u636)) (v := 2147483655) u636 f135 rg_76_1152_2_394 (by first | decide | omega) (by first | decide | omega) (by decide)
        generalize e641 : x_up h127 76 (1152 + 2 * u636) 2147483655 = h639 at j640 f642 ⊢
        refine x_aload (np := 17) (x := 0) (by decide +kernel) rfl (x_nc_le (by decide)) ?_
        have q643 : h639 75 1 = 76 := by have z := jB (e := 1) 0 j640 rg_75_1_0_1 (by decide) (by decide); omega
        refine x_getR (np := 20) (x := 705) (f := 1) (q := 76) (by decide +kernel) (by decide) (by decide +kernel) q643 ?_
        refine x_const (np := 23) (x := 9223376986804585600) (a := 2147484800) (by decide +kernel) (by decide) (by decide) ?_
        refine x_const (np := 24) (x := 9223372047592194050) (a := 2147483650) (by decide +kernel) (by decide) (by decide) ?_
        refine x_aload (np := 25) (x := 0) (by decide +kernel) rfl (x_nc_le (by decide)) ?_
        have q644 : h639 75 13 = h127 75 13 := by rw [← e641]; exact x_up_k (by decide)
        have q645 : h127 75 13 = h39 75 13 := jK 0 f129 rg_75_13_0_1 (by first | decide | omega) (by first | decide | omega) (by decide)
        have q646 : h39 75 13 = h23 75 13 := jK 0 f41 rg_75_13_0_1 (by first | decide | omega) (by first | decide | omega) (by decide)
        have q647 : h23 75 13 = h7 75 13 := jK 0 f25 rg_75_13_0_1 (by first | decide | omega) (by first | decide | omega) (by decide)
        have q648 : h7 75 13 = h 75 13 := jK 0 f9 rg_75_13_0_1 (by first | decide | omega) (by first | decide | omega) (by decide)
        refine x_getC (np := 28) (x := 717) (f := 13) (q := (h 75 13)) (by decide +kernel) (by decide) (by decide +kernel) ((((q644.trans q645).trans q646).trans q647).trans q648) (fun l649 => ?_)
        refine x_imul (np := 29) (x := 0) (i := 2) (j := u636) (v := (2147483648 + 2 * u636)) (by decide +kernel) (by first | decide | omega) (by first | decide | omega) (by first | decide | omega) (by first | decide | omega) (by decide) l635 ?_
        refine x_iadd (np := 30) (x := 0) (v := (2147484800 + 2 * u636)) (by decide +kernel) (by decide) (by first | decide | omega) (by first | decide | omega) (by first | decide | omega) ?_
        refine x_const (np := 31) (x := 9223372043297226753) (a := 2147483649) (by decide +kernel) (by decide) (by decide) ?_
        refine x_iadd (np := 32) (x := 0) (v := (2147484801 + 2 * u636)) (by decide +kernel) (by first | decide | omega) (by decide) (by first | decide | omega) (by first | decide | omega) ?_
        refine x_iload (np := 33) (x := 2) (by decide +kernel) rfl (by decide) ?_
        refine x_ast (np := 34) (x := 0) (kd := 1) (n := 1952) (i := (1153 + 2 * u636)) (by decide +kernel) (Or.inl rfl) (by decide +kernel) (by first | decide | omega) (by first | decide | omega) (by decide) (by decide) (fun z => absurd z (by decide)) ?_
        have j652 := jU (e := (1153 + 2 * u636)) (v := 2147483648) u636 j640 rg_76_1153_2_394 (by first | decide | omega) (by first | decide | omega) (by first | decide | omega)
        have f654 := jF (e := (1153 + 2 * u636)) (v := 2147483648) u636 f642 rg_76_1153_2_394 (by first | decide | omega) (by first | decide | omega) (by decide)
        generalize e653 : x_up h639 76 (1153 + 2 * u636) 2147483648 = h651 at j652 f654 ⊢
        refine x_aload (np := 35) (x := 0) (by decide +kernel) rfl (x_nc_le (by decide)) ?_
        refine x_dup (np := 36) (x := 0) (by decide +kernel) (by have z := x_nc_le (k := 75) (by decide); unfold x_r; omega) ?_
        have q655 : h651 75 13 = h639 75 13 := by rw [← e653]; exact x_up_k (by decide)
        have q656 : h639 75 13 = h127 75 13 := by rw [← e641]; exact x_up_k (by decide)
        have q657 : h127 75 13 = h39 75 13 := jK 0 f129 rg_75_13_0_1 (by first | decide | omega) (by first | decide | omega) (by decide)
        have q658 : h39 75 13 = h23 75 13 := jK 0 f41 rg_75_13_0_1 (by first | decide | omega) (by first | decide | omega) (by decide)
        have q659 : h23 75 13 = h7 75 13 := jK 0 f25 rg_75_13_0_1 (by first | decide | omega) (by first | decide | omega) (by decide)
        have q660 : h7 75 13 = h 75 13 := jK 0 f9 rg_75_13_0_1 (by first | decide | omega) (by first | decide | omega) (by decide)
        refine x_getC (np := 39) (x := 717) (f := 13) (q := (h 75 13)) (by decide +kernel) (by decide) (by decide +kernel) (((((q655.trans q656).trans q657).trans q658).trans q659).trans q660) (fun l661 => ?_)
        refine x_const (np := 40) (x := 9223372043297226753) (a := 2147483649) (by decide +kernel) (by decide) (by decide) ?_
        refine x_iadd (np := 41) (x := 0) (v := (1 + (h 75 13))) (by decide +kernel) l635 (by decide) (by first | decide | omega) (by first | decide | omega) ?_
        refine x_putI (np := 44) (x := 717) (f := 13) (by decide +kernel) (by decide +kernel) (by first | decide | omega) (Or.inl (by decide)) ?_
        have j663 := jU (e := 13) (v := (1 + (h 75 13))) 0 j652 rg_75_13_0_1 (by first | decide | omega) (by first | decide | omega) (by first | decide | omega)
        have f665 := jF (e := 13) (v := (1 + (h 75 13))) 0 f654 rg_75_13_0_1 (by first | decide | omega) (by first | decide | omega) (by decide)
        generalize e664 : x_up h651 75 13 (1 + (h 75 13)) = h662 at j663 f665 ⊢
        refine x_retV (np := 45) (x := 0) (by decide +kernel) (by decide +kernel) ⟨rfl, ?_⟩
        have q666 : h662 75 13 = (1 + (h 75 13)) := by rw [← e664]; exact x_up_at
        refine x_const (np := 151) (x := 9223372043297226753) (a := 2147483649) (by decide +kernel) (by decide) (by decide) ?_
        have q667 : h662 75 13 = (1 + (h 75 13)) := by rw [← e664]; exact x_up_at
        have q668 : h662 75 7 = h651 75 7 := by rw [← e664]; exact x_up_i (by first | decide | omega)
        have q669 : h651 75 7 = h639 75 7 := by rw [← e653]; exact x_up_k (by decide)
        have q670 : h639 75 7 = h127 75 7 := by rw [← e641]; exact x_up_k (by decide)
        have q671 : h662 75 10 = h651 75 10 := by rw [← e664]; exact x_up_i (by first | decide | omega)
        have q672 : h651 75 10 = h639 75 10 := by rw [← e653]; exact x_up_k (by decide)
        have q673 : h639 75 10 = h127 75 10 := by rw [← e641]; exact x_up_k (by decide)
        have q674 : h127 75 10 = h39 75 10 := jK 0 f129 rg_75_10_0_1 (by first | decide | omega) (by first | decide | omega) (by decide)
        have q675 : h39 75 10 = h23 75 10 := jK 0 f41 rg_75_10_0_1 (by first | decide | omega) (by first | decide | omega) (by decide)
        have q676 : h23 75 10 = h7 75 10 := jK 0 f25 rg_75_10_0_1 (by first | decide | omega) (by first | decide | omega) (by decide)
        have q677 : h7 75 10 = h 75 10 := jK 0 f9 rg_75_10_0_1 (by first | decide | omega) (by first | decide | omega) (by decide)
        have q678 : h662 75 7 = h651 75 7 := by rw [← e664]; exact x_up_i (by first | decide | omega)
        have q679 : h651 75 7 = h639 75 7 := by rw [← e653]; exact x_up_k (by decide)
        have q680 : h639 75 7 = h127 75 7 := by rw [← e641]; exact x_up_k (by decide)
        have q681 : h662 75 13 = (1 + (h 75 13)) := by rw [← e664]; exact x_up_at
        have k688 : Kp h h7 (h 75 13 - 2147483648) := Kp.fr Kp.refl f9 (by first | decide | omega) (by decide)
        have k687 : Kp h h23 (h 75 13 - 2147483648) := Kp.fr k688 f25 (by first | decide | omega) (by decide)
        have k686 : Kp h h39 (h 75 13 - 2147483648) := Kp.fr k687 f41 (by first | decide | omega) (by decide)
        have k685 : Kp h h127 (h 75 13 - 2147483648) := Kp.fr k686 f129 (by first | decide | omega) (by decide)
        have k684 : Kp h h639 (h 75 13 - 2147483648) := by rw [← e641]; exact Kp.up k685 (by first | decide | omega) (fun i hi => by first | decide | omega)
        have k683 : Kp h h651 (h 75 13 - 2147483648) := by rw [← e653]; exact Kp.up k684 (by first | decide | omega) (fun i hi => by first | decide | omega)
        have k682 : Kp h h662 (h 75 13 - 2147483648) := by rw [← e664]; exact Kp.oth k683 (by decide)
        have q689 : h662 75 13 = (1 + (h 75 13)) := by rw [← e664]; exact x_up_at
        have q691 : h662 76 (1152 + 2 * u636) = h651 76 (1152 + 2 * u636) := by rw [← e664]; exact x_up_k (by decide)
        have q692 : h651 76 (1152 + 2 * u636) = h639 76 (1152 + 2 * u636) := by rw [← e653]; exact x_up_i (by first | decide | omega)
        have q693 : h639 76 (1152 + 2 * u636) = 2147483655 := by rw [← e641]; exact x_up_at
        have s690 : Seg (sg h662) u636 (u636 + 1) := Seg.push (show 2147483648 ≤ h662 76 (1152 + 2 * u636) by first | decide | omega) (show h662 76 (1152 + 2 * u636) ≤ 2147483656 by first | decide | omega)
        have s694 : Seg (sg h662) (h 75 13 - 2147483648) (h662 75 13 - 2147483648) := Seg.cast (Seg.kp s690 Kp.refl) (by first | decide | omega) (by first | decide | omega)
        obtain ⟨w695, e696⟩ := Tk.no c13 (by first | decide | omega)
        obtain ⟨w697, e698⟩ := Tk.no c29 (by first | decide | omega)
        obtain ⟨w699, e700⟩ := Tk.no c45 (by first | decide | omega)
        obtain ⟨w701, e702⟩ := Tk.yes c133 (by first | decide | omega)
        have q703 : h662 75 7 = h651 75 7 := by rw [← e664]; exact x_up_i (by first | decide | omega)
        have q704 : h651 75 7 = h639 75 7 := by rw [← e653]; exact x_up_k (by decide)
        have q705 : h639 75 7 = h127 75 7 := by rw [← e641]; exact x_up_k (by decide)
        refine x_retI (np := 152) (x := 0) (by decide +kernel) (by decide) (Or.inr ⟨by decide +kernel, by first | decide | omega, by first | decide | omega⟩) ⟨_, rfl, (by decide), ?_⟩
        exact ⟨j663, f665, (by first | decide | omega), (fun z => by first | decide | omega), (fun z => by first | decide | omega), (fun z => by first | decide | omega), (fun z => by first | decide | omega), k682, (fun _ => s694), (gA_mine w701 (Eq.trans e700 (Eq.trans e698 e696)) e702 (by first | decide | omega) (congrArg (sk tB tN) (show h127 75 7 = h662 75 7 by first | decide | omega))), (fun z => absurd z (by first | decide | omega))⟩
      have q629 : ¬ (v35 = 2147483648) := q629
      exfalso; omega
    have q34 : ¬ (v19 = 2147483648) := q34
    have b706 := c28 (by first | decide | omega)
    refine x_aload (np := 66) (x := 0) (by decide +kernel) rfl (x_nc_le (by decide)) ?_
    have q707 : h23 75 10 = h7 75 10 := jK 0 f25 rg_75_10_0_1 (by first | decide | omega) (by first | decide | omega) (by decide)
    have q708 : h7 75 10 = h 75 10 := jK 0 f9 rg_75_10_0_1 (by first | decide | omega) (by first | decide | omega) (by decide)
    refine x_getC (np := 69) (x := 714) (f := 10) (q := (h 75 10)) (by decide +kernel) (by decide) (by decide +kernel) (q707.trans q708) (fun l709 => ?_)
    refine x_const (np := 71) (x := 9223372064772063238) (a := 2147483654) (by decide +kernel) (by decide) (by decide) ?_
    refine x_icmp (k := 1) (tg := 76) (np := 74) (by decide +kernel) (by decide) l709 (by decide) (fun q710 => ?_) (fun q711 => ?_)
    · have q710 : (h 75 10) ≠ 2147483654 := q710
      refine x_aload (np := 77) (x := 0) (by decide +kernel) rfl (x_nc_le (by decide)) ?_
      refine x_dup (np := 78) (x := 0) (by decide +kernel) (by have z := x_nc_le (k := 75) (by decide); unfold x_r; omega) ?_
      have q712 : h23 75 10 = h7 75 10 := jK 0 f25 rg_75_10_0_1 (by first | decide | omega) (by first | decide | omega) (by decide)
      have q713 : h7 75 10 = h 75 10 := jK 0 f9 rg_75_10_0_1 (by first | decide | omega) (by first | decide | omega) (by decide)
      refine x_getC (np := 81) (x := 714) (f := 10) (q := (h 75 10)) (by decide +kernel) (by decide) (by decide +kernel) (q712.trans q713) (fun l714 => ?_)
      refine x_const (np := 82) (x := 9223372043297226753) (a := 2147483649) (by decide +kernel) (by decide) (by decide) ?_
      refine x_iadd (np := 83) (x := 0) (v := (1 + (h 75 10))) (by decide +kernel) l709 (by decide) (by first | decide | omega) (by first | decide | omega) ?_
      refine x_putI (np := 86) (x := 714) (f := 10) (by decide +kernel) (by decide +kernel) (by first | decide | omega) (Or.inl (by decide)) ?_
      have j716 := jU (e := 10) (v := (1 + (h 75 10))) 0 j24 rg_75_10_0_1 (by first | decide | omega) (by first | decide | omega) (by first | decide | omega)
      have f718 := jF (e := 10) (v := (1 + (h 75 10))) 0 f31 rg_75_10_0_1 (by first | decide | omega) (by first | decide | omega) (by decide)
      generalize e717 : x_up h23 75 10 (1 + (h 75 10)) = h715 at j716 f718 ⊢
      refine x_aload (np := 87) (x := 0) (by decide +kernel) rfl (x_nc_le (by decide)) ?_
      have q719 : h715 75 10 = (1 + (h 75 10)) := by rw [← e717]; exact x_up_at
      have q720 : h715 75 13 = h23 75 13 := by rw [← e717]; exact x_up_i (by first | decide | omega)
      have q721 : h23 75 13 = h7 75 13 := jK 0 f25 rg_75_13_0_1 (by first | decide | omega) (by first | decide | omega) (by decide)
      have q722 : h7 75 13 = h 75 13 := jK 0 f9 rg_75_13_0_1 (by first | decide | omega) (by first | decide | omega) (by decide)
      have q723 : h715 75 7 = h23 75 7 := by rw [← e717]; exact x_up_i (by first | decide | omega)
      have q724 : h715 75 10 = (1 + (h 75 10)) := by rw [← e717]; exact x_up_at
      have m729 := Tq.fr m22 f25 (by decide) (by decide)
      have m728 : Tq tB tN h715 := by rw [← e717]; exact Tq.oth m729 (by decide) (by decide)
      refine x_cI (t := 6) (mj := 190) (n := 1) (rc := 12) (ml := 3) (nr := 0) (np := 90) (as := [x_r 75]) (rest := []) (lo1 := [x_r 75, 147573952589676412928, 147573952589676412928]) (by decide +kernel) (by decide) (by decide +kernel) (x_rb_of (by decide +kernel)) rfl rfl (x_wr (by decide) x_wn) x_wn (by decide) rfl (c190_75_D4 j716  (by first | decide | omega) (by first | decide | omega) m728) (fun v725 h730 l726 q727 => ?_)
      obtain ⟨j731, f732, b733, c734, c735, c736, c737, c738, c739, c740, c741⟩ := q727
      have f742 := Fr.trans f718 f732 (by decide)
      have q743 : h715 75 13 = h23 75 13 := by rw [← e717]; exact x_up_i (by first | decide | omega)
      have q744 : h23 75 13 = h7 75 13 := jK 0 f25 rg_75_13_0_1 (by first | decide | omega) (by first | decide | omega) (by decide)
      have q745 : h7 75 13 = h 75 13 := jK 0 f9 rg_75_13_0_1 (by first | decide | omega) (by first | decide | omega) (by decide)
      have b746 := jB (e := 13) 0 j731 rg_75_13_0_1 (by first | decide | omega) (by first | decide | omega)
      have q747 : h715 75 7 = h23 75 7 := by rw [← e717]; exact x_up_i (by first | decide | omega)
      have b748 := jB (e := 7) 0 j731 rg_75_7_0_1 (by first | decide | omega) (by first | decide | omega)
      have q749 : h715 75 10 = (1 + (h 75 10)) := by rw [← e717]; exact x_up_at
      have b750 := jB (e := 10) 0 j731 rg_75_10_0_1 (by first | decide | omega) (by first | decide | omega)
      have q751 : h715 75 7 = h23 75 7 := by rw [← e717]; exact x_up_i (by first | decide | omega)
      have q752 : h715 75 13 = h23 75 13 := by rw [← e717]; exact x_up_i (by first | decide | omega)
      have q753 : h23 75 13 = h7 75 13 := jK 0 f25 rg_75_13_0_1 (by first | decide | omega) (by first | decide | omega) (by decide)
      have q754 : h7 75 13 = h 75 13 := jK 0 f9 rg_75_13_0_1 (by first | decide | omega) (by first | decide | omega) (by decide)
      refine x_ifz (k := 1) (tg := 95) (np := 93) (by decide +kernel) (by decide) l726 (fun q755 => ?_) (fun q756 => ?_)
      · have q755 : v725 ≠ 2147483648 := q755
        have b757 := c734 (by first | decide | omega)
        have b758 := c735 (by first | decide | omega)
        have b759 := c736 (by first | decide | omega)
        have b760 := c737 (by first | decide | omega)
        have s761 := c739 (by first | decide | omega)
        have q762 : h715 75 13 = h23 75 13 := by rw [← e717]; exact x_up_i (by first | decide | omega)
        have q763 : h23 75 13 = h7 75 13 := jK 0 f25 rg_75_13_0_1 (by first | decide | omega) (by first | decide | omega) (by decide)
        have q764 : h7 75 13 = h 75 13 := jK 0 f9 rg_75_13_0_1 (by first | decide | omega) (by first | decide | omega) (by decide)
        refine x_aload (np := 96) (x := 0) (by decide +kernel) rfl (x_nc_le (by decide)) ?_
        refine x_dup (np := 97) (x := 0) (by decide +kernel) (by have z := x_nc_le (k := 75) (by decide); unfold x_r; omega) ?_
        refine x_getC (np := 100) (x := 714) (f := 10) (q := (h730 75 10)) (by decide +kernel) (by decide) (by decide +kernel) rfl (fun l765 => ?_)
        refine x_const (np := 101) (x := 9223372043297226753) (a := 2147483649) (by decide +kernel) (by decide) (by decide) ?_
        obtain ⟨v766, q767⟩ : ∃ z, z + 2147483649 = (h730 75 10) + 2147483648 := ⟨(h730 75 10) + 2147483648 - 2147483649, by first | decide | omega⟩
        refine x_isub (np := 102) (x := 0) (v := v766) (by decide +kernel) l765 (by decide) (by first | decide | omega) (by first | decide | omega) ?_
        refine x_putI (np := 105) (x := 714) (f := 10) (by decide +kernel) (by decide +kernel) (by first | decide | omega) (Or.inl (by decide)) ?_
        have j769 := jU (e := 10) (v := v766) 0 j731 rg_75_10_0_1 (by first | decide | omega) (by first | decide | omega) (by first | decide | omega)
        have f771 := jF (e := 10) (v := v766) 0 f742 rg_75_10_0_1 (by first | decide | omega) (by first | decide | omega) (by decide)
        generalize e770 : x_up h730 75 10 v766 = h768 at j769 f771 ⊢
        refine x_aload (np := 106) (x := 0) (by decide +kernel) rfl (x_nc_le (by decide)) ?_
        refine x_const (np := 108) (x := 9223372090541867020) (a := 2147483660) (by decide +kernel) (by decide) (by decide) ?_
        refine x_const (np := 109) (x := 9223372039002259456) (a := 2147483648) (by decide +kernel) (by decide) (by decide) ?_
        refine x_nV (t := 6) (mj := 187) (n := 3) (rc := 12) (ml := 3) (nr := 0) (np := 112) (as := [x_r 75, iv_c 2147483660, iv_c 2147483648]) (rest := []) (lo1 := [x_r 75, iv_c 2147483660, iv_c 2147483648]) (by decide +kernel) (by decide) (by decide +kernel) (x_rb_of (by decide +kernel)) rfl rfl (x_wr (by decide) (x_wi (by decide) (x_wi (by decide) x_wn))) x_wn (by decide) rfl ?_
        refine x_aload (np := 1) (x := 0) (by decide +kernel) rfl (x_nc_le (by decide)) ?_
        have q772 : h768 75 1 = 76 := by have z := jB (e := 1) 0 j769 rg_75_1_0_1 (by decide) (by decide); omega
        refine x_getR (np := 4) (x := 705) (f := 1) (q := 76) (by decide +kernel) (by decide) (by decide +kernel) q772 ?_
        refine x_const (np := 7) (x := 9223376986804585600) (a := 2147484800) (by decide +kernel) (by decide) (by decide) ?_
        refine x_const (np := 8) (x := 9223372047592194050) (a := 2147483650) (by decide +kernel) (by decide) (by decide) ?_
        refine x_aload (np := 9) (x := 0) (by decide +kernel) rfl (x_nc_le (by decide)) ?_
        have q773 : h768 75 13 = h730 75 13 := by rw [← e770]; exact x_up_i (by first | decide | omega)
        refine x_getC (np := 12) (x := 717) (f := 13) (q := (h730 75 13)) (by decide +kernel) (by decide) (by decide +kernel) q773 (fun l774 => ?_)
        obtain ⟨u775, q776⟩ : ∃ z, (h730 75 13) = 2147483648 + z := ⟨(h730 75 13) - 2147483648, by first | decide | omega⟩
        refine x_imul (np := 13) (x := 0) (i := 2) (j := u775) (v := (2147483648 + 2 * u775)) (by decide +kernel) (by first | decide | omega) (by first | decide | omega) (by first | decide | omega) (by first | decide | omega) (by decide) l774 ?_
        refine x_iadd (np := 14) (x := 0) (v := (2147484800 + 2 * u775)) (by decide +kernel) (by decide) (by first | decide | omega) (by first | decide | omega) (by first | decide | omega) ?_
        refine x_iload (np := 15) (x := 1) (by decide +kernel) rfl (by decide) ?_
        refine x_ast (np := 16) (x := 0) (kd := 1) (n := 1952) (i := (1152 + 2 * u775)) (by decide +kernel) (Or.inl rfl) (by decide +kernel) (by first | decide | omega) (by first | decide | omega) (by decide) (by decide) (fun z => absurd z (by decide)) ?_
        have j779 := jU (e := (1152 + 2 * u775)) (v := 2147483660) u775 j769 rg_76_1152_2_394 (by first | decide | omega) (by first | decide | omega) (by first | decide | omega)
        have f781 := jF (e := (1152 + 2 * u775)) (v := 2147483660) u775 f771 rg_76_1152_2_394 (by first | decide | omega) (by first | decide | omega) (by decide)
        generalize e780 : x_up h768 76 (1152 + 2 * u775) 2147483660 = h778 at j779 f781 ⊢
        refine x_aload (np := 17) (x := 0) (by decide +kernel) rfl (x_nc_le (by decide)) ?_
        have q782 : h778 75 1 = 76 := by have z := jB (e := 1) 0 j779 rg_75_1_0_1 (by decide) (by decide); omega
        refine x_getR (np := 20) (x := 705) (f := 1) (q := 76) (by decide +kernel) (by decide) (by decide +kernel) q782 ?_
        refine x_const (np := 23) (x := 9223376986804585600) (a := 2147484800) (by decide +kernel) (by decide) (by decide) ?_
        refine x_const (np := 24) (x := 9223372047592194050) (a := 2147483650) (by decide +kernel) (by decide) (by decide) ?_
        refine x_aload (np := 25) (x := 0) (by decide +kernel) rfl (x_nc_le (by decide)) ?_
        have q783 : h778 75 13 = h768 75 13 := by rw [← e780]; exact x_up_k (by decide)
        have q784 : h768 75 13 = h730 75 13 := by rw [← e770]; exact x_up_i (by first | decide | omega)
        refine x_getC (np := 28) (x := 717) (f := 13) (q := (h730 75 13)) (by decide +kernel) (by decide) (by decide +kernel) (q783.trans q784) (fun l785 => ?_)
        refine x_imul (np := 29) (x := 0) (i := 2) (j := u775) (v := (2147483648 + 2 * u775)) (by decide +kernel) (by first | decide | omega) (by first | decide | omega) (by first | decide | omega) (by first | decide | omega) (by decide) l774 ?_
        refine x_iadd (np := 30) (x := 0) (v := (2147484800 + 2 * u775)) (by decide +kernel) (by decide) (by first | decide | omega) (by first | decide | omega) (by first | decide | omega) ?_
        refine x_const (np := 31) (x := 9223372043297226753) (a := 2147483649) (by decide +kernel) (by decide) (by decide) ?_
        refine x_iadd (np := 32) (x := 0) (v := (2147484801 + 2 * u775)) (by decide +kernel) (by first | decide | omega) (by decide) (by first | decide | omega) (by first | decide | omega) ?_
        refine x_iload (np := 33) (x := 2) (by decide +kernel) rfl (by decide) ?_
        refine x_ast (np := 34) (x := 0) (kd := 1) (n := 1952) (i := (1153 + 2 * u775)) (by decide +kernel) (Or.inl rfl) (by decide +kernel) (by first | decide | omega) (by first | decide | omega) (by decide) (by decide) (fun z => absurd z (by decide)) ?_
        have j788 := jU (e := (1153 + 2 * u775)) (v := 2147483648) u775 j779 rg_76_1153_2_394 (by first | decide | omega) (by first | decide | omega) (by first | decide | omega)
        have f790 := jF (e := (1153 + 2 * u775)) (v := 2147483648) u775 f781 rg_76_1153_2_394 (by first | decide | omega) (by first | decide | omega) (by decide)
        generalize e789 : x_up h778 76 (1153 + 2 * u775) 2147483648 = h787 at j788 f790 ⊢
        refine x_aload (np := 35) (x := 0) (by decide +kernel) rfl (x_nc_le (by decide)) ?_
        refine x_dup (np := 36) (x := 0) (by decide +kernel) (by have z := x_nc_le (k := 75) (by decide); unfold x_r; omega) ?_
        have q791 : h787 75 13 = h778 75 13 := by rw [← e789]; exact x_up_k (by decide)
        have q792 : h778 75 13 = h768 75 13 := by rw [← e780]; exact x_up_k (by decide)
        have q793 : h768 75 13 = h730 75 13 := by rw [← e770]; exact x_up_i (by first | decide | omega)
        refine x_getC (np := 39) (x := 717) (f := 13) (q := (h730 75 13)) (by decide +kernel) (by decide) (by decide +kernel) ((q791.trans q792).trans q793) (fun l794 => ?_)
        refine x_const (np := 40) (x := 9223372043297226753) (a := 2147483649) (by decide +kernel) (by decide) (by decide) ?_
        refine x_iadd (np := 41) (x := 0) (v := (1 + (h730 75 13))) (by decide +kernel) l774 (by decide) (by first | decide | omega) (by first | decide | omega) ?_
        refine x_putI (np := 44) (x := 717) (f := 13) (by decide +kernel) (by decide +kernel) (by first | decide | omega) (Or.inl (by decide)) ?_
        have j796 := jU (e := 13) (v := (1 + (h730 75 13))) 0 j788 rg_75_13_0_1 (by first | decide | omega) (by first | decide | omega) (by first | decide | omega)
        have f798 := jF (e := 13) (v := (1 + (h730 75 13))) 0 f790 rg_75_13_0_1 (by first | decide | omega) (by first | decide | omega) (by decide)
        generalize e797 : x_up h787 75 13 (1 + (h730 75 13)) = h795 at j796 f798 ⊢
        refine x_retV (np := 45) (x := 0) (by decide +kernel) (by decide +kernel) ⟨rfl, ?_⟩
        have q799 : h795 75 13 = (1 + (h730 75 13)) := by rw [← e797]; exact x_up_at
        refine x_const (np := 113) (x := 9223372043297226753) (a := 2147483649) (by decide +kernel) (by decide) (by decide) ?_
        have q800 : h795 75 13 = (1 + (h730 75 13)) := by rw [← e797]; exact x_up_at
        have q801 : h795 75 7 = h787 75 7 := by rw [← e797]; exact x_up_i (by first | decide | omega)
        have q802 : h787 75 7 = h778 75 7 := by rw [← e789]; exact x_up_k (by decide)
        have q803 : h778 75 7 = h768 75 7 := by rw [← e780]; exact x_up_k (by decide)
        have q804 : h768 75 7 = h730 75 7 := by rw [← e770]; exact x_up_i (by first | decide | omega)
        have q805 : h795 75 10 = h787 75 10 := by rw [← e797]; exact x_up_i (by first | decide | omega)
        have q806 : h787 75 10 = h778 75 10 := by rw [← e789]; exact x_up_k (by decide)
        have q807 : h778 75 10 = h768 75 10 := by rw [← e780]; exact x_up_k (by decide)
        have q808 : h768 75 10 = v766 := by rw [← e770]; exact x_up_at
        have q809 : h795 75 7 = h787 75 7 := by rw [← e797]; exact x_up_i (by first | decide | omega)
        have q810 : h787 75 7 = h778 75 7 := by rw [← e789]; exact x_up_k (by decide)
        have q811 : h778 75 7 = h768 75 7 := by rw [← e780]; exact x_up_k (by decide)
        have q812 : h768 75 7 = h730 75 7 := by rw [← e770]; exact x_up_i (by first | decide | omega)
        have q813 : h795 75 13 = (1 + (h730 75 13)) := by rw [← e797]; exact x_up_at
        have k821 : Kp h h7 (h 75 13 - 2147483648) := Kp.fr Kp.refl f9 (by first | decide | omega) (by decide)
        have k820 : Kp h h23 (h 75 13 - 2147483648) := Kp.fr k821 f25 (by first | decide | omega) (by decide)
        have k819 : Kp h h715 (h 75 13 - 2147483648) := by rw [← e717]; exact Kp.oth k820 (by decide)
        have q822 : h715 75 13 = h23 75 13 := by rw [← e717]; exact x_up_i (by first | decide | omega)
        have q823 : h23 75 13 = h7 75 13 := jK 0 f25 rg_75_13_0_1 (by first | decide | omega) (by first | decide | omega) (by decide)
        have q824 : h7 75 13 = h 75 13 := jK 0 f9 rg_75_13_0_1 (by first | decide | omega) (by first | decide | omega) (by decide)
        have k818 : Kp h h730 (h 75 13 - 2147483648) := Kp.trans k819 c738 (by first | decide | omega)
        have k817 : Kp h h768 (h 75 13 - 2147483648) := by rw [← e770]; exact Kp.oth k818 (by decide)
        have k816 : Kp h h778 (h 75 13 - 2147483648) := by rw [← e780]; exact Kp.up k817 (by first | decide | omega) (fun i hi => by first | decide | omega)
        have k815 : Kp h h787 (h 75 13 - 2147483648) := by rw [← e789]; exact Kp.up k816 (by first | decide | omega) (fun i hi => by first | decide | omega)
        have k814 : Kp h h795 (h 75 13 - 2147483648) := by rw [← e797]; exact Kp.oth k815 (by decide)
        have q825 : h795 75 13 = (1 + (h730 75 13)) := by rw [← e797]; exact x_up_at
        have q827 : h795 76 (1152 + 2 * u775) = h787 76 (1152 + 2 * u775) := by rw [← e797]; exact x_up_k (by decide)
        have q828 : h787 76 (1152 + 2 * u775) = h778 76 (1152 + 2 * u775) := by rw [← e789]; exact x_up_i (by first | decide | omega)
        have q829 : h778 76 (1152 + 2 * u775) = 2147483660 := by rw [← e780]; exact x_up_at
        have k833 : Kp h730 h768 (h730 75 13 - 2147483648) := by rw [← e770]; exact Kp.oth Kp.refl (by decide)
        have k832 : Kp h730 h778 (h730 75 13 - 2147483648) := by rw [← e780]; exact Kp.up k833 (by first | decide | omega) (fun i hi => by first | decide | omega)
        have k831 : Kp h730 h787 (h730 75 13 - 2147483648) := by rw [← e789]; exact Kp.up k832 (by first | decide | omega) (fun i hi => by first | decide | omega)
        have k830 : Kp h730 h795 (h730 75 13 - 2147483648) := by rw [← e797]; exact Kp.oth k831 (by decide)
        have s826 : Seg (sg h795) (h715 75 13 - 2147483648) (u775 + 1) := Seg.not (Seg.cast (a' := (h715 75 13 - 2147483648)) (b' := u775) (Seg.kp s761 k830) rfl (by first | decide | omega)) (show h795 76 (1152 + 2 * u775) = 2147483660 by first | decide | omega)
        have s834 : Seg (sg h795) (h 75 13 - 2147483648) (h795 75 13 - 2147483648) := Seg.cast (Seg.kp s826 Kp.refl) (by first | decide | omega) (by first | decide | omega)
        obtain ⟨w835, e836⟩ := Tk.no c13 (by first | decide | omega)
        obtain ⟨w837, e838⟩ := Tk.yes c29 (by first | decide | omega)
        have q839 : h715 75 7 = h23 75 7 := by rw [← e717]; exact x_up_i (by first | decide | omega)
        have q840 : h795 75 7 = h787 75 7 := by rw [← e797]; exact x_up_i (by first | decide | omega)
        have q841 : h787 75 7 = h778 75 7 := by rw [← e789]; exact x_up_k (by decide)
        have q842 : h778 75 7 = h768 75 7 := by rw [← e780]; exact x_up_k (by decide)
        have q843 : h768 75 7 = h730 75 7 := by rw [← e770]; exact x_up_i (by first | decide | omega)
        refine x_retI (np := 114) (x := 0) (by decide +kernel) (by decide) (Or.inr ⟨by decide +kernel, by first | decide | omega, by first | decide | omega⟩) ⟨_, rfl, (by decide), ?_⟩
        exact ⟨j796, f798, (by first | decide | omega), (fun z => by first | decide | omega), (fun z => by first | decide | omega), (fun z => by first | decide | omega), (fun z => by first | decide | omega), k814, (fun _ => s834), (gA_not w837 e836 e838 (by decide) c740 (congrArg (sk tB tN) (show h715 75 7 = h23 75 7 by first | decide | omega)) (by first | decide | omega) (fun z => (congrArg (sk tB tN) (show h730 75 7 = h795 75 7 by first | decide | omega)))), (fun z => absurd z (by first | decide | omega))⟩
      have q756 : ¬ (v725 ≠ 2147483648) := q756
      refine x_const (np := 94) (x := 9223372039002259456) (a := 2147483648) (by decide +kernel) (by decide) (by decide) ?_
      have k847 : Kp h h7 (h 75 13 - 2147483648) := Kp.fr Kp.refl f9 (by first | decide | omega) (by decide)
      have k846 : Kp h h23 (h 75 13 - 2147483648) := Kp.fr k847 f25 (by first | decide | omega) (by decide)
      have k845 : Kp h h715 (h 75 13 - 2147483648) := by rw [← e717]; exact Kp.oth k846 (by decide)
      have q848 : h715 75 13 = h23 75 13 := by rw [← e717]; exact x_up_i (by first | decide | omega)
      have q849 : h23 75 13 = h7 75 13 := jK 0 f25 rg_75_13_0_1 (by first | decide | omega) (by first | decide | omega) (by decide)
      have q850 : h7 75 13 = h 75 13 := jK 0 f9 rg_75_13_0_1 (by first | decide | omega) (by first | decide | omega) (by decide)
      have k844 : Kp h h730 (h 75 13 - 2147483648) := Kp.trans k845 c738 (by first | decide | omega)
      obtain ⟨w851, e852⟩ := Tk.no c13 (by first | decide | omega)
      obtain ⟨w853, e854⟩ := Tk.yes c29 (by first | decide | omega)
      have q855 : h715 75 7 = h23 75 7 := by rw [← e717]; exact x_up_i (by first | decide | omega)
      obtain ⟨w856, e857⟩ := Tk.no c13 (by first | decide | omega)
      obtain ⟨w858, e859⟩ := Tk.yes c29 (by first | decide | omega)
      have q860 : h715 75 7 = h23 75 7 := by rw [← e717]; exact x_up_i (by first | decide | omega)
      refine x_retI (np := 95) (x := 0) (by decide +kernel) (by decide) (Or.inr ⟨by decide +kernel, by first | decide | omega, by first | decide | omega⟩) ⟨_, rfl, (by decide), ?_⟩
      exact ⟨j731, f742, (by first | decide | omega), (fun z => by first | decide | omega), (fun z => by first | decide | omega), (fun z => by first | decide | omega), (fun z => by first | decide | omega), k844, (fun z => absurd z (by first | decide | omega)), (gA_not w853 e852 e854 (by decide) c740 (congrArg (sk tB tN) (show h715 75 7 = h23 75 7 by first | decide | omega)) (by first | decide | omega) (fun z => absurd z (by first | decide | omega))), (fun _ => fA_not w858 e857 e859 (by decide) (c741 (by first | decide | omega)) (congrArg (sk tB tN) (show h715 75 7 = h23 75 7 by first | decide | omega)) rfl)⟩
    have q711 : ¬ ((h 75 10) ≠ 2147483654) := q711
    exfalso; omega
  have q18 : ¬ (v4 = 2147483648) := q18
  have b861 := c12 (by first | decide | omega)
  refine x_aload (np := 10) (x := 0) (by decide +kernel) rfl (x_nc_le (by decide)) ?_
  have q862 : h7 75 10 = h 75 10 := jK 0 f9 rg_75_10_0_1 (by first | decide | omega) (by first | decide | omega) (by decide)
  refine x_getC (np := 13) (x := 714) (f := 10) (q := (h 75 10)) (by decide +kernel) (by decide) (by decide +kernel) q862 (fun l863 => ?_)
  refine x_const (np := 15) (x := 9223372064772063238) (a := 2147483654) (by decide +kernel) (by decide) (by decide) ?_
  refine x_icmp (k := 1) (tg := 20) (np := 18) (by decide +kernel) (by decide) l863 (by decide) (fun q864 => ?_) (fun q865 => ?_)
  · have q864 : (h 75 10) ≠ 2147483654 := q864
    refine x_aload (np := 21) (x := 0) (by decide +kernel) rfl (x_nc_le (by decide)) ?_
    refine x_dup (np := 22) (x := 0) (by decide +kernel) (by have z := x_nc_le (k := 75) (by decide); unfold x_r; omega) ?_
    have q866 : h7 75 10 = h 75 10 := jK 0 f9 rg_75_10_0_1 (by first | decide | omega) (by first | decide | omega) (by decide)
    refine x_getC (np := 25) (x := 714) (f := 10) (q := (h 75 10)) (by decide +kernel) (by decide) (by decide +kernel) q866 (fun l867 => ?_)
    refine x_const (np := 26) (x := 9223372043297226753) (a := 2147483649) (by decide +kernel) (by decide) (by decide) ?_
    refine x_iadd (np := 27) (x := 0) (v := (1 + (h 75 10))) (by decide +kernel) l863 (by decide) (by first | decide | omega) (by first | decide | omega) ?_
    refine x_putI (np := 30) (x := 714) (f := 10) (by decide +kernel) (by decide +kernel) (by first | decide | omega) (Or.inl (by decide)) ?_
    have j869 := jU (e := 10) (v := (1 + (h 75 10))) 0 j8 rg_75_10_0_1 (by first | decide | omega) (by first | decide | omega) (by first | decide | omega)
    have f871 := jF (e := 10) (v := (1 + (h 75 10))) 0 f15 rg_75_10_0_1 (by first | decide | omega) (by first | decide | omega) (by decide)
    generalize e870 : x_up h7 75 10 (1 + (h 75 10)) = h868 at j869 f871 ⊢
    refine x_aload (np := 31) (x := 0) (by decide +kernel) rfl (x_nc_le (by decide)) ?_
    have q872 : h868 75 10 = (1 + (h 75 10)) := by rw [← e870]; exact x_up_at
    have q873 : h868 75 13 = h7 75 13 := by rw [← e870]; exact x_up_i (by first | decide | omega)
    have q874 : h7 75 13 = h 75 13 := jK 0 f9 rg_75_13_0_1 (by first | decide | omega) (by first | decide | omega) (by decide)
    have q875 : h868 75 7 = h7 75 7 := by rw [← e870]; exact x_up_i (by first | decide | omega)
    have q876 : h868 75 10 = (1 + (h 75 10)) := by rw [← e870]; exact x_up_at
    have m881 := Tq.fr hT f9 (by decide) (by decide)
    have m880 : Tq tB tN h868 := by rw [← e870]; exact Tq.oth m881 (by decide) (by decide)
    refine x_cI (t := 6) (mj := 192) (n := 1) (rc := 12) (ml := 1) (nr := 0) (np := 34) (as := [x_r 75]) (rest := []) (lo1 := [x_r 75]) (by decide +kernel) (by decide) (by decide +kernel) (x_rb_of (by decide +kernel)) rfl rfl (x_wr (by decide) x_wn) x_wn (by decide) rfl (c192_75_D4 j869  (by first | decide | omega) (by first | decide | omega) m880) (fun v877 h882 l878 q879 => ?_)
    obtain ⟨j883, f884, b885, c886, c887, c888, c889, c890, c891, c892, c893⟩ := q879
    have f894 := Fr.trans f871 f884 (by decide)
    have q895 : h868 75 13 = h7 75 13 := by rw [← e870]; exact x_up_i (by first | decide | omega)
    have q896 : h7 75 13 = h 75 13 := jK 0 f9 rg_75_13_0_1 (by first | decide | omega) (by first | decide | omega) (by decide)
    have b897 := jB (e := 13) 0 j883 rg_75_13_0_1 (by first | decide | omega) (by first | decide | omega)
    have q898 : h868 75 7 = h7 75 7 := by rw [← e870]; exact x_up_i (by first | decide | omega)
    have b899 := jB (e := 7) 0 j883 rg_75_7_0_1 (by first | decide | omega) (by first | decide | omega)
    have q900 : h868 75 10 = (1 + (h 75 10)) := by rw [← e870]; exact x_up_at
    have b901 := jB (e := 10) 0 j883 rg_75_10_0_1 (by first | decide | omega) (by first | decide | omega)
    have q902 : h868 75 7 = h7 75 7 := by rw [← e870]; exact x_up_i (by first | decide | omega)
    have q903 : h868 75 13 = h7 75 13 := by rw [← e870]; exact x_up_i (by first | decide | omega)
    have q904 : h7 75 13 = h 75 13 := jK 0 f9 rg_75_13_0_1 (by first | decide | omega) (by first | decide | omega) (by decide)
    refine x_ifz (k := 1) (tg := 39) (np := 37) (by decide +kernel) (by decide) l878 (fun q905 => ?_) (fun q906 => ?_)
    · have q905 : v877 ≠ 2147483648 := q905
      have b907 := c886 (by first | decide | omega)
      have b908 := c887 (by first | decide | omega)
      have b909 := c888 (by first | decide | omega)
      have b910 := c889 (by first | decide | omega)
      have s911 := c891 (by first | decide | omega)
      have q912 : h868 75 13 = h7 75 13 := by rw [← e870]; exact x_up_i (by first | decide | omega)
      have q913 : h7 75 13 = h 75 13 := jK 0 f9 rg_75_13_0_1 (by first | decide | omega) (by first | decide | omega) (by decide)
      refine x_aload (np := 40) (x := 0) (by decide +kernel) rfl (x_nc_le (by decide)) ?_
      refine x_dup (np := 41) (x := 0) (by decide +kernel) (by have z := x_nc_le (k := 75) (by decide); unfold x_r; omega) ?_
      refine x_getC (np := 44) (x := 714) (f := 10) (q := (h882 75 10)) (by decide +kernel) (by decide) (by decide +kernel) rfl (fun l914 => ?_)
      refine x_const (np := 45) (x := 9223372043297226753) (a := 2147483649) (by decide +kernel) (by decide) (by decide) ?_
      obtain ⟨v915, q916⟩ : ∃ z, z + 2147483649 = (h882 75 10) + 2147483648 := ⟨(h882 75 10) + 2147483648 - 2147483649, by first | decide | omega⟩
      refine x_isub (np := 46) (x := 0) (v := v915) (by decide +kernel) l914 (by decide) (by first | decide | omega) (by first | decide | omega) ?_
      refine x_putI (np := 49) (x := 714) (f := 10) (by decide +kernel) (by decide +kernel) (by first | decide | omega) (Or.inl (by decide)) ?_
      have j918 := jU (e := 10) (v := v915) 0 j883 rg_75_10_0_1 (by first | decide | omega) (by first | decide | omega) (by first | decide | omega)
      have f920 := jF (e := 10) (v := v915) 0 f894 rg_75_10_0_1 (by first | decide | omega) (by first | decide | omega) (by decide)
      generalize e919 : x_up h882 75 10 v915 = h917 at j918 f920 ⊢
      refine x_aload (np := 50) (x := 0) (by decide +kernel) rfl (x_nc_le (by decide)) ?_
      refine x_const (np := 52) (x := 9223372215095918633) (a := 2147483689) (by decide +kernel) (by decide) (by decide) ?_
      have m925 := Tq.fr m880 f884 (by decide) (by decide)
      have m924 : Tq tB tN h917 := by rw [← e919]; exact Tq.oth m925 (by decide) (by decide)
      refine x_cI (t := 6) (mj := 173) (n := 2) (rc := 12) (ml := 2) (nr := 0) (np := 55) (as := [x_r 75, iv_c 2147483689]) (rest := []) (lo1 := [x_r 75, iv_c 2147483689]) (by decide +kernel) (by decide) (by decide +kernel) (x_rb_of (by decide +kernel)) rfl rfl (x_wr (by decide) (x_wi (by decide) x_wn)) x_wn (by decide) rfl (c173_75 j918  (by first | decide | omega) m924) (fun v921 h926 l922 q923 => ?_)
      obtain ⟨j927, f928, b929, c930, c931, c932, c933⟩ := q923
      have f934 := Fr.trans f920 f928 (by decide)
      have q935 : h917 75 7 = h882 75 7 := by rw [← e919]; exact x_up_i (by first | decide | omega)
      have b936 := jB (e := 7) 0 j927 rg_75_7_0_1 (by first | decide | omega) (by first | decide | omega)
      have q937 : h917 75 7 = h882 75 7 := by rw [← e919]; exact x_up_i (by first | decide | omega)
      have q938 : h926 75 13 = h917 75 13 := jK 0 f928 rg_75_13_0_1 (by first | decide | omega) (by first | decide | omega) (by decide)
      have q939 : h917 75 13 = h882 75 13 := by rw [← e919]; exact x_up_i (by first | decide | omega)
      have q940 : h926 75 10 = h917 75 10 := jK 0 f928 rg_75_10_0_1 (by first | decide | omega) (by first | decide | omega) (by decide)
      have q941 : h917 75 10 = v915 := by rw [← e919]; exact x_up_at
      have q942 : h926 75 13 = h917 75 13 := jK 0 f928 rg_75_13_0_1 (by first | decide | omega) (by first | decide | omega) (by decide)
      have q943 : h917 75 13 = h882 75 13 := by rw [← e919]; exact x_up_i (by first | decide | omega)
      have k948 : Kp h h7 (h 75 13 - 2147483648) := Kp.fr Kp.refl f9 (by first | decide | omega) (by decide)
      have k947 : Kp h h868 (h 75 13 - 2147483648) := by rw [← e870]; exact Kp.oth k948 (by decide)
      have q949 : h868 75 13 = h7 75 13 := by rw [← e870]; exact x_up_i (by first | decide | omega)
      have q950 : h7 75 13 = h 75 13 := jK 0 f9 rg_75_13_0_1 (by first | decide | omega) (by first | decide | omega) (by decide)
      have k946 : Kp h h882 (h 75 13 - 2147483648) := Kp.trans k947 c890 (by first | decide | omega)
      have k945 : Kp h h917 (h 75 13 - 2147483648) := by rw [← e919]; exact Kp.oth k946 (by decide)
      have k944 : Kp h h926 (h 75 13 - 2147483648) := Kp.fr k945 f928 (by first | decide | omega) (by decide)
      have q951 : h926 75 13 = h917 75 13 := jK 0 f928 rg_75_13_0_1 (by first | decide | omega) (by first | decide | omega) (by decide)
      have q952 : h917 75 13 = h882 75 13 := by rw [← e919]; exact x_up_i (by first | decide | omega)
      have k954 : Kp h882 h917 (h882 75 13 - 2147483648) := by rw [← e919]; exact Kp.oth Kp.refl (by decide)
      have k953 : Kp h882 h926 (h882 75 13 - 2147483648) := Kp.fr k954 f928 (by first | decide | omega) (by decide)
      have s955 : Seg (sg h926) (h 75 13 - 2147483648) (h926 75 13 - 2147483648) := Seg.cast (Seg.kp s911 k953) (by first | decide | omega) (by first | decide | omega)
      obtain ⟨w956, e957⟩ := Tk.yes c13 (by first | decide | omega)
      have q958 : h868 75 7 = h7 75 7 := by rw [← e870]; exact x_up_i (by first | decide | omega)
      have q959 : h917 75 7 = h882 75 7 := by rw [← e919]; exact x_up_i (by first | decide | omega)
      obtain ⟨w960, e961⟩ := Tk.yes c13 (by first | decide | omega)
      have q962 : h868 75 7 = h7 75 7 := by rw [← e870]; exact x_up_i (by first | decide | omega)
      have q963 : h917 75 7 = h882 75 7 := by rw [← e919]; exact x_up_i (by first | decide | omega)
      refine x_retI (np := 56) (x := 0) (by decide +kernel) l922 (Or.inr ⟨by decide +kernel, by first | decide | omega, by first | decide | omega⟩) ⟨_, rfl, l922, ?_⟩
      exact ⟨j927, f934, (by first | decide | omega), (fun z => by first | decide | omega), (fun z => by first | decide | omega), (fun z => by first | decide | omega), (fun z => by first | decide | omega), k944, (fun _ => s955), (gA_parT w956 rfl e957 (by decide) c892 (congrArg (sk tB tN) (show h868 75 7 = h7 75 7 by first | decide | omega)) (by first | decide | omega) c932 (congrArg (sk tB tN) (show h917 75 7 = h882 75 7 by first | decide | omega)) (by first | decide | omega) (fun z => rfl)), (fun _ => fA_par1 w960 rfl e961 (by decide) c892 (congrArg (sk tB tN) (show h868 75 7 = h7 75 7 by first | decide | omega)) (by first | decide | omega) (Tk.no c932 (by first | decide | omega)).1 (congrArg (sk tB tN) (show h917 75 7 = h882 75 7 by first | decide | omega)) c933)⟩
    have q906 : ¬ (v877 ≠ 2147483648) := q906
    refine x_const (np := 38) (x := 9223372039002259456) (a := 2147483648) (by decide +kernel) (by decide) (by decide) ?_
    have k966 : Kp h h7 (h 75 13 - 2147483648) := Kp.fr Kp.refl f9 (by first | decide | omega) (by decide)
    have k965 : Kp h h868 (h 75 13 - 2147483648) := by rw [← e870]; exact Kp.oth k966 (by decide)
    have q967 : h868 75 13 = h7 75 13 := by rw [← e870]; exact x_up_i (by first | decide | omega)
    have q968 : h7 75 13 = h 75 13 := jK 0 f9 rg_75_13_0_1 (by first | decide | omega) (by first | decide | omega) (by decide)
    have k964 : Kp h h882 (h 75 13 - 2147483648) := Kp.trans k965 c890 (by first | decide | omega)
    obtain ⟨w969, e970⟩ := Tk.yes c13 (by first | decide | omega)
    have q971 : h868 75 7 = h7 75 7 := by rw [← e870]; exact x_up_i (by first | decide | omega)
    obtain ⟨w972, e973⟩ := Tk.yes c13 (by first | decide | omega)
    have q974 : h868 75 7 = h7 75 7 := by rw [← e870]; exact x_up_i (by first | decide | omega)
    refine x_retI (np := 39) (x := 0) (by decide +kernel) (by decide) (Or.inr ⟨by decide +kernel, by first | decide | omega, by first | decide | omega⟩) ⟨_, rfl, (by decide), ?_⟩
    exact ⟨j883, f894, (by first | decide | omega), (fun z => by first | decide | omega), (fun z => by first | decide | omega), (fun z => by first | decide | omega), (fun z => by first | decide | omega), k964, (fun z => absurd z (by first | decide | omega)), (gA_par0 w969 rfl e970 (by decide) c892 (congrArg (sk tB tN) (show h868 75 7 = h7 75 7 by first | decide | omega)) (by first | decide | omega) (by first | decide | omega)), (fun _ => fA_par0 w972 rfl e973 (by decide) (c893 (by first | decide | omega)) (congrArg (sk tB tN) (show h868 75 7 = h7 75 7 by first | decide | omega)) rfl)⟩
  have q865 : ¬ ((h 75 10) ≠ 2147483654) := q865
  exfalso; omega
