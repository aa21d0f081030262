/-! ===== methods ===== -/
set_option maxHeartbeats 0 in
/-- LentNamesModel.readAllOf()Z -/
theorem c191_75_D6 {sc : Nat × Nat} {d  : Nat} {h : xh} {tB : Nat → Nat} {tN : Nat} (hJ : J h) (hr0 : (h 75 13) + 5 ≤ (h 75 7)) (hr1 : (h 75 10) = 2147483654) (hT : Tq tB tN h) : X sc 191 (d + 8) (xI fun r h' => J h' ∧ Fr 89128961 h h' ∧ (2147483648 ≤ r ∧ r ≤ 2147483649) ∧ (r = 2147483649 → h' 75 13 + h 75 7 ≤ h' 75 7 + h 75 13) ∧ (r = 2147483649 → h' 75 10 = h 75 10) ∧ (r = 2147483649 → h 75 7 + 0 ≤ h' 75 7) ∧ (r = 2147483649 → h 75 13 ≤ h' 75 13) ∧ Kp h h' (h 75 13 - 2147483648) ∧ (r = 2147483649 → Seg (sg h') (h 75 13 - 2147483648) (h' 75 13 - 2147483648)) ∧ G tB tN (Kd.seq 1) 6 (sk tB tN (h 75 7)) (rs r (sk tB tN (h' 75 7)))) 0 0 0 [x_r 75] [] h := by
  have hF := Fr.refl 89128961 h
  have b1 := jB (e := 13) 0 hJ rg_75_13_0_1 (by first | decide | omega) (by first | decide | omega)
  have b2 := jB (e := 7) 0 hJ rg_75_7_0_1 (by first | decide | omega) (by first | decide | omega)
  have b3 := jB (e := 10) 0 hJ rg_75_10_0_1 (by first | decide | omega) (by first | decide | omega)
  refine x_aload (np := 1) (x := 0) (by decide +kernel) rfl (x_nc_le (by decide)) ?_
  refine x_cI (t := 6) (mj := 190) (n := 1) (rc := 12) (ml := 3) (nr := 0) (np := 4) (as := [x_r 75]) (rest := []) (lo1 := [x_r 75, 147573952589676412928, 147573952589676412928]) (by decide +kernel) (by decide) (by decide +kernel) (x_rb_of (by decide +kernel)) rfl rfl (x_wr (by decide) x_wn) x_wn (by decide) rfl (c190_75_D6 hJ  (by first | decide | omega) (by first | decide | omega) hT) (fun v4 h7 l5 q6 => ?_)
  obtain ⟨j8, f9, b10, c11, c12, c13, c14, c15, c16, c17⟩ := q6
  have f18 := Fr.trans hF f9 (by decide)
  have b19 := jB (e := 13) 0 j8 rg_75_13_0_1 (by first | decide | omega) (by first | decide | omega)
  have b20 := jB (e := 7) 0 j8 rg_75_7_0_1 (by first | decide | omega) (by first | decide | omega)
  have q21 : h7 75 10 = h 75 10 := jK 0 f9 rg_75_10_0_1 (by first | decide | omega) (by first | decide | omega) (by decide)
  refine x_ifz (k := 1) (tg := 9) (np := 7) (by decide +kernel) (by decide) l5 (fun q22 => ?_) (fun q23 => ?_)
  · have q22 : v4 ≠ 2147483648 := q22
    have b24 := c11 (by first | decide | omega)
    have b25 := c12 (by first | decide | omega)
    have b26 := c13 (by first | decide | omega)
    have b27 := c14 (by first | decide | omega)
    have s28 := c16 (by first | decide | omega)
    have p210 : ∀ (n : Nat) (h207 : xh), 4294967296 - h207 75 7 < n → h207 75 13 + h 75 7 ≤ h207 75 7 + h 75 13 → h207 75 10 = h 75 10 → h 75 7 ≤ h207 75 7 → h 75 13 ≤ h207 75 13 → J h207 → Fr 89128961 h7 h207 → Res tB tN (Kd.lp 1) 6 (sk tB tN (h207 75 7)) (Kd.seq 1) 6 (sk tB tN (h 75 7)) → Kp h h207 (h 75 13 - 2147483648) → Seg (sg h207) (h 75 13 - 2147483648) (h207 75 13 - 2147483648) → X sc 191 (d + 8) (xI fun r h' => J h' ∧ Fr 89128961 h h' ∧ (2147483648 ≤ r ∧ r ≤ 2147483649) ∧ (r = 2147483649 → h' 75 13 + h 75 7 ≤ h' 75 7 + h 75 13) ∧ (r = 2147483649 → h' 75 10 = h 75 10) ∧ (r = 2147483649 → h 75 7 + 0 ≤ h' 75 7) ∧ (r = 2147483649 → h 75 13 ≤ h' 75 13) ∧ Kp h h' (h 75 13 - 2147483648) ∧ (r = 2147483649 → Seg (sg h') (h 75 13 - 2147483648) (h' 75 13 - 2147483648)) ∧ G tB tN (Kd.seq 1) 6 (sk tB tN (h 75 7)) (rs r (sk tB tN (h' 75 7)))) 0 0 9 [x_r 75] [] h207 := by
      intro n
      induction n with
      | zero => intro h207 q218; exact absurd q218 (Nat.not_lt_zero _)
      | succ n i219 =>
        intro h207 q218 b211 b212 b213 b214 j209 f208 m215 m216 m217
        have f220 := Fr.trans f18 f208 (by decide)
        refine x_aload (np := 10) (x := 0) (by decide +kernel) rfl (x_nc_le (by decide)) ?_
        refine x_ldcwB (i := 31) (idx := 257) (tx := "and") (by rw [tb_y191]; exact List.mem_of_getElem? (i := 66) rfl) (by decide) (by rw [tb_b191]; decide +kernel) ?_
        have m225 := Tq.fr hT f9 (by decide) (by decide)
        have m224 := Tq.fr m225 f208 (by decide) (by decide)
        refine x_cI (t := 6) (mj := 171) (n := 2) (rc := 12) (ml := 2) (nr := 0) (np := 16) (as := [x_r 75, x_b (31 + 1)]) (rest := []) (lo1 := [x_r 75, x_b (31 + 1)]) (by decide +kernel) (by decide) (by decide +kernel) (x_rb_of (by decide +kernel)) rfl rfl (x_wr (by decide) (x_wB (by decide) x_wn)) x_wn (by decide) rfl (c171_75_S0 j209  (by decide) m224) (fun v221 h226 l222 q223 => ?_)
        obtain ⟨j227, f228, b229, c230, c231, c232⟩ := q223
        have f233 := Fr.trans f220 f228 (by decide)
        have f234 := Fr.trans f208 f228 (by decide)
        have b235 := jB (e := 7) 0 j209 rg_75_7_0_1 (by first | decide | omega) (by first | decide | omega)
        have b236 := jB (e := 7) 0 j227 rg_75_7_0_1 (by first | decide | omega) (by first | decide | omega)
        refine x_ifz (k := 0) (tg := 38) (np := 19) (by decide +kernel) (by decide) l222 (fun q237 => ?_) (fun q238 => ?_)
        · have q237 : v221 = 2147483648 := q237
          refine x_const (np := 39) (x := 9223372043297226753) (a := 2147483649) (by decide +kernel) (by decide) (by decide) ?_
          have q239 : h226 75 13 = h207 75 13 := jK 0 f228 rg_75_13_0_1 (by first | decide | omega) (by first | decide | omega) (by decide)
          have b240 := jB (e := 13) 0 j209 rg_75_13_0_1 (by first | decide | omega) (by first | decide | omega)
          have q241 : h226 75 10 = h207 75 10 := jK 0 f228 rg_75_10_0_1 (by first | decide | omega) (by first | decide | omega) (by decide)
          have q242 : h207 75 10 = h7 75 10 := jK 0 f208 rg_75_10_0_1 (by first | decide | omega) (by first | decide | omega) (by decide)
          have q243 : h7 75 10 = h 75 10 := jK 0 f9 rg_75_10_0_1 (by first | decide | omega) (by first | decide | omega) (by decide)
          have q244 : h226 75 13 = h207 75 13 := jK 0 f228 rg_75_13_0_1 (by first | decide | omega) (by first | decide | omega) (by decide)
          have k246 : Kp h h207 (h 75 13 - 2147483648) := Kp.less m216 (by first | decide | omega)
          have k245 : Kp h h226 (h 75 13 - 2147483648) := Kp.fr k246 f228 (by first | decide | omega) (by decide)
          have q247 : h226 75 13 = h207 75 13 := jK 0 f228 rg_75_13_0_1 (by first | decide | omega) (by first | decide | omega) (by decide)
          have k248 : Kp h207 h226 (h207 75 13 - 2147483648) := Kp.fr Kp.refl f228 (by first | decide | omega) (by decide)
          have s249 : Seg (sg h226) (h 75 13 - 2147483648) (h226 75 13 - 2147483648) := Seg.cast (Seg.kp m217 k248) (by first | decide | omega) (by first | decide | omega)
          obtain ⟨w250, e251⟩ := Tk.no c232 (by first | decide | omega)
          refine x_retI (np := 40) (x := 0) (by decide +kernel) (by decide) (Or.inr ⟨by decide +kernel, by first | decide | omega, by first | decide | omega⟩) ⟨_, rfl, (by decide), ?_⟩
          exact ⟨j227, f233, (by first | decide | omega), (fun z => by first | decide | omega), (fun z => by first | decide | omega), (fun z => by first | decide | omega), (fun z => by first | decide | omega), k245, (fun _ => s249), (gQ_e (t := 1) m215 w250 rfl (by first | decide | omega) ((Eq.symm e251)))⟩
        have q238 : ¬ (v221 = 2147483648) := q238
        have b252 := c231 (by first | decide | omega)
        refine x_aload (np := 20) (x := 0) (by decide +kernel) rfl (x_nc_le (by decide)) ?_
        have q253 : h226 75 10 = h207 75 10 := jK 0 f228 rg_75_10_0_1 (by first | decide | omega) (by first | decide | omega) (by decide)
        have q254 : h207 75 10 = h7 75 10 := jK 0 f208 rg_75_10_0_1 (by first | decide | omega) (by first | decide | omega) (by decide)
        have q255 : h7 75 10 = h 75 10 := jK 0 f9 rg_75_10_0_1 (by first | decide | omega) (by first | decide | omega) (by decide)
        have q256 : h226 75 13 = h207 75 13 := jK 0 f228 rg_75_13_0_1 (by first | decide | omega) (by first | decide | omega) (by decide)
        have b257 := jB (e := 13) 0 j209 rg_75_13_0_1 (by first | decide | omega) (by first | decide | omega)
        have q258 : h226 75 10 = h207 75 10 := jK 0 f228 rg_75_10_0_1 (by first | decide | omega) (by first | decide | omega) (by decide)
        have q259 : h207 75 10 = h7 75 10 := jK 0 f208 rg_75_10_0_1 (by first | decide | omega) (by first | decide | omega) (by decide)
        have q260 : h7 75 10 = h 75 10 := jK 0 f9 rg_75_10_0_1 (by first | decide | omega) (by first | decide | omega) (by decide)
        have m264 := Tq.fr m224 f228 (by decide) (by decide)
        refine x_cI (t := 6) (mj := 190) (n := 1) (rc := 12) (ml := 3) (nr := 0) (np := 23) (as := [x_r 75]) (rest := []) (lo1 := [x_r 75, 147573952589676412928, 147573952589676412928]) (by decide +kernel) (by decide) (by decide +kernel) (x_rb_of (by decide +kernel)) rfl rfl (x_wr (by decide) x_wn) x_wn (by decide) rfl (c190_75_D6 j227  (by first | decide | omega) (by first | decide | omega) m264) (fun v261 h265 l262 q263 => ?_)
        obtain ⟨j266, f267, b268, c269, c270, c271, c272, c273, c274, c275⟩ := q263
        have f276 := Fr.trans f233 f267 (by decide)
        have f277 := Fr.trans f234 f267 (by decide)
        have q278 : h226 75 13 = h207 75 13 := jK 0 f228 rg_75_13_0_1 (by first | decide | omega) (by first | decide | omega) (by decide)
        have b279 := jB (e := 13) 0 j266 rg_75_13_0_1 (by first | decide | omega) (by first | decide | omega)
        have b280 := jB (e := 7) 0 j266 rg_75_7_0_1 (by first | decide | omega) (by first | decide | omega)
        have q281 : h226 75 10 = h207 75 10 := jK 0 f228 rg_75_10_0_1 (by first | decide | omega) (by first | decide | omega) (by decide)
        have q282 : h207 75 10 = h7 75 10 := jK 0 f208 rg_75_10_0_1 (by first | decide | omega) (by first | decide | omega) (by decide)
        have q283 : h7 75 10 = h 75 10 := jK 0 f9 rg_75_10_0_1 (by first | decide | omega) (by first | decide | omega) (by decide)
        have q284 : h265 75 10 = h226 75 10 := jK 0 f267 rg_75_10_0_1 (by first | decide | omega) (by first | decide | omega) (by decide)
        have q285 : h226 75 10 = h207 75 10 := jK 0 f228 rg_75_10_0_1 (by first | decide | omega) (by first | decide | omega) (by decide)
        have q286 : h207 75 10 = h7 75 10 := jK 0 f208 rg_75_10_0_1 (by first | decide | omega) (by first | decide | omega) (by decide)
        have q287 : h7 75 10 = h 75 10 := jK 0 f9 rg_75_10_0_1 (by first | decide | omega) (by first | decide | omega) (by decide)
        have q288 : h226 75 13 = h207 75 13 := jK 0 f228 rg_75_13_0_1 (by first | decide | omega) (by first | decide | omega) (by decide)
        refine x_ifz (k := 1) (tg := 28) (np := 26) (by decide +kernel) (by decide) l262 (fun q289 => ?_) (fun q290 => ?_)
        · have q289 : v261 ≠ 2147483648 := q289
          have b291 := c269 (by first | decide | omega)
          have b292 := c270 (by first | decide | omega)
          have b293 := c271 (by first | decide | omega)
          have b294 := c272 (by first | decide | omega)
          have s295 := c274 (by first | decide | omega)
          have q296 : h226 75 13 = h207 75 13 := jK 0 f228 rg_75_13_0_1 (by first | decide | omega) (by first | decide | omega) (by decide)
          refine x_aload (np := 29) (x := 0) (by decide +kernel) rfl (x_nc_le (by decide)) ?_
          refine x_const (np := 31) (x := 9223372094836834317) (a := 2147483661) (by decide +kernel) (by decide) (by decide) ?_
          refine x_const (np := 32) (x := 9223372039002259456) (a := 2147483648) (by decide +kernel) (by decide) (by decide) ?_
          refine x_nV (t := 6) (mj := 187) (n := 3) (rc := 12) (ml := 3) (nr := 0) (np := 35) (as := [x_r 75, iv_c 2147483661, iv_c 2147483648]) (rest := []) (lo1 := [x_r 75, iv_c 2147483661, iv_c 2147483648]) (by decide +kernel) (by decide) (by decide +kernel) (x_rb_of (by decide +kernel)) rfl rfl (x_wr (by decide) (x_wi (by decide) (x_wi (by decide) x_wn))) x_wn (by decide) rfl ?_
          refine x_aload (np := 1) (x := 0) (by decide +kernel) rfl (x_nc_le (by decide)) ?_
          have q297 : h265 75 1 = 76 := by have z := jB (e := 1) 0 j266 rg_75_1_0_1 (by decide) (by decide); omega
          refine x_getR (np := 4) (x := 705) (f := 1) (q := 76) (by decide +kernel) (by decide) (by decide +kernel) q297 ?_
          refine x_const (np := 7) (x := 9223376986804585600) (a := 2147484800) (by decide +kernel) (by decide) (by decide) ?_
          refine x_const (np := 8) (x := 9223372047592194050) (a := 2147483650) (by decide +kernel) (by decide) (by decide) ?_
          refine x_aload (np := 9) (x := 0) (by decide +kernel) rfl (x_nc_le (by decide)) ?_
          refine x_getC (np := 12) (x := 717) (f := 13) (q := (h265 75 13)) (by decide +kernel) (by decide) (by decide +kernel) rfl (fun l298 => ?_)
          obtain ⟨u299, q300⟩ : ∃ z, (h265 75 13) = 2147483648 + z := ⟨(h265 75 13) - 2147483648, by first | decide | omega⟩
          refine x_imul (np := 13) (x := 0) (i := 2) (j := u299) (v := (2147483648 + 2 * u299)) (by decide +kernel) (by first | decide | omega) (by first | decide | omega) (by first | decide | omega) (by first | decide | omega) (by decide) l298 ?_
          refine x_iadd (np := 14) (x := 0) (v := (2147484800 + 2 * u299)) (by decide +kernel) (by decide) (by first | decide | omega) (by first | decide | omega) (by first | decide | omega) ?_
          refine x_iload (np := 15) (x := 1) (by decide +kernel) rfl (by decide) ?_
          refine x_ast (np := 16) (x := 0) (kd := 1) (n := 1952) (i := (1152 + 2 * u299)) (by decide +kernel) (Or.inl rfl) (by decide +kernel) (by first | decide | omega) (by first | decide | omega) (by decide) (by decide) (fun z => absurd z (by decide)) ?_
          have j303 := jU (e := (1152 + 2 * u299)) (v := 2147483661) u299 j266 rg_76_1152_2_394 (by first | decide | omega) (by first | decide | omega) (by first | decide | omega)
          have f305 := jF (e := (1152 + 2 * u299)) (v := 2147483661) u299 f276 rg_76_1152_2_394 (by first | decide | omega) (by first | decide | omega) (by decide)
          have f306 := jF (e := (1152 + 2 * u299)) (v := 2147483661) u299 f277 rg_76_1152_2_394 (by first | decide | omega) (by first | decide | omega) (by decide)
          generalize e304 : x_up h265 76 (1152 + 2 * u299) 2147483661 = h302 at j303 f305 f306 ⊢
          refine x_aload (np := 17) (x := 0) (by decide +kernel) rfl (x_nc_le (by decide)) ?_
          have q307 : h302 75 1 = 76 := by have z := jB (e := 1) 0 j303 rg_75_1_0_1 (by decide) (by decide); omega
          refine x_getR (np := 20) (x := 705) (f := 1) (q := 76) (by decide +kernel) (by decide) (by decide +kernel) q307 ?_
          refine x_const (np := 23) (x := 9223376986804585600) (a := 2147484800) (by decide +kernel) (by decide) (by decide) ?_
          refine x_const (np := 24) (x := 9223372047592194050) (a := 2147483650) (by decide +kernel) (by decide) (by decide) ?_
          refine x_aload (np := 25) (x := 0) (by decide +kernel) rfl (x_nc_le (by decide)) ?_
          have q308 : h302 75 13 = h265 75 13 := by rw [← e304]; exact x_up_k (by decide)
          refine x_getC (np := 28) (x := 717) (f := 13) (q := (h265 75 13)) (by decide +kernel) (by decide) (by decide +kernel) q308 (fun l309 => ?_)
          refine x_imul (np := 29) (x := 0) (i := 2) (j := u299) (v := (2147483648 + 2 * u299)) (by decide +kernel) (by first | decide | omega) (by first | decide | omega) (by first | decide | omega) (by first | decide | omega) (by decide) l298 ?_
          refine x_iadd (np := 30) (x := 0) (v := (2147484800 + 2 * u299)) (by decide +kernel) (by decide) (by first | decide | omega) (by first | decide | omega) (by first | decide | omega) ?_
          refine x_const (np := 31) (x := 9223372043297226753) (a := 2147483649) (by decide +kernel) (by decide) (by decide) ?_
          refine x_iadd (np := 32) (x := 0) (v := (2147484801 + 2 * u299)) (by decide +kernel) (by first | decide | omega) (by decide) (by first | decide | omega) (by first | decide | omega) ?_
          refine x_iload (np := 33) (x := 2) (by decide +kernel) rfl (by decide) ?_
          refine x_ast (np := 34) (x := 0) (kd := 1) (n := 1952) (i := (1153 + 2 * u299)) (by decide +kernel) (Or.inl rfl) (by decide +kernel) (by first | decide | omega) (by first | decide | omega) (by decide) (by decide) (fun z => absurd z (by decide)) ?_
          have j312 := jU (e := (1153 + 2 * u299)) (v := 2147483648) u299 j303 rg_76_1153_2_394 (by first | decide | omega) (by first | decide | omega) (by first | decide | omega)
          have f314 := jF (e := (1153 + 2 * u299)) (v := 2147483648) u299 f305 rg_76_1153_2_394 (by first | decide | omega) (by first | decide | omega) (by decide)
          have f315 := jF (e := (1153 + 2 * u299)) (v := 2147483648) u299 f306 rg_76_1153_2_394 (by first | decide | omega) (by first | decide | omega) (by decide)
          generalize e313 : x_up h302 76 (1153 + 2 * u299) 2147483648 = h311 at j312 f314 f315 ⊢
          refine x_aload (np := 35) (x := 0) (by decide +kernel) rfl (x_nc_le (by decide)) ?_
          refine x_dup (np := 36) (x := 0) (by decide +kernel) (by have z := x_nc_le (k := 75) (by decide); unfold x_r; omega) ?_
          have q316 : h311 75 13 = h302 75 13 := by rw [← e313]; exact x_up_k (by decide)
          have q317 : h302 75 13 = h265 75 13 := by rw [← e304]; exact x_up_k (by decide)
          refine x_getC (np := 39) (x := 717) (f := 13) (q := (h265 75 13)) (by decide +kernel) (by decide) (by decide +kernel) (q316.trans q317) (fun l318 => ?_)
          refine x_const (np := 40) (x := 9223372043297226753) (a := 2147483649) (by decide +kernel) (by decide) (by decide) ?_
          refine x_iadd (np := 41) (x := 0) (v := (1 + (h265 75 13))) (by decide +kernel) l298 (by decide) (by first | decide | omega) (by first | decide | omega) ?_
          refine x_putI (np := 44) (x := 717) (f := 13) (by decide +kernel) (by decide +kernel) (by first | decide | omega) (Or.inl (by decide)) ?_
          have j320 := jU (e := 13) (v := (1 + (h265 75 13))) 0 j312 rg_75_13_0_1 (by first | decide | omega) (by first | decide | omega) (by first | decide | omega)
          have f322 := jF (e := 13) (v := (1 + (h265 75 13))) 0 f314 rg_75_13_0_1 (by first | decide | omega) (by first | decide | omega) (by decide)
          have f323 := jF (e := 13) (v := (1 + (h265 75 13))) 0 f315 rg_75_13_0_1 (by first | decide | omega) (by first | decide | omega) (by decide)
          generalize e321 : x_up h311 75 13 (1 + (h265 75 13)) = h319 at j320 f322 f323 ⊢
          refine x_retV (np := 45) (x := 0) (by decide +kernel) (by decide +kernel) ⟨rfl, ?_⟩
          have q324 : h319 75 13 = (1 + (h265 75 13)) := by rw [← e321]; exact x_up_at
          refine x_goto (np := 38) (x := 9) (by decide +kernel) ?_
          have q325 : h319 75 7 = h311 75 7 := by rw [← e321]; exact x_up_i (by first | decide | omega)
          have q326 : h311 75 7 = h302 75 7 := by rw [← e313]; exact x_up_k (by decide)
          have q327 : h302 75 7 = h265 75 7 := by rw [← e304]; exact x_up_k (by decide)
          have q328 : h319 75 7 = h311 75 7 := by rw [← e321]; exact x_up_i (by first | decide | omega)
          have q329 : h311 75 7 = h302 75 7 := by rw [← e313]; exact x_up_k (by decide)
          have q330 : h302 75 7 = h265 75 7 := by rw [← e304]; exact x_up_k (by decide)
          have q331 : h319 75 13 = (1 + (h265 75 13)) := by rw [← e321]; exact x_up_at
          have q332 : h319 75 10 = h311 75 10 := by rw [← e321]; exact x_up_i (by first | decide | omega)
          have q333 : h311 75 10 = h302 75 10 := by rw [← e313]; exact x_up_k (by decide)
          have q334 : h302 75 10 = h265 75 10 := by rw [← e304]; exact x_up_k (by decide)
          have q335 : h265 75 10 = h226 75 10 := jK 0 f267 rg_75_10_0_1 (by first | decide | omega) (by first | decide | omega) (by decide)
          have q336 : h226 75 10 = h207 75 10 := jK 0 f228 rg_75_10_0_1 (by first | decide | omega) (by first | decide | omega) (by decide)
          have q337 : h207 75 10 = h7 75 10 := jK 0 f208 rg_75_10_0_1 (by first | decide | omega) (by first | decide | omega) (by decide)
          have q338 : h7 75 10 = h 75 10 := jK 0 f9 rg_75_10_0_1 (by first | decide | omega) (by first | decide | omega) (by decide)
          obtain ⟨w339, e340⟩ := Tk.yes c232 (by first | decide | omega)
          have q341 : h319 75 7 = h311 75 7 := by rw [← e321]; exact x_up_i (by first | decide | omega)
          have q342 : h311 75 7 = h302 75 7 := by rw [← e313]; exact x_up_k (by decide)
          have q343 : h302 75 7 = h265 75 7 := by rw [← e304]; exact x_up_k (by decide)
          have k349 : Kp h h207 (h 75 13 - 2147483648) := Kp.less m216 (by first | decide | omega)
          have k348 : Kp h h226 (h 75 13 - 2147483648) := Kp.fr k349 f228 (by first | decide | omega) (by decide)
          have q350 : h226 75 13 = h207 75 13 := jK 0 f228 rg_75_13_0_1 (by first | decide | omega) (by first | decide | omega) (by decide)
          have k347 : Kp h h265 (h 75 13 - 2147483648) := Kp.trans k348 c273 (by first | decide | omega)
          have k346 : Kp h h302 (h 75 13 - 2147483648) := by rw [← e304]; exact Kp.up k347 (by first | decide | omega) (fun i hi => by first | decide | omega)
          have k345 : Kp h h311 (h 75 13 - 2147483648) := by rw [← e313]; exact Kp.up k346 (by first | decide | omega) (fun i hi => by first | decide | omega)
          have k344 : Kp h h319 (h 75 13 - 2147483648) := by rw [← e321]; exact Kp.oth k345 (by decide)
          have q351 : h319 75 13 = (1 + (h265 75 13)) := by rw [← e321]; exact x_up_at
          have q353 : h319 76 (1152 + 2 * u299) = h311 76 (1152 + 2 * u299) := by rw [← e321]; exact x_up_k (by decide)
          have q354 : h311 76 (1152 + 2 * u299) = h302 76 (1152 + 2 * u299) := by rw [← e313]; exact x_up_i (by first | decide | omega)
          have q355 : h302 76 (1152 + 2 * u299) = 2147483661 := by rw [← e304]; exact x_up_at
          have k360 : Kp h207 h226 (h207 75 13 - 2147483648) := Kp.fr Kp.refl f228 (by first | decide | omega) (by decide)
          have q361 : h226 75 13 = h207 75 13 := jK 0 f228 rg_75_13_0_1 (by first | decide | omega) (by first | decide | omega) (by decide)
          have k359 : Kp h207 h265 (h207 75 13 - 2147483648) := Kp.trans k360 c273 (by first | decide | omega)
          have k358 : Kp h207 h302 (h207 75 13 - 2147483648) := by rw [← e304]; exact Kp.up k359 (by first | decide | omega) (fun i hi => by first | decide | omega)
          have k357 : Kp h207 h311 (h207 75 13 - 2147483648) := by rw [← e313]; exact Kp.up k358 (by first | decide | omega) (fun i hi => by first | decide | omega)
          have k356 : Kp h207 h319 (h207 75 13 - 2147483648) := by rw [← e321]; exact Kp.oth k357 (by decide)
          have k364 : Kp h265 h302 (h265 75 13 - 2147483648) := by rw [← e304]; exact Kp.up Kp.refl (by first | decide | omega) (fun i hi => by first | decide | omega)
          have k363 : Kp h265 h311 (h265 75 13 - 2147483648) := by rw [← e313]; exact Kp.up k364 (by first | decide | omega) (fun i hi => by first | decide | omega)
          have k362 : Kp h265 h319 (h265 75 13 - 2147483648) := by rw [← e321]; exact Kp.oth k363 (by decide)
          have s352 : Seg (sg h319) (h 75 13 - 2147483648) (u299 + 1) := Seg.bin (Seg.kp m217 k356) (Seg.cast (a' := (h207 75 13 - 2147483648)) (b' := u299) (Seg.kp s295 k362) (by first | decide | omega) (by first | decide | omega)) (show 2147483656 < h319 76 (1152 + 2 * u299) by first | decide | omega) (show h319 76 (1152 + 2 * u299) ≠ 2147483660 by first | decide | omega)
          have s365 : Seg (sg h319) (h 75 13 - 2147483648) (h319 75 13 - 2147483648) := Seg.cast (Seg.kp s352 Kp.refl) (by first | decide | omega) (by first | decide | omega)
          exact i219  h319 (by first | decide | omega) (by first | decide | omega) (by first | decide | omega) (by first | decide | omega) (by first | decide | omega) j320 f323 (gQ_st (t := 1) m215 w339 rfl e340 c275 rfl (by first | decide | omega) (congrArg (sk tB tN) (show h265 75 7 = h319 75 7 by first | decide | omega))) k344 s365
        have q290 : ¬ (v261 ≠ 2147483648) := q290
        refine x_const (np := 27) (x := 9223372039002259456) (a := 2147483648) (by decide +kernel) (by decide) (by decide) ?_
        have q366 : h265 75 10 = h226 75 10 := jK 0 f267 rg_75_10_0_1 (by first | decide | omega) (by first | decide | omega) (by decide)
        have q367 : h226 75 10 = h207 75 10 := jK 0 f228 rg_75_10_0_1 (by first | decide | omega) (by first | decide | omega) (by decide)
        have q368 : h207 75 10 = h7 75 10 := jK 0 f208 rg_75_10_0_1 (by first | decide | omega) (by first | decide | omega) (by decide)
        have q369 : h7 75 10 = h 75 10 := jK 0 f9 rg_75_10_0_1 (by first | decide | omega) (by first | decide | omega) (by decide)
        have k372 : Kp h h207 (h 75 13 - 2147483648) := Kp.less m216 (by first | decide | omega)
        have k371 : Kp h h226 (h 75 13 - 2147483648) := Kp.fr k372 f228 (by first | decide | omega) (by decide)
        have q373 : h226 75 13 = h207 75 13 := jK 0 f228 rg_75_13_0_1 (by first | decide | omega) (by first | decide | omega) (by decide)
        have k370 : Kp h h265 (h 75 13 - 2147483648) := Kp.trans k371 c273 (by first | decide | omega)
        obtain ⟨w374, e375⟩ := Tk.yes c232 (by first | decide | omega)
        refine x_retI (np := 28) (x := 0) (by decide +kernel) (by decide) (Or.inr ⟨by decide +kernel, by first | decide | omega, by first | decide | omega⟩) ⟨_, rfl, (by decide), ?_⟩
        exact ⟨j266, f276, (by first | decide | omega), (fun z => by first | decide | omega), (fun z => by first | decide | omega), (fun z => by first | decide | omega), (fun z => by first | decide | omega), k370, (fun z => absurd z (by first | decide | omega)), (gQ_f (t := 1) m215 w374 rfl e375 c275 rfl (by first | decide | omega) (by first | decide | omega))⟩
    have q376 : h7 75 10 = h 75 10 := jK 0 f9 rg_75_10_0_1 (by first | decide | omega) (by first | decide | omega) (by decide)
    have k377 : Kp h h7 (h 75 13 - 2147483648) := Kp.less c15 (by first | decide | omega)
    have s378 : Seg (sg h7) (h 75 13 - 2147483648) (h7 75 13 - 2147483648) := Seg.cast (Seg.kp s28 Kp.refl) (by first | decide | omega) (by first | decide | omega)
    exact p210 _  h7 (Nat.lt_succ_self _) (by first | decide | omega) (by first | decide | omega) (by first | decide | omega) (by first | decide | omega) j8 (Fr.refl _ _) (gQ_in (t := 1) c17 rfl (by first | decide | omega) rfl) k377 s378
  have q23 : ¬ (v4 ≠ 2147483648) := q23
  refine x_const (np := 8) (x := 9223372039002259456) (a := 2147483648) (by decide +kernel) (by decide) (by decide) ?_
  have q379 : h7 75 10 = h 75 10 := jK 0 f9 rg_75_10_0_1 (by first | decide | omega) (by first | decide | omega) (by decide)
  have k380 : Kp h h7 (h 75 13 - 2147483648) := Kp.less c15 (by first | decide | omega)
  refine x_retI (np := 9) (x := 0) (by decide +kernel) (by decide) (Or.inr ⟨by decide +kernel, by first | decide | omega, by first | decide | omega⟩) ⟨_, rfl, (by decide), ?_⟩
  exact ⟨j8, f18, (by first | decide | omega), (fun z => by first | decide | omega), (fun z => by first | decide | omega), (fun z => by first | decide | omega), (fun z => by first | decide | omega), k380, (fun z => absurd z (by first | decide | omega)), (gQ_no (t := 1) c17 rfl (by first | decide | omega) (by first | decide | omega))⟩
set_option maxHeartbeats 0 in
/-- LentNamesModel.readCond()Z -/
theorem c192_75_D6 {sc : Nat × Nat} {d  : Nat} {h : xh} {tB : Nat → Nat} {tN : Nat} (hJ : J h) (hr0 : (h 75 13) + 5 ≤ (h 75 7)) (hr1 : (h 75 10) = 2147483654) (hT : Tq tB tN h) : X sc 192 (d + 9) (xI fun r h' => J h' ∧ Fr 89128961 h h' ∧ (2147483648 ≤ r ∧ r ≤ 2147483649) ∧ (r = 2147483649 → h' 75 13 + h 75 7 ≤ h' 75 7 + h 75 13) ∧ (r = 2147483649 → h' 75 10 = h 75 10) ∧ (r = 2147483649 → h 75 7 + 0 ≤ h' 75 7) ∧ (r = 2147483649 → h 75 13 ≤ h' 75 13) ∧ Kp h h' (h 75 13 - 2147483648) ∧ (r = 2147483649 → Seg (sg h') (h 75 13 - 2147483648) (h' 75 13 - 2147483648)) ∧ G tB tN (Kd.seq 2) 6 (sk tB tN (h 75 7)) (rs r (sk tB tN (h' 75 7)))) 0 0 0 [x_r 75] [] h := by
  have hF := Fr.refl 89128961 h
  have b1 := jB (e := 13) 0 hJ rg_75_13_0_1 (by first | decide | omega) (by first | decide | omega)
  have b2 := jB (e := 7) 0 hJ rg_75_7_0_1 (by first | decide | omega) (by first | decide | omega)
  have b3 := jB (e := 10) 0 hJ rg_75_10_0_1 (by first | decide | omega) (by first | decide | omega)
  refine x_aload (np := 1) (x := 0) (by decide +kernel) rfl (x_nc_le (by decide)) ?_
  refine x_cI (t := 6) (mj := 191) (n := 1) (rc := 12) (ml := 1) (nr := 0) (np := 4) (as := [x_r 75]) (rest := []) (lo1 := [x_r 75]) (by decide +kernel) (by decide) (by decide +kernel) (x_rb_of (by decide +kernel)) rfl rfl (x_wr (by decide) x_wn) x_wn (by decide) rfl (c191_75_D6 hJ  (by first | decide | omega) (by first | decide | omega) hT) (fun v4 h7 l5 q6 => ?_)
  obtain ⟨j8, f9, b10, c11, c12, c13, c14, c15, c16, c17⟩ := q6
  have f18 := Fr.trans hF f9 (by decide)
  have b19 := jB (e := 13) 0 j8 rg_75_13_0_1 (by first | decide | omega) (by first | decide | omega)
  have b20 := jB (e := 7) 0 j8 rg_75_7_0_1 (by first | decide | omega) (by first | decide | omega)
  have q21 : h7 75 10 = h 75 10 := jK 0 f9 rg_75_10_0_1 (by first | decide | omega) (by first | decide | omega) (by decide)
  refine x_ifz (k := 1) (tg := 9) (np := 7) (by decide +kernel) (by decide) l5 (fun q22 => ?_) (fun q23 => ?_)
  · have q22 : v4 ≠ 2147483648 := q22
    have b24 := c11 (by first | decide | omega)
    have b25 := c12 (by first | decide | omega)
    have b26 := c13 (by first | decide | omega)
    have b27 := c14 (by first | decide | omega)
    have s28 := c16 (by first | decide | omega)
    have p210 : ∀ (n : Nat) (h207 : xh), 4294967296 - h207 75 7 < n → h207 75 13 + h 75 7 ≤ h207 75 7 + h 75 13 → h207 75 10 = h 75 10 → h 75 7 ≤ h207 75 7 → h 75 13 ≤ h207 75 13 → J h207 → Fr 89128961 h7 h207 → Res tB tN (Kd.lp 2) 6 (sk tB tN (h207 75 7)) (Kd.seq 2) 6 (sk tB tN (h 75 7)) → Kp h h207 (h 75 13 - 2147483648) → Seg (sg h207) (h 75 13 - 2147483648) (h207 75 13 - 2147483648) → X sc 192 (d + 9) (xI fun r h' => J h' ∧ Fr 89128961 h h' ∧ (2147483648 ≤ r ∧ r ≤ 2147483649) ∧ (r = 2147483649 → h' 75 13 + h 75 7 ≤ h' 75 7 + h 75 13) ∧ (r = 2147483649 → h' 75 10 = h 75 10) ∧ (r = 2147483649 → h 75 7 + 0 ≤ h' 75 7) ∧ (r = 2147483649 → h 75 13 ≤ h' 75 13) ∧ Kp h h' (h 75 13 - 2147483648) ∧ (r = 2147483649 → Seg (sg h') (h 75 13 - 2147483648) (h' 75 13 - 2147483648)) ∧ G tB tN (Kd.seq 2) 6 (sk tB tN (h 75 7)) (rs r (sk tB tN (h' 75 7)))) 0 0 9 [x_r 75] [] h207 := by
      intro n
      induction n with
      | zero => intro h207 q218; exact absurd q218 (Nat.not_lt_zero _)
      | succ n i219 =>
        intro h207 q218 b211 b212 b213 b214 j209 f208 m215 m216 m217
        have f220 := Fr.trans f18 f208 (by decide)
        refine x_aload (np := 10) (x := 0) (by decide +kernel) rfl (x_nc_le (by decide)) ?_
        refine x_ldcB (i := 15) (idx := 179) (tx := "or") (by rw [tb_y192]; exact List.mem_of_getElem? (i := 54) rfl) (by decide) (by rw [tb_b192]; decide +kernel) ?_
        have m225 := Tq.fr hT f9 (by decide) (by decide)
        have m224 := Tq.fr m225 f208 (by decide) (by decide)
        refine x_cI (t := 6) (mj := 171) (n := 2) (rc := 12) (ml := 2) (nr := 0) (np := 15) (as := [x_r 75, x_b (15 + 1)]) (rest := []) (lo1 := [x_r 75, x_b (15 + 1)]) (by decide +kernel) (by decide) (by decide +kernel) (x_rb_of (by decide +kernel)) rfl rfl (x_wr (by decide) (x_wB (by decide) x_wn)) x_wn (by decide) rfl (c171_75_S0 j209  (by decide) m224) (fun v221 h226 l222 q223 => ?_)
        obtain ⟨j227, f228, b229, c230, c231, c232⟩ := q223
        have f233 := Fr.trans f220 f228 (by decide)
        have f234 := Fr.trans f208 f228 (by decide)
        have b235 := jB (e := 7) 0 j209 rg_75_7_0_1 (by first | decide | omega) (by first | decide | omega)
        have b236 := jB (e := 7) 0 j227 rg_75_7_0_1 (by first | decide | omega) (by first | decide | omega)
        refine x_ifz (k := 0) (tg := 37) (np := 18) (by decide +kernel) (by decide) l222 (fun q237 => ?_) (fun q238 => ?_)
        · have q237 : v221 = 2147483648 := q237
          refine x_const (np := 38) (x := 9223372043297226753) (a := 2147483649) (by decide +kernel) (by decide) (by decide) ?_
          have q239 : h226 75 13 = h207 75 13 := jK 0 f228 rg_75_13_0_1 (by first | decide | omega) (by first | decide | omega) (by decide)
          have b240 := jB (e := 13) 0 j209 rg_75_13_0_1 (by first | decide | omega) (by first | decide | omega)
          have q241 : h226 75 10 = h207 75 10 := jK 0 f228 rg_75_10_0_1 (by first | decide | omega) (by first | decide | omega) (by decide)
          have q242 : h207 75 10 = h7 75 10 := jK 0 f208 rg_75_10_0_1 (by first | decide | omega) (by first | decide | omega) (by decide)
          have q243 : h7 75 10 = h 75 10 := jK 0 f9 rg_75_10_0_1 (by first | decide | omega) (by first | decide | omega) (by decide)
          have q244 : h226 75 13 = h207 75 13 := jK 0 f228 rg_75_13_0_1 (by first | decide | omega) (by first | decide | omega) (by decide)
          have k246 : Kp h h207 (h 75 13 - 2147483648) := Kp.less m216 (by first | decide | omega)
          have k245 : Kp h h226 (h 75 13 - 2147483648) := Kp.fr k246 f228 (by first | decide | omega) (by decide)
          have q247 : h226 75 13 = h207 75 13 := jK 0 f228 rg_75_13_0_1 (by first | decide | omega) (by first | decide | omega) (by decide)
          have k248 : Kp h207 h226 (h207 75 13 - 2147483648) := Kp.fr Kp.refl f228 (by first | decide | omega) (by decide)
          have s249 : Seg (sg h226) (h 75 13 - 2147483648) (h226 75 13 - 2147483648) := Seg.cast (Seg.kp m217 k248) (by first | decide | omega) (by first | decide | omega)
          obtain ⟨w250, e251⟩ := Tk.no c232 (by first | decide | omega)
          refine x_retI (np := 39) (x := 0) (by decide +kernel) (by decide) (Or.inr ⟨by decide +kernel, by first | decide | omega, by first | decide | omega⟩) ⟨_, rfl, (by decide), ?_⟩
          exact ⟨j227, f233, (by first | decide | omega), (fun z => by first | decide | omega), (fun z => by first | decide | omega), (fun z => by first | decide | omega), (fun z => by first | decide | omega), k245, (fun _ => s249), (gQ_e (t := 2) m215 w250 rfl (by first | decide | omega) ((Eq.symm e251)))⟩
        have q238 : ¬ (v221 = 2147483648) := q238
        have b252 := c231 (by first | decide | omega)
        refine x_aload (np := 19) (x := 0) (by decide +kernel) rfl (x_nc_le (by decide)) ?_
        have q253 : h226 75 10 = h207 75 10 := jK 0 f228 rg_75_10_0_1 (by first | decide | omega) (by first | decide | omega) (by decide)
        have q254 : h207 75 10 = h7 75 10 := jK 0 f208 rg_75_10_0_1 (by first | decide | omega) (by first | decide | omega) (by decide)
        have q255 : h7 75 10 = h 75 10 := jK 0 f9 rg_75_10_0_1 (by first | decide | omega) (by first | decide | omega) (by decide)
        have q256 : h226 75 13 = h207 75 13 := jK 0 f228 rg_75_13_0_1 (by first | decide | omega) (by first | decide | omega) (by decide)
        have b257 := jB (e := 13) 0 j209 rg_75_13_0_1 (by first | decide | omega) (by first | decide | omega)
        have q258 : h226 75 10 = h207 75 10 := jK 0 f228 rg_75_10_0_1 (by first | decide | omega) (by first | decide | omega) (by decide)
        have q259 : h207 75 10 = h7 75 10 := jK 0 f208 rg_75_10_0_1 (by first | decide | omega) (by first | decide | omega) (by decide)
        have q260 : h7 75 10 = h 75 10 := jK 0 f9 rg_75_10_0_1 (by first | decide | omega) (by first | decide | omega) (by decide)
        have m264 := Tq.fr m224 f228 (by decide) (by decide)
        refine x_cI (t := 6) (mj := 191) (n := 1) (rc := 12) (ml := 1) (nr := 0) (np := 22) (as := [x_r 75]) (rest := []) (lo1 := [x_r 75]) (by decide +kernel) (by decide) (by decide +kernel) (x_rb_of (by decide +kernel)) rfl rfl (x_wr (by decide) x_wn) x_wn (by decide) rfl (c191_75_D6 j227  (by first | decide | omega) (by first | decide | omega) m264) (fun v261 h265 l262 q263 => ?_)
        obtain ⟨j266, f267, b268, c269, c270, c271, c272, c273, c274, c275⟩ := q263
        have f276 := Fr.trans f233 f267 (by decide)
        have f277 := Fr.trans f234 f267 (by decide)
        have q278 : h226 75 13 = h207 75 13 := jK 0 f228 rg_75_13_0_1 (by first | decide | omega) (by first | decide | omega) (by decide)
        have b279 := jB (e := 13) 0 j266 rg_75_13_0_1 (by first | decide | omega) (by first | decide | omega)
        have b280 := jB (e := 7) 0 j266 rg_75_7_0_1 (by first | decide | omega) (by first | decide | omega)
        have q281 : h226 75 10 = h207 75 10 := jK 0 f228 rg_75_10_0_1 (by first | decide | omega) (by first | decide | omega) (by decide)
        have q282 : h207 75 10 = h7 75 10 := jK 0 f208 rg_75_10_0_1 (by first | decide | omega) (by first | decide | omega) (by decide)
        have q283 : h7 75 10 = h 75 10 := jK 0 f9 rg_75_10_0_1 (by first | decide | omega) (by first | decide | omega) (by decide)
        have q284 : h265 75 10 = h226 75 10 := jK 0 f267 rg_75_10_0_1 (by first | decide | omega) (by first | decide | omega) (by decide)
        have q285 : h226 75 10 = h207 75 10 := jK 0 f228 rg_75_10_0_1 (by first | decide | omega) (by first | decide | omega) (by decide)
        have q286 : h207 75 10 = h7 75 10 := jK 0 f208 rg_75_10_0_1 (by first | decide | omega) (by first | decide | omega) (by decide)
        have q287 : h7 75 10 = h 75 10 := jK 0 f9 rg_75_10_0_1 (by first | decide | omega) (by first | decide | omega) (by decide)
        have q288 : h226 75 13 = h207 75 13 := jK 0 f228 rg_75_13_0_1 (by first | decide | omega) (by first | decide | omega) (by decide)
        refine x_ifz (k := 1) (tg := 27) (np := 25) (by decide +kernel) (by decide) l262 (fun q289 => ?_) (fun q290 => ?_)
        · have q289 : v261 ≠ 2147483648 := q289
          have b291 := c269 (by first | decide | omega)
          have b292 := c270 (by first | decide | omega)
          have b293 := c271 (by first | decide | omega)
          have b294 := c272 (by first | decide | omega)
          have s295 := c274 (by first | decide | omega)
          have q296 : h226 75 13 = h207 75 13 := jK 0 f228 rg_75_13_0_1 (by first | decide | omega) (by first | decide | omega) (by decide)
          refine x_aload (np := 28) (x := 0) (by decide +kernel) rfl (x_nc_le (by decide)) ?_
          refine x_const (np := 30) (x := 9223372099131801614) (a := 2147483662) (by decide +kernel) (by decide) (by decide) ?_
          refine x_const (np := 31) (x := 9223372039002259456) (a := 2147483648) (by decide +kernel) (by decide) (by decide) ?_
          refine x_nV (t := 6) (mj := 187) (n := 3) (rc := 12) (ml := 3) (nr := 0) (np := 34) (as := [x_r 75, iv_c 2147483662, iv_c 2147483648]) (rest := []) (lo1 := [x_r 75, iv_c 2147483662, iv_c 2147483648]) (by decide +kernel) (by decide) (by decide +kernel) (x_rb_of (by decide +kernel)) rfl rfl (x_wr (by decide) (x_wi (by decide) (x_wi (by decide) x_wn))) x_wn (by decide) rfl ?_
          refine x_aload (np := 1) (x := 0) (by decide +kernel) rfl (x_nc_le (by decide)) ?_
          have q297 : h265 75 1 = 76 := by have z := jB (e := 1) 0 j266 rg_75_1_0_1 (by decide) (by decide); omega
          refine x_getR (np := 4) (x := 705) (f := 1) (q := 76) (by decide +kernel) (by decide) (by decide +kernel) q297 ?_
          refine x_const (np := 7) (x := 9223376986804585600) (a := 2147484800) (by decide +kernel) (by decide) (by decide) ?_
          refine x_const (np := 8) (x := 9223372047592194050) (a := 2147483650) (by decide +kernel) (by decide) (by decide) ?_
          refine x_aload (np := 9) (x := 0) (by decide +kernel) rfl (x_nc_le (by decide)) ?_
          refine x_getC (np := 12) (x := 717) (f := 13) (q := (h265 75 13)) (by decide +kernel) (by decide) (by decide +kernel) rfl (fun l298 => ?_)
          obtain ⟨u299, q300⟩ : ∃ z, (h265 75 13) = 2147483648 + z := ⟨(h265 75 13) - 2147483648, by first | decide | omega⟩
          refine x_imul (np := 13) (x := 0) (i := 2) (j := u299) (v := (2147483648 + 2 * u299)) (by decide +kernel) (by first | decide | omega) (by first | decide | omega) (by first | decide | omega) (by first | decide | omega) (by decide) l298 ?_
          refine x_iadd (np := 14) (x := 0) (v := (2147484800 + 2 * u299)) (by decide +kernel) (by decide) (by first | decide | omega) (by first | decide | omega) (by first | decide | omega) ?_
          refine x_iload (np := 15) (x := 1) (by decide +kernel) rfl (by decide) ?_
          refine x_ast (np := 16) (x := 0) (kd := 1) (n := 1952) (i := (1152 + 2 * u299)) (by decide +kernel) (Or.inl rfl) (by decide +kernel) (by first | decide | omega) (by first | decide | omega) (by decide) (by decide) (fun z => absurd z (by decide)) ?_
          have j303 := jU (e := (1152 + 2 * u299)) (v := 2147483662) u299 j266 rg_76_1152_2_394 (by first | decide | omega) (by first | decide | omega) (by first | decide | omega)
          have f305 := jF (e := (1152 + 2 * u299)) (v := 2147483662) u299 f276 rg_76_1152_2_394 (by first | decide | omega) (by first | decide | omega) (by decide)
          have f306 := jF (e := (1152 + 2 * u299)) (v := 2147483662) u299 f277 rg_76_1152_2_394 (by first | decide | omega) (by first | decide | omega) (by decide)
          generalize e304 : x_up h265 76 (1152 + 2 * u299) 2147483662 = h302 at j303 f305 f306 ⊢
          refine x_aload (np := 17) (x := 0) (by decide +kernel) rfl (x_nc_le (by decide)) ?_
          have q307 : h302 75 1 = 76 := by have z := jB (e := 1) 0 j303 rg_75_1_0_1 (by decide) (by decide); omega
          refine x_getR (np := 20) (x := 705) (f := 1) (q := 76) (by decide +kernel) (by decide) (by decide +kernel) q307 ?_
          refine x_const (np := 23) (x := 9223376986804585600) (a := 2147484800) (by decide +kernel) (by decide) (by decide) ?_
          refine x_const (np := 24) (x := 9223372047592194050) (a := 2147483650) (by decide +kernel) (by decide) (by decide) ?_
          refine x_aload (np := 25) (x := 0) (by decide +kernel) rfl (x_nc_le (by decide)) ?_
          have q308 : h302 75 13 = h265 75 13 := by rw [← e304]; exact x_up_k (by decide)
          refine x_getC (np := 28) (x := 717) (f := 13) (q := (h265 75 13)) (by decide +kernel) (by decide) (by decide +kernel) q308 (fun l309 => ?_)
          refine x_imul (np := 29) (x := 0) (i := 2) (j := u299) (v := (2147483648 + 2 * u299)) (by decide +kernel) (by first | decide | omega) (by first | decide | omega) (by first | decide | omega) (by first | decide | omega) (by decide) l298 ?_
          refine x_iadd (np := 30) (x := 0) (v := (2147484800 + 2 * u299)) (by decide +kernel) (by decide) (by first | decide | omega) (by first | decide | omega) (by first | decide | omega) ?_
          refine x_const (np := 31) (x := 9223372043297226753) (a := 2147483649) (by decide +kernel) (by decide) (by decide) ?_
          refine x_iadd (np := 32) (x := 0) (v := (2147484801 + 2 * u299)) (by decide +kernel) (by first | decide | omega) (by decide) (by first | decide | omega) (by first | decide | omega) ?_
          refine x_iload (np := 33) (x := 2) (by decide +kernel) rfl (by decide) ?_
          refine x_ast (np := 34) (x := 0) (kd := 1) (n := 1952) (i := (1153 + 2 * u299)) (by decide +kernel) (Or.inl rfl) (by decide +kernel) (by first | decide | omega) (by first | decide | omega) (by decide) (by decide) (fun z => absurd z (by decide)) ?_
          have j312 := jU (e := (1153 + 2 * u299)) (v := 2147483648) u299 j303 rg_76_1153_2_394 (by first | decide | omega) (by first | decide | omega) (by first | decide | omega)
          have f314 := jF (e := (1153 + 2 * u299)) (v := 2147483648) u299 f305 rg_76_1153_2_394 (by first | decide | omega) (by first | decide | omega) (by decide)
          have f315 := jF (e := (1153 + 2 * u299)) (v := 2147483648) u299 f306 rg_76_1153_2_394 (by first | decide | omega) (by first | decide | omega) (by decide)
          generalize e313 : x_up h302 76 (1153 + 2 * u299) 2147483648 = h311 at j312 f314 f315 ⊢
          refine x_aload (np := 35) (x := 0) (by decide +kernel) rfl (x_nc_le (by decide)) ?_
          refine x_dup (np := 36) (x := 0) (by decide +kernel) (by have z := x_nc_le (k := 75) (by decide); unfold x_r; omega) ?_
          have q316 : h311 75 13 = h302 75 13 := by rw [← e313]; exact x_up_k (by decide)
          have q317 : h302 75 13 = h265 75 13 := by rw [← e304]; exact x_up_k (by decide)
          refine x_getC (np := 39) (x := 717) (f := 13) (q := (h265 75 13)) (by decide +kernel) (by decide) (by decide +kernel) (q316.trans q317) (fun l318 => ?_)
          refine x_const (np := 40) (x := 9223372043297226753) (a := 2147483649) (by decide +kernel) (by decide) (by decide) ?_
          refine x_iadd (np := 41) (x := 0) (v := (1 + (h265 75 13))) (by decide +kernel) l298 (by decide) (by first | decide | omega) (by first | decide | omega) ?_
          refine x_putI (np := 44) (x := 717) (f := 13) (by decide +kernel) (by decide +kernel) (by first | decide | omega) (Or.inl (by decide)) ?_
          have j320 := jU (e := 13) (v := (1 + (h265 75 13))) 0 j312 rg_75_13_0_1 (by first | decide | omega) (by first | decide | omega) (by first | decide | omega)
          have f322 := jF (e := 13) (v := (1 + (h265 75 13))) 0 f314 rg_75_13_0_1 (by first | decide | omega) (by first | decide | omega) (by decide)
          have f323 := jF (e := 13) (v := (1 + (h265 75 13))) 0 f315 rg_75_13_0_1 (by first | decide | omega) (by first | decide | omega) (by decide)
          generalize e321 : x_up h311 75 13 (1 + (h265 75 13)) = h319 at j320 f322 f323 ⊢
          refine x_retV (np := 45) (x := 0) (by decide +kernel) (by decide +kernel) ⟨rfl, ?_⟩
          have q324 : h319 75 13 = (1 + (h265 75 13)) := by rw [← e321]; exact x_up_at
          refine x_goto (np := 37) (x := 9) (by decide +kernel) ?_
          have q325 : h319 75 7 = h311 75 7 := by rw [← e321]; exact x_up_i (by first | decide | omega)
          have q326 : h311 75 7 = h302 75 7 := by rw [← e313]; exact x_up_k (by decide)
          have q327 : h302 75 7 = h265 75 7 := by rw [← e304]; exact x_up_k (by decide)
          have q328 : h319 75 7 = h311 75 7 := by rw [← e321]; exact x_up_i (by first | decide | omega)
          have q329 : h311 75 7 = h302 75 7 := by rw [← e313]; exact x_up_k (by decide)
          have q330 : h302 75 7 = h265 75 7 := by rw [← e304]; exact x_up_k (by decide)
          have q331 : h319 75 13 = (1 + (h265 75 13)) := by rw [← e321]; exact x_up_at
          have q332 : h319 75 10 = h311 75 10 := by rw [← e321]; exact x_up_i (by first | decide | omega)
          have q333 : h311 75 10 = h302 75 10 := by rw [← e313]; exact x_up_k (by decide)
          have q334 : h302 75 10 = h265 75 10 := by rw [← e304]; exact x_up_k (by decide)
          have q335 : h265 75 10 = h226 75 10 := jK 0 f267 rg_75_10_0_1 (by first | decide | omega) (by first | decide | omega) (by decide)
          have q336 : h226 75 10 = h207 75 10 := jK 0 f228 rg_75_10_0_1 (by first | decide | omega) (by first | decide | omega) (by decide)
          have q337 : h207 75 10 = h7 75 10 := jK 0 f208 rg_75_10_0_1 (by first | decide | omega) (by first | decide | omega) (by decide)
          have q338 : h7 75 10 = h 75 10 := jK 0 f9 rg_75_10_0_1 (by first | decide | omega) (by first | decide | omega) (by decide)
          obtain ⟨w339, e340⟩ := Tk.yes c232 (by first | decide | omega)
          have q341 : h319 75 7 = h311 75 7 := by rw [← e321]; exact x_up_i (by first | decide | omega)
          have q342 : h311 75 7 = h302 75 7 := by rw [← e313]; exact x_up_k (by decide)
          have q343 : h302 75 7 = h265 75 7 := by rw [← e304]; exact x_up_k (by decide)
          have k349 : Kp h h207 (h 75 13 - 2147483648) := Kp.less m216 (by first | decide | omega)
          have k348 : Kp h h226 (h 75 13 - 2147483648) := Kp.fr k349 f228 (by first | decide | omega) (by decide)
          have q350 : h226 75 13 = h207 75 13 := jK 0 f228 rg_75_13_0_1 (by first | decide | omega) (by first | decide | omega) (by decide)
          have k347 : Kp h h265 (h 75 13 - 2147483648) := Kp.trans k348 c273 (by first | decide | omega)
          have k346 : Kp h h302 (h 75 13 - 2147483648) := by rw [← e304]; exact Kp.up k347 (by first | decide | omega) (fun i hi => by first | decide | omega)
          have k345 : Kp h h311 (h 75 13 - 2147483648) := by rw [← e313]; exact Kp.up k346 (by first | decide | omega) (fun i hi => by first | decide | omega)
          have k344 : Kp h h319 (h 75 13 - 2147483648) := by rw [← e321]; exact Kp.oth k345 (by decide)
          have q351 : h319 75 13 = (1 + (h265 75 13)) := by rw [← e321]; exact x_up_at
          have q353 : h319 76 (1152 + 2 * u299) = h311 76 (1152 + 2 * u299) := by rw [← e321]; exact x_up_k (by decide)
          have q354 : h311 76 (1152 + 2 * u299) = h302 76 (1152 + 2 * u299) := by rw [← e313]; exact x_up_i (by first | decide | omega)
          have q355 : h302 76 (1152 + 2 * u299) = 2147483662 := by rw [← e304]; exact x_up_at
          have k360 : Kp h207 h226 (h207 75 13 - 2147483648) := Kp.fr Kp.refl f228 (by first | decide | omega) (by decide)
          have q361 : h226 75 13 = h207 75 13 := jK 0 f228 rg_75_13_0_1 (by first | decide | omega) (by first | decide | omega) (by decide)
          have k359 : Kp h207 h265 (h207 75 13 - 2147483648) := Kp.trans k360 c273 (by first | decide | omega)
          have k358 : Kp h207 h302 (h207 75 13 - 2147483648) := by rw [← e304]; exact Kp.up k359 (by first | decide | omega) (fun i hi => by first | decide | omega)
          have k357 : Kp h207 h311 (h207 75 13 - 2147483648) := by rw [← e313]; exact Kp.up k358 (by first | decide | omega) (fun i hi => by first | decide | omega)
          have k356 : Kp h207 h319 (h207 75 13 - 2147483648) := by rw [← e321]; exact Kp.oth k357 (by decide)
          have k364 : Kp h265 h302 (h265 75 13 - 2147483648) := by rw [← e304]; exact Kp.up Kp.refl (by first | decide | omega) (fun i hi => by first | decide | omega)
          have k363 : Kp h265 h311 (h265 75 13 - 2147483648) := by rw [← e313]; exact Kp.up k364 (by first | decide | omega) (fun i hi => by first | decide | omega)
          have k362 : Kp h265 h319 (h265 75 13 - 2147483648) := by rw [← e321]; exact Kp.oth k363 (by decide)
          have s352 : Seg (sg h319) (h 75 13 - 2147483648) (u299 + 1) := Seg.bin (Seg.kp m217 k356) (Seg.cast (a' := (h207 75 13 - 2147483648)) (b' := u299) (Seg.kp s295 k362) (by first | decide | omega) (by first | decide | omega)) (show 2147483656 < h319 76 (1152 + 2 * u299) by first | decide | omega) (show h319 76 (1152 + 2 * u299) ≠ 2147483660 by first | decide | omega)
          have s365 : Seg (sg h319) (h 75 13 - 2147483648) (h319 75 13 - 2147483648) := Seg.cast (Seg.kp s352 Kp.refl) (by first | decide | omega) (by first | decide | omega)
          exact i219  h319 (by first | decide | omega) (by first | decide | omega) (by first | decide | omega) (by first | decide | omega) (by first | decide | omega) j320 f323 (gQ_st (t := 2) m215 w339 rfl e340 c275 rfl (by first | decide | omega) (congrArg (sk tB tN) (show h265 75 7 = h319 75 7 by first | decide | omega))) k344 s365
        have q290 : ¬ (v261 ≠ 2147483648) := q290
        refine x_const (np := 26) (x := 9223372039002259456) (a := 2147483648) (by decide +kernel) (by decide) (by decide) ?_
        have q366 : h265 75 10 = h226 75 10 := jK 0 f267 rg_75_10_0_1 (by first | decide | omega) (by first | decide | omega) (by decide)
        have q367 : h226 75 10 = h207 75 10 := jK 0 f228 rg_75_10_0_1 (by first | decide | omega) (by first | decide | omega) (by decide)
        have q368 : h207 75 10 = h7 75 10 := jK 0 f208 rg_75_10_0_1 (by first | decide | omega) (by first | decide | omega) (by decide)
        have q369 : h7 75 10 = h 75 10 := jK 0 f9 rg_75_10_0_1 (by first | decide | omega) (by first | decide | omega) (by decide)
        have k372 : Kp h h207 (h 75 13 - 2147483648) := Kp.less m216 (by first | decide | omega)
        have k371 : Kp h h226 (h 75 13 - 2147483648) := Kp.fr k372 f228 (by first | decide | omega) (by decide)
        have q373 : h226 75 13 = h207 75 13 := jK 0 f228 rg_75_13_0_1 (by first | decide | omega) (by first | decide | omega) (by decide)
        have k370 : Kp h h265 (h 75 13 - 2147483648) := Kp.trans k371 c273 (by first | decide | omega)
        obtain ⟨w374, e375⟩ := Tk.yes c232 (by first | decide | omega)
        refine x_retI (np := 27) (x := 0) (by decide +kernel) (by decide) (Or.inr ⟨by decide +kernel, by first | decide | omega, by first | decide | omega⟩) ⟨_, rfl, (by decide), ?_⟩
        exact ⟨j266, f276, (by first | decide | omega), (fun z => by first | decide | omega), (fun z => by first | decide | omega), (fun z => by first | decide | omega), (fun z => by first | decide | omega), k370, (fun z => absurd z (by first | decide | omega)), (gQ_f (t := 2) m215 w374 rfl e375 c275 rfl (by first | decide | omega) (by first | decide | omega))⟩
    have q376 : h7 75 10 = h 75 10 := jK 0 f9 rg_75_10_0_1 (by first | decide | omega) (by first | decide | omega) (by decide)
    have k377 : Kp h h7 (h 75 13 - 2147483648) := Kp.less c15 (by first | decide | omega)
    have s378 : Seg (sg h7) (h 75 13 - 2147483648) (h7 75 13 - 2147483648) := Seg.cast (Seg.kp s28 Kp.refl) (by first | decide | omega) (by first | decide | omega)
    exact p210 _  h7 (Nat.lt_succ_self _) (by first | decide | omega) (by first | decide | omega) (by first | decide | omega) (by first | decide | omega) j8 (Fr.refl _ _) (gQ_in (t := 2) c17 rfl (by first | decide | omega) rfl) k377 s378
  have q23 : ¬ (v4 ≠ 2147483648) := q23
  refine x_const (np := 8) (x := 9223372039002259456) (a := 2147483648) (by decide +kernel) (by decide) (by decide) ?_
  have q379 : h7 75 10 = h 75 10 := jK 0 f9 rg_75_10_0_1 (by first | decide | omega) (by first | decide | omega) (by decide)
  have k380 : Kp h h7 (h 75 13 - 2147483648) := Kp.less c15 (by first | decide | omega)
  refine x_retI (np := 9) (x := 0) (by decide +kernel) (by decide) (Or.inr ⟨by decide +kernel, by first | decide | omega, by first | decide | omega⟩) ⟨_, rfl, (by decide), ?_⟩
  exact ⟨j8, f18, (by first | decide | omega), (fun z => by first | decide | omega), (fun z => by first | decide | omega), (fun z => by first | decide | omega), (fun z => by first | decide | omega), k380, (fun z => absurd z (by first | decide | omega)), (gQ_no (t := 2) c17 rfl (by first | decide | omega) (by first | decide | omega))⟩
set_option maxHeartbeats 0 in
/-- LentNamesModel.readAtom()Z -/
theorem c190_75_D5 {sc : Nat × Nat} {d  : Nat} {h : xh} {tB : Nat → Nat} {tN : Nat} (hJ : J h) (hr0 : (h 75 13) + 5 ≤ (h 75 7)) (hr1 : (h 75 10) = 2147483653) (hT : Tq tB tN h) : X sc 190 (d + 10) (xI fun r h' => J h' ∧ Fr 97517569 h h' ∧ (2147483648 ≤ r ∧ r ≤ 2147483649) ∧ (r = 2147483649 → h' 75 13 + h 75 7 ≤ h' 75 7 + h 75 13) ∧ (r = 2147483649 → h' 75 10 = h 75 10) ∧ (r = 2147483649 → h 75 7 + 0 ≤ h' 75 7) ∧ (r = 2147483649 → h 75 13 ≤ h' 75 13) ∧ Kp h h' (h 75 13 - 2147483648) ∧ (r = 2147483649 → Seg (sg h') (h 75 13 - 2147483648) (h' 75 13 - 2147483648)) ∧ G tB tN Kd.atom 5 (sk tB tN (h 75 7)) (rs r (sk tB tN (h' 75 7)))) 0 0 0 [x_r 75, 147573952589676412928, 147573952589676412928] [] h := by
  have hF := Fr.refl 97517569 h
  have b1 := jB (e := 13) 0 hJ rg_75_13_0_1 (by first | decide | omega) (by first | decide | omega)
  have b2 := jB (e := 7) 0 hJ rg_75_7_0_1 (by first | decide | omega) (by first | decide | omega)
  have b3 := jB (e := 10) 0 hJ rg_75_10_0_1 (by first | decide | omega) (by first | decide | omega)
  refine x_aload (np := 1) (x := 0) (by decide +kernel) rfl (x_nc_le (by decide)) ?_
  refine x_const (np := 3) (x := 9223372210800951336) (a := 2147483688) (by decide +kernel) (by decide) (by decide) ?_
  refine x_cI (t := 6) (mj := 173) (n := 2) (rc := 12) (ml := 2) (nr := 0) (np := 6) (as := [x_r 75, iv_c 2147483688]) (rest := []) (lo1 := [x_r 75, iv_c 2147483688]) (by decide +kernel) (by decide) (by decide +kernel) (x_rb_of (by decide +kernel)) rfl rfl (x_wr (by decide) (x_wi (by decide) x_wn)) x_wn (by decide) rfl (c173_75 hJ  (by first | decide | omega) hT) (fun v4 h7 l5 q6 => ?_)
  obtain ⟨j8, f9, b10, c11, c12, c13⟩ := q6
  have f14 := Fr.trans hF f9 (by decide)
  have b15 := jB (e := 7) 0 j8 rg_75_7_0_1 (by first | decide | omega) (by first | decide | omega)
  refine x_ifz (k := 0) (tg := 56) (np := 9) (by decide +kernel) (by decide) l5 (fun q16 => ?_) (fun q17 => ?_)
  · have q16 : v4 = 2147483648 := q16
    refine x_aload (np := 57) (x := 0) (by decide +kernel) rfl (x_nc_le (by decide)) ?_
    refine x_ldcB (i := 24) (idx := 245) (tx := "not") (by rw [tb_y190]; exact List.mem_of_getElem? (i := 59) rfl) (by decide) (by rw [tb_b190]; decide +kernel) ?_
    have m21 := Tq.fr hT f9 (by decide) (by decide)
    refine x_cI (t := 6) (mj := 171) (n := 2) (rc := 12) (ml := 2) (nr := 0) (np := 62) (as := [x_r 75, x_b (24 + 1)]) (rest := []) (lo1 := [x_r 75, x_b (24 + 1)]) (by decide +kernel) (by decide) (by decide +kernel) (x_rb_of (by decide +kernel)) rfl rfl (x_wr (by decide) (x_wB (by decide) x_wn)) x_wn (by decide) rfl (c171_75_S0 j8  (by decide) m21) (fun v18 h22 l19 q20 => ?_)
    obtain ⟨j23, f24, b25, c26, c27, c28⟩ := q20
    have f29 := Fr.trans f14 f24 (by decide)
    have b30 := jB (e := 7) 0 j23 rg_75_7_0_1 (by first | decide | omega) (by first | decide | omega)
    refine x_ifz (k := 0) (tg := 114) (np := 65) (by decide +kernel) (by decide) l19 (fun q31 => ?_) (fun q32 => ?_)
    · have q31 : v18 = 2147483648 := q31
      refine x_aload (np := 115) (x := 0) (by decide +kernel) rfl (x_nc_le (by decide)) ?_
      refine x_ldcB (i := 25) (idx := 250) (tx := "own") (by rw [tb_y190]; exact List.mem_of_getElem? (i := 60) rfl) (by decide) (by rw [tb_b190]; decide +kernel) ?_
      have m36 := Tq.fr m21 f24 (by decide) (by decide)
      refine x_cI (t := 6) (mj := 171) (n := 2) (rc := 12) (ml := 2) (nr := 0) (np := 120) (as := [x_r 75, x_b (25 + 1)]) (rest := []) (lo1 := [x_r 75, x_b (25 + 1)]) (by decide +kernel) (by decide) (by decide +kernel) (x_rb_of (by decide +kernel)) rfl rfl (x_wr (by decide) (x_wB (by decide) x_wn)) x_wn (by decide) rfl (c171_75_S0 j23  (by decide) m36) (fun v33 h37 l34 q35 => ?_)
      obtain ⟨j38, f39, b40, c41, c42, c43⟩ := q35
      have f44 := Fr.trans f29 f39 (by decide)
      have b45 := jB (e := 7) 0 j38 rg_75_7_0_1 (by first | decide | omega) (by first | decide | omega)
      refine x_istore (np := 121) (x := 1) (lo' := [x_r 75, iv_c v33, 147573952589676412928]) (by decide +kernel) l34 (Nat.le_of_ble_eq_true rfl) rfl ?_
      refine x_iload (np := 122) (x := 1) (by decide +kernel) rfl l34 ?_
      refine x_ifz (k := 1) (tg := 134) (np := 125) (by decide +kernel) (by decide) l34 (fun q46 => ?_) (fun q47 => ?_)
      · have q46 : v33 ≠ 2147483648 := q46
        have b48 := c42 (by first | decide | omega)
        refine x_aload (np := 135) (x := 0) (by decide +kernel) rfl (x_nc_le (by decide)) ?_
        refine x_iload (np := 136) (x := 1) (by decide +kernel) rfl l34 ?_
        refine x_ifz (k := 0) (tg := 144) (np := 139) (by decide +kernel) (by decide) l34 (fun q49 => ?_) (fun q50 => ?_)
        · have q49 : v33 = 2147483648 := q49
          exfalso; omega
        have q50 : ¬ (v33 = 2147483648) := q50
        refine x_const (np := 141) (x := 9223372064772063238) (a := 2147483654) (by decide +kernel) (by decide) (by decide) ?_
        refine x_goto (np := 144) (x := 146) (by decide +kernel) ?_
        refine x_const (np := 147) (x := 9223372039002259456) (a := 2147483648) (by decide +kernel) (by decide) (by decide) ?_
        refine x_nV (t := 6) (mj := 187) (n := 3) (rc := 12) (ml := 3) (nr := 0) (np := 150) (as := [x_r 75, iv_c 2147483654, iv_c 2147483648]) (rest := []) (lo1 := [x_r 75, iv_c 2147483654, iv_c 2147483648]) (by decide +kernel) (by decide) (by decide +kernel) (x_rb_of (by decide +kernel)) rfl rfl (x_wr (by decide) (x_wi (by decide) (x_wi (by decide) x_wn))) x_wn (by decide) rfl ?_
        refine x_aload (np := 1) (x := 0) (by decide +kernel) rfl (x_nc_le (by decide)) ?_
        have q51 : h37 75 1 = 76 := by have z := jB (e := 1) 0 j38 rg_75_1_0_1 (by decide) (by decide); omega
        refine x_getR (np := 4) (x := 705) (f := 1) (q := 76) (by decide +kernel) (by decide) (by decide +kernel) q51 ?_
        refine x_const (np := 7) (x := 9223376986804585600) (a := 2147484800) (by decide +kernel) (by decide) (by decide) ?_
        refine x_const (np := 8) (x := 9223372047592194050) (a := 2147483650) (by decide +kernel) (by decide) (by decide) ?_
        refine x_aload (np := 9) (x := 0) (by decide +kernel) rfl (x_nc_le (by decide)) ?_
        have q52 : h37 75 13 = h22 75 13 := jK 0 f39 rg_75_13_0_1 (by first | decide | omega) (by first | decide | omega) (by decide)
        have q53 : h22 75 13 = h7 75 13 := jK 0 f24 rg_75_13_0_1 (by first | decide | omega) (by first | decide | omega) (by decide)
        have q54 : h7 75 13 = h 75 13 := jK 0 f9 rg_75_13_0_1 (by first | decide | omega) (by first | decide | omega) (by decide)
        refine x_getC (np := 12) (x := 717) (f := 13) (q := (h 75 13)) (by decide +kernel) (by decide) (by decide +kernel) ((q52.trans q53).trans q54) (fun l55 => ?_)
        obtain ⟨u56, q57⟩ : ∃ z, (h 75 13) = 2147483648 + z := ⟨(h 75 13) - 2147483648, by first | decide | omega⟩
        refine x_imul (np := 13) (x := 0) (i := 2) (j := u56) (v := (2147483648 + 2 * u56)) (by decide +kernel) (by first | decide | omega) (by first | decide | omega) (by first | decide | omega) (by first | decide | omega) (by decide) l55 ?_
        refine x_iadd (np := 14) (x := 0) (v := (2147484800 + 2 * u56)) (by decide +kernel) (by decide) (by first | decide | omega) (by first | decide | omega) (by first | decide | omega) ?_
        refine x_iload (np := 15) (x := 1) (by decide +kernel) rfl (by decide) ?_
        refine x_ast (np := 16) (x := 0) (kd := 1) (n := 1952) (i := (1152 + 2 * u56)) (by decide +kernel) (Or.inl rfl) (by decide +kernel) (by first | decide | omega) (by first | decide | omega) (by decide) (by decide) (fun z => absurd z (by decide)) ?_
        have j60 := jU (e := (1152 + 2 * u56)) (v := 2147483654) u56 j38 rg_76_1152_2_394 (by first | decide | omega) (by first | decide | omega) (by first | decide | omega)
        have f62 := jF (e := (1152 + 2 * u56)) (v := 2147483654) u56 f44 rg_76_1152_2_394 (by first | decide | omega) (by first | decide | omega) (by decide)
        generalize e61 : x_up h37 76 (1152 + 2 * u56) 2147483654 = h59 at j60 f62 ⊢
        refine x_aload (np := 17) (x := 0) (by decide +kernel) rfl (x_nc_le (by decide)) ?_
        have q63 : h59 75 1 = 76 := by have z := jB (e := 1) 0 j60 rg_75_1_0_1 (by decide) (by decide); omega
        refine x_getR (np := 20) (x := 705) (f := 1) (q := 76) (by decide +kernel) (by decide) (by decide +kernel) q63 ?_
        refine x_const (np := 23) (x := 9223376986804585600) (a := 2147484800) (by decide +kernel) (by decide) (by decide) ?_
        refine x_const (np := 24) (x := 9223372047592194050) (a := 2147483650) (by decide +kernel) (by decide) (by decide) ?_
        refine x_aload (np := 25) (x := 0) (by decide +kernel) rfl (x_nc_le (by decide)) ?_
        have q64 : h59 75 13 = h37 75 13 := by rw [← e61]; exact x_up_k (by decide)
        have q65 : h37 75 13 = h22 75 13 := jK 0 f39 rg_75_13_0_1 (by first | decide | omega) (by first | decide | omega) (by decide)
        have q66 : h22 75 13 = h7 75 13 := jK 0 f24 rg_75_13_0_1 (by first | decide | omega) (by first | decide | omega) (by decide)
        have q67 : h7 75 13 = h 75 13 := jK 0 f9 rg_75_13_0_1 (by first | decide | omega) (by first | decide | omega) (by decide)
        refine x_getC (np := 28) (x := 717) (f := 13) (q := (h 75 13)) (by decide +kernel) (by decide) (by decide +kernel) (((q64.trans q65).trans q66).trans q67) (fun l68 => ?_)
        refine x_imul (np := 29) (x := 0) (i := 2) (j := u56) (v := (2147483648 + 2 * u56)) (by decide +kernel) (by first | decide | omega) (by first | decide | omega) (by first | decide | omega) (by first | decide | omega) (by decide) l55 ?_
        refine x_iadd (np := 30) (x := 0) (v := (2147484800 + 2 * u56)) (by decide +kernel) (by decide) (by first | decide | omega) (by first | decide | omega) (by first | decide | omega) ?_
        refine x_const (np := 31) (x := 9223372043297226753) (a := 2147483649) (by decide +kernel) (by decide) (by decide) ?_
        refine x_iadd (np := 32) (x := 0) (v := (2147484801 + 2 * u56)) (by decide +kernel) (by first | decide | omega) (by decide) (by first | decide | omega) (by first | decide | omega) ?_
        refine x_iload (np := 33) (x := 2) (by decide +kernel) rfl (by decide) ?_
        refine x_ast (np := 34) (x := 0) (kd := 1) (n := 1952) (i := (1153 + 2 * u56)) (by decide +kernel) (Or.inl rfl) (by decide +kernel) (by first | decide | omega) (by first | decide | omega) (by decide) (by decide) (fun z => absurd z (by decide)) ?_
        have j71 := jU (e := (1153 + 2 * u56)) (v := 2147483648) u56 j60 rg_76_1153_2_394 (by first | decide | omega) (by first | decide | omega) (by first | decide | omega)
        have f73 := jF (e := (1153 + 2 * u56)) (v := 2147483648) u56 f62 rg_76_1153_2_394 (by first | decide | omega) (by first | decide | omega) (by decide)
        generalize e72 : x_up h59 76 (1153 + 2 * u56) 2147483648 = h70 at j71 f73 ⊢
        refine x_aload (np := 35) (x := 0) (by decide +kernel) rfl (x_nc_le (by decide)) ?_
        refine x_dup (np := 36) (x := 0) (by decide +kernel) (by have z := x_nc_le (k := 75) (by decide); unfold x_r; omega) ?_
        have q74 : h70 75 13 = h59 75 13 := by rw [← e72]; exact x_up_k (by decide)
        have q75 : h59 75 13 = h37 75 13 := by rw [← e61]; exact x_up_k (by decide)
        have q76 : h37 75 13 = h22 75 13 := jK 0 f39 rg_75_13_0_1 (by first | decide | omega) (by first | decide | omega) (by decide)
        have q77 : h22 75 13 = h7 75 13 := jK 0 f24 rg_75_13_0_1 (by first | decide | omega) (by first | decide | omega) (by decide)
        have q78 : h7 75 13 = h 75 13 := jK 0 f9 rg_75_13_0_1 (by first | decide | omega) (by first | decide | omega) (by decide)
        refine x_getC (np := 39) (x := 717) (f := 13) (q := (h 75 13)) (by decide +kernel) (by decide) (by decide +kernel) ((((q74.trans q75).trans q76).trans q77).trans q78) (fun l79 => ?_)
        refine x_const (np := 40) (x := 9223372043297226753) (a := 2147483649) (by decide +kernel) (by decide) (by decide) ?_
        refine x_iadd (np := 41) (x := 0) (v := (1 + (h 75 13))) (by decide +kernel) l55 (by decide) (by first | decide | omega) (by first | decide | omega) ?_
        refine x_putI (np := 44) (x := 717) (f := 13) (by decide +kernel) (by decide +kernel) (by first | decide | omega) (Or.inl (by decide)) ?_
        have j81 := jU (e := 13) (v := (1 + (h 75 13))) 0 j71 rg_75_13_0_1 (by first | decide | omega) (by first | decide | omega) (by first | decide | omega)
        have f83 := jF (e := 13) (v := (1 + (h 75 13))) 0 f73 rg_75_13_0_1 (by first | decide | omega) (by first | decide | omega) (by decide)
        generalize e82 : x_up h70 75 13 (1 + (h 75 13)) = h80 at j81 f83 ⊢
        refine x_retV (np := 45) (x := 0) (by decide +kernel) (by decide +kernel) ⟨rfl, ?_⟩
        have q84 : h80 75 13 = (1 + (h 75 13)) := by rw [← e82]; exact x_up_at
        refine x_const (np := 151) (x := 9223372043297226753) (a := 2147483649) (by decide +kernel) (by decide) (by decide) ?_
        have q85 : h80 75 13 = (1 + (h 75 13)) := by rw [← e82]; exact x_up_at
        have q86 : h80 75 7 = h70 75 7 := by rw [← e82]; exact x_up_i (by first | decide | omega)
        have q87 : h70 75 7 = h59 75 7 := by rw [← e72]; exact x_up_k (by decide)
        have q88 : h59 75 7 = h37 75 7 := by rw [← e61]; exact x_up_k (by decide)
        have q89 : h80 75 10 = h70 75 10 := by rw [← e82]; exact x_up_i (by first | decide | omega)
        have q90 : h70 75 10 = h59 75 10 := by rw [← e72]; exact x_up_k (by decide)
        have q91 : h59 75 10 = h37 75 10 := by rw [← e61]; exact x_up_k (by decide)
        have q92 : h37 75 10 = h22 75 10 := jK 0 f39 rg_75_10_0_1 (by first | decide | omega) (by first | decide | omega) (by decide)
        have q93 : h22 75 10 = h7 75 10 := jK 0 f24 rg_75_10_0_1 (by first | decide | omega) (by first | decide | omega) (by decide)
        have q94 : h7 75 10 = h 75 10 := jK 0 f9 rg_75_10_0_1 (by first | decide | omega) (by first | decide | omega) (by decide)
        have q95 : h80 75 7 = h70 75 7 := by rw [← e82]; exact x_up_i (by first | decide | omega)
        have q96 : h70 75 7 = h59 75 7 := by rw [← e72]; exact x_up_k (by decide)
        have q97 : h59 75 7 = h37 75 7 := by rw [← e61]; exact x_up_k (by decide)
        have q98 : h80 75 13 = (1 + (h 75 13)) := by rw [← e82]; exact x_up_at
        have k104 : Kp h h7 (h 75 13 - 2147483648) := Kp.fr Kp.refl f9 (by first | decide | omega) (by decide)
        have k103 : Kp h h22 (h 75 13 - 2147483648) := Kp.fr k104 f24 (by first | decide | omega) (by decide)
        have k102 : Kp h h37 (h 75 13 - 2147483648) := Kp.fr k103 f39 (by first | decide | omega) (by decide)
        have k101 : Kp h h59 (h 75 13 - 2147483648) := by rw [← e61]; exact Kp.up k102 (by first | decide | omega) (fun i hi => by first | decide | omega)
        have k100 : Kp h h70 (h 75 13 - 2147483648) := by rw [← e72]; exact Kp.up k101 (by first | decide | omega) (fun i hi => by first | decide | omega)
        have k99 : Kp h h80 (h 75 13 - 2147483648) := by rw [← e82]; exact Kp.oth k100 (by decide)
        have q105 : h80 75 13 = (1 + (h 75 13)) := by rw [← e82]; exact x_up_at
        have q107 : h80 76 (1152 + 2 * u56) = h70 76 (1152 + 2 * u56) := by rw [← e82]; exact x_up_k (by decide)
        have q108 : h70 76 (1152 + 2 * u56) = h59 76 (1152 + 2 * u56) := by rw [← e72]; exact x_up_i (by first | decide | omega)
        have q109 : h59 76 (1152 + 2 * u56) = 2147483654 := by rw [← e61]; exact x_up_at
        have s106 : Seg (sg h80) u56 (u56 + 1) := Seg.push (show 2147483648 ≤ h80 76 (1152 + 2 * u56) by first | decide | omega) (show h80 76 (1152 + 2 * u56) ≤ 2147483656 by first | decide | omega)
        have s110 : Seg (sg h80) (h 75 13 - 2147483648) (h80 75 13 - 2147483648) := Seg.cast (Seg.kp s106 Kp.refl) (by first | decide | omega) (by first | decide | omega)
        obtain ⟨w111, e112⟩ := Tk.no c13 (by first | decide | omega)
        obtain ⟨w113, e114⟩ := Tk.no c28 (by first | decide | omega)
        obtain ⟨w115, e116⟩ := Tk.yes c43 (by first | decide | omega)
        have q117 : h80 75 7 = h70 75 7 := by rw [← e82]; exact x_up_i (by first | decide | omega)
        have q118 : h70 75 7 = h59 75 7 := by rw [← e72]; exact x_up_k (by decide)
        have q119 : h59 75 7 = h37 75 7 := by rw [← e61]; exact x_up_k (by decide)
        refine x_retI (np := 152) (x := 0) (by decide +kernel) (by decide) (Or.inr ⟨by decide +kernel, by first | decide | omega, by first | decide | omega⟩) ⟨_, rfl, (by decide), ?_⟩
        exact ⟨j81, f83, (by first | decide | omega), (fun z => by first | decide | omega), (fun z => by first | decide | omega), (fun z => by first | decide | omega), (fun z => by first | decide | omega), k99, (fun _ => s110), (gA_own w115 (Eq.trans e114 e112) e116 (by first | decide | omega) (congrArg (sk tB tN) (show h37 75 7 = h80 75 7 by first | decide | omega)))⟩
      have q47 : ¬ (v33 ≠ 2147483648) := q47
      refine x_aload (np := 126) (x := 0) (by decide +kernel) rfl (x_nc_le (by decide)) ?_
      refine x_ldcB (i := 26) (idx := 252) (tx := "mine") (by rw [tb_y190]; exact List.mem_of_getElem? (i := 61) rfl) (by decide) (by rw [tb_b190]; decide +kernel) ?_
      have m123 := Tq.fr m36 f39 (by decide) (by decide)
      refine x_cI (t := 6) (mj := 171) (n := 2) (rc := 12) (ml := 2) (nr := 0) (np := 131) (as := [x_r 75, x_b (26 + 1)]) (rest := []) (lo1 := [x_r 75, x_b (26 + 1)]) (by decide +kernel) (by decide) (by decide +kernel) (x_rb_of (by decide +kernel)) rfl rfl (x_wr (by decide) (x_wB (by decide) x_wn)) x_wn (by decide) rfl (c171_75_S0 j38  (by decide) m123) (fun v120 h124 l121 q122 => ?_)
      obtain ⟨j125, f126, b127, c128, c129, c130⟩ := q122
      have f131 := Fr.trans f44 f126 (by decide)
      have b132 := jB (e := 7) 0 j125 rg_75_7_0_1 (by first | decide | omega) (by first | decide | omega)
      refine x_ifz (k := 0) (tg := 152) (np := 134) (by decide +kernel) (by decide) l121 (fun q133 => ?_) (fun q134 => ?_)
      · have q133 : v120 = 2147483648 := q133
        refine x_aload (np := 153) (x := 0) (by decide +kernel) rfl (x_nc_le (by decide)) ?_
        have q135 : h124 75 13 = h37 75 13 := jK 0 f126 rg_75_13_0_1 (by first | decide | omega) (by first | decide | omega) (by decide)
        have q136 : h37 75 13 = h22 75 13 := jK 0 f39 rg_75_13_0_1 (by first | decide | omega) (by first | decide | omega) (by decide)
        have q137 : h22 75 13 = h7 75 13 := jK 0 f24 rg_75_13_0_1 (by first | decide | omega) (by first | decide | omega) (by decide)
        have q138 : h7 75 13 = h 75 13 := jK 0 f9 rg_75_13_0_1 (by first | decide | omega) (by first | decide | omega) (by decide)
        have m142 := Tq.fr m123 f126 (by decide) (by decide)
        refine x_cI (t := 6) (mj := 189) (n := 1) (rc := 12) (ml := 1) (nr := 0) (np := 156) (as := [x_r 75]) (rest := []) (lo1 := [x_r 75]) (by decide +kernel) (by decide) (by decide +kernel) (x_rb_of (by decide +kernel)) rfl rfl (x_wr (by decide) x_wn) x_wn (by decide) rfl (c189_75 j125  (by first | decide | omega) m142) (fun v139 h143 l140 q141 => ?_)
        obtain ⟨j144, f145, b146, c147, c148, c149, c150, c151, c152⟩ := q141
        have f153 := Fr.trans f131 f145 (by decide)
        have q154 : h124 75 13 = h37 75 13 := jK 0 f126 rg_75_13_0_1 (by first | decide | omega) (by first | decide | omega) (by decide)
        have q155 : h37 75 13 = h22 75 13 := jK 0 f39 rg_75_13_0_1 (by first | decide | omega) (by first | decide | omega) (by decide)
        have q156 : h22 75 13 = h7 75 13 := jK 0 f24 rg_75_13_0_1 (by first | decide | omega) (by first | decide | omega) (by decide)
        have q157 : h7 75 13 = h 75 13 := jK 0 f9 rg_75_13_0_1 (by first | decide | omega) (by first | decide | omega) (by decide)
        have b158 := jB (e := 13) 0 j144 rg_75_13_0_1 (by first | decide | omega) (by first | decide | omega)
        have b159 := jB (e := 7) 0 j144 rg_75_7_0_1 (by first | decide | omega) (by first | decide | omega)
        have q160 : h124 75 13 = h37 75 13 := jK 0 f126 rg_75_13_0_1 (by first | decide | omega) (by first | decide | omega) (by decide)
        have q161 : h37 75 13 = h22 75 13 := jK 0 f39 rg_75_13_0_1 (by first | decide | omega) (by first | decide | omega) (by decide)
        have q162 : h22 75 13 = h7 75 13 := jK 0 f24 rg_75_13_0_1 (by first | decide | omega) (by first | decide | omega) (by decide)
        have q163 : h7 75 13 = h 75 13 := jK 0 f9 rg_75_13_0_1 (by first | decide | omega) (by first | decide | omega) (by decide)
        refine x_ifz (k := 1) (tg := 161) (np := 159) (by decide +kernel) (by decide) l140 (fun q164 => ?_) (fun q165 => ?_)
        · have q164 : v139 ≠ 2147483648 := q164
          have b166 := c147 (by first | decide | omega)
          have b167 := c148 (by first | decide | omega)
          have b168 := c149 (by first | decide | omega)
          have s169 := c151 (by first | decide | omega)
          have q170 : h124 75 13 = h37 75 13 := jK 0 f126 rg_75_13_0_1 (by first | decide | omega) (by first | decide | omega) (by decide)
          have q171 : h37 75 13 = h22 75 13 := jK 0 f39 rg_75_13_0_1 (by first | decide | omega) (by first | decide | omega) (by decide)
          have q172 : h22 75 13 = h7 75 13 := jK 0 f24 rg_75_13_0_1 (by first | decide | omega) (by first | decide | omega) (by decide)
          have q173 : h7 75 13 = h 75 13 := jK 0 f9 rg_75_13_0_1 (by first | decide | omega) (by first | decide | omega) (by decide)
          refine x_aload (np := 162) (x := 0) (by decide +kernel) rfl (x_nc_le (by decide)) ?_
          refine x_const (np := 164) (x := 9223372296700297276) (a := 2147483708) (by decide +kernel) (by decide) (by decide) ?_
          have m177 := Tq.fr m142 f145 (by decide) (by decide)
          refine x_cI (t := 6) (mj := 173) (n := 2) (rc := 12) (ml := 2) (nr := 0) (np := 167) (as := [x_r 75, iv_c 2147483708]) (rest := []) (lo1 := [x_r 75, iv_c 2147483708]) (by decide +kernel) (by decide) (by decide +kernel) (x_rb_of (by decide +kernel)) rfl rfl (x_wr (by decide) (x_wi (by decide) x_wn)) x_wn (by decide) rfl (c173_75 j144  (by first | decide | omega) m177) (fun v174 h178 l175 q176 => ?_)
          obtain ⟨j179, f180, b181, c182, c183, c184⟩ := q176
          have f185 := Fr.trans f153 f180 (by decide)
          have b186 := jB (e := 7) 0 j179 rg_75_7_0_1 (by first | decide | omega) (by first | decide | omega)
          refine x_istore (np := 168) (x := 2) (lo' := [x_r 75, iv_c v33, iv_c v174]) (by decide +kernel) l175 (Nat.le_of_ble_eq_true rfl) rfl ?_
          refine x_iload (np := 169) (x := 2) (by decide +kernel) rfl l175 ?_
          refine x_ifz (k := 1) (tg := 181) (np := 172) (by decide +kernel) (by decide) l175 (fun q187 => ?_) (fun q188 => ?_)
          · have q187 : v174 ≠ 2147483648 := q187
            have b189 := c183 (by first | decide | omega)
            refine x_aload (np := 182) (x := 0) (by decide +kernel) rfl (x_nc_le (by decide)) ?_
            have q190 : h178 75 13 = h143 75 13 := jK 0 f180 rg_75_13_0_1 (by first | decide | omega) (by first | decide | omega) (by decide)
            have m194 := Tq.fr m177 f180 (by decide) (by decide)
            refine x_cI (t := 6) (mj := 189) (n := 1) (rc := 12) (ml := 1) (nr := 0) (np := 185) (as := [x_r 75]) (rest := []) (lo1 := [x_r 75]) (by decide +kernel) (by decide) (by decide +kernel) (x_rb_of (by decide +kernel)) rfl rfl (x_wr (by decide) x_wn) x_wn (by decide) rfl (c189_75 j179  (by first | decide | omega) m194) (fun v191 h195 l192 q193 => ?_)
            obtain ⟨j196, f197, b198, c199, c200, c201, c202, c203, c204⟩ := q193
            have f205 := Fr.trans f185 f197 (by decide)
            have q206 : h178 75 13 = h143 75 13 := jK 0 f180 rg_75_13_0_1 (by first | decide | omega) (by first | decide | omega) (by decide)
            have b207 := jB (e := 13) 0 j196 rg_75_13_0_1 (by first | decide | omega) (by first | decide | omega)
            have b208 := jB (e := 7) 0 j196 rg_75_7_0_1 (by first | decide | omega) (by first | decide | omega)
            have q209 : h178 75 13 = h143 75 13 := jK 0 f180 rg_75_13_0_1 (by first | decide | omega) (by first | decide | omega) (by decide)
            refine x_ifz (k := 1) (tg := 190) (np := 188) (by decide +kernel) (by decide) l192 (fun q210 => ?_) (fun q211 => ?_)
            · have q210 : v191 ≠ 2147483648 := q210
              have b212 := c199 (by first | decide | omega)
              have b213 := c200 (by first | decide | omega)
              have b214 := c201 (by first | decide | omega)
              have s215 := c203 (by first | decide | omega)
              have q216 : h178 75 13 = h143 75 13 := jK 0 f180 rg_75_13_0_1 (by first | decide | omega) (by first | decide | omega) (by decide)
              refine x_aload (np := 191) (x := 0) (by decide +kernel) rfl (x_nc_le (by decide)) ?_
              refine x_iload (np := 192) (x := 2) (by decide +kernel) rfl l175 ?_
              refine x_ifz (k := 0) (tg := 200) (np := 195) (by decide +kernel) (by decide) l175 (fun q217 => ?_) (fun q218 => ?_)
              · have q217 : v174 = 2147483648 := q217
                exfalso; omega
              have q218 : ¬ (v174 = 2147483648) := q218
              refine x_const (np := 197) (x := 9223372081951932426) (a := 2147483658) (by decide +kernel) (by decide) (by decide) ?_
              refine x_goto (np := 200) (x := 202) (by decide +kernel) ?_
              refine x_const (np := 203) (x := 9223372039002259456) (a := 2147483648) (by decide +kernel) (by decide) (by decide) ?_
              refine x_nV (t := 6) (mj := 187) (n := 3) (rc := 12) (ml := 3) (nr := 0) (np := 206) (as := [x_r 75, iv_c 2147483658, iv_c 2147483648]) (rest := []) (lo1 := [x_r 75, iv_c 2147483658, iv_c 2147483648]) (by decide +kernel) (by decide) (by decide +kernel) (x_rb_of (by decide +kernel)) rfl rfl (x_wr (by decide) (x_wi (by decide) (x_wi (by decide) x_wn))) x_wn (by decide) rfl ?_
              refine x_aload (np := 1) (x := 0) (by decide +kernel) rfl (x_nc_le (by decide)) ?_
              have q219 : h195 75 1 = 76 := by have z := jB (e := 1) 0 j196 rg_75_1_0_1 (by decide) (by decide); omega
              refine x_getR (np := 4) (x := 705) (f := 1) (q := 76) (by decide +kernel) (by decide) (by decide +kernel) q219 ?_
              refine x_const (np := 7) (x := 9223376986804585600) (a := 2147484800) (by decide +kernel) (by decide) (by decide) ?_
              refine x_const (np := 8) (x := 9223372047592194050) (a := 2147483650) (by decide +kernel) (by decide) (by decide) ?_
              refine x_aload (np := 9) (x := 0) (by decide +kernel) rfl (x_nc_le (by decide)) ?_
              refine x_getC (np := 12) (x := 717) (f := 13) (q := (h195 75 13)) (by decide +kernel) (by decide) (by decide +kernel) rfl (fun l220 => ?_)
              obtain ⟨u221, q222⟩ : ∃ z, (h195 75 13) = 2147483648 + z := ⟨(h195 75 13) - 2147483648, by first | decide | omega⟩
              refine x_imul (np := 13) (x := 0) (i := 2) (j := u221) (v := (2147483648 + 2 * u221)) (by decide +kernel) (by first | decide | omega) (by first | decide | omega) (by first | decide | omega) (by first | decide | omega) (by decide) l220 ?_
              refine x_iadd (np := 14) (x := 0) (v := (2147484800 + 2 * u221)) (by decide +kernel) (by decide) (by first | decide | omega) (by first | decide | omega) (by first | decide | omega) ?_
              refine x_iload (np := 15) (x := 1) (by decide +kernel) rfl (by decide) ?_
              refine x_ast (np := 16) (x := 0) (kd := 1) (n := 1952) (i := (1152 + 2 * u221)) (by decide +kernel) (Or.inl rfl) (by decide +kernel) (by first | decide | omega) (by first | decide | omega) (by decide) (by decide) (fun z => absurd z (by decide)) ?_
              have j225 := jU (e := (1152 + 2 * u221)) (v := 2147483658) u221 j196 rg_76_1152_2_395 (by first | decide | omega) (by first | decide | omega) (by first | decide | omega)
              have f227 := jF (e := (1152 + 2 * u221)) (v := 2147483658) u221 f205 rg_76_1152_2_395 (by first | decide | omega) (by first | decide | omega) (by decide)
              generalize e226 : x_up h195 76 (1152 + 2 * u221) 2147483658 = h224 at j225 f227 ⊢
              refine x_aload (np := 17) (x := 0) (by decide +kernel) rfl (x_nc_le (by decide)) ?_
              have q228 : h224 75 1 = 76 := by have z := jB (e := 1) 0 j225 rg_75_1_0_1 (by decide) (by decide); omega
              refine x_getR (np := 20) (x := 705) (f := 1) (q := 76) (by decide +kernel) (by decide) (by decide +kernel) q228 ?_
              refine x_const (np := 23) (x := 9223376986804585600) (a := 2147484800) (by decide +kernel) (by decide) (by decide) ?_
              refine x_const (np := 24) (x := 9223372047592194050) (a := 2147483650) (by decide +kernel) (by decide) (by decide) ?_
              refine x_aload (np := 25) (x := 0) (by decide +kernel) rfl (x_nc_le (by decide)) ?_
              have q229 : h224 75 13 = h195 75 13 := by rw [← e226]; exact x_up_k (by decide)
              refine x_getC (np := 28) (x := 717) (f := 13) (q := (h195 75 13)) (by decide +kernel) (by decide) (by decide +kernel) q229 (fun l230 => ?_)
              refine x_imul (np := 29) (x := 0) (i := 2) (j := u221) (v := (2147483648 + 2 * u221)) (by decide +kernel) (by first | decide | omega) (by first | decide | omega) (by first | decide | omega) (by first | decide | omega) (by decide) l220 ?_
              refine x_iadd (np := 30) (x := 0) (v := (2147484800 + 2 * u221)) (by decide +kernel) (by decide) (by first | decide | omega) (by first | decide | omega) (by first | decide | omega) ?_
              refine x_const (np := 31) (x := 9223372043297226753) (a := 2147483649) (by decide +kernel) (by decide) (by decide) ?_
              refine x_iadd (np := 32) (x := 0) (v := (2147484801 + 2 * u221)) (by decide +kernel) (by first | decide | omega) (by decide) (by first | decide | omega) (by first | decide | omega) ?_
              refine x_iload (np := 33) (x := 2) (by decide +kernel) rfl (by decide) ?_
              refine x_ast (np := 34) (x := 0) (kd := 1) (n := 1952) (i := (1153 + 2 * u221)) (by decide +kernel) (Or.inl rfl) (by decide +kernel) (by first | decide | omega) (by first | decide | omega) (by decide) (by decide) (fun z => absurd z (by decide)) ?_
              have j233 := jU (e := (1153 + 2 * u221)) (v := 2147483648) u221 j225 rg_76_1153_2_395 (by first | decide | omega) (by first | decide | omega) (by first | decide | omega)
              have f235 := jF (e := (1153 + 2 * u221)) (v := 2147483648) u221 f227 rg_76_1153_2_395 (by first | decide | omega) (by first | decide | omega) (by decide)
              generalize e234 : x_up h224 76 (1153 + 2 * u221) 2147483648 = h232 at j233 f235 ⊢
              refine x_aload (np := 35) (x := 0) (by decide +kernel) rfl (x_nc_le (by decide)) ?_
              refine x_dup (np := 36) (x := 0) (by decide +kernel) (by have z := x_nc_le (k := 75) (by decide); unfold x_r; omega) ?_
              have q236 : h232 75 13 = h224 75 13 := by rw [← e234]; exact x_up_k (by decide)
              have q237 : h224 75 13 = h195 75 13 := by rw [← e226]; exact x_up_k (by decide)
              refine x_getC (np := 39) (x := 717) (f := 13) (q := (h195 75 13)) (by decide +kernel) (by decide) (by decide +kernel) (q236.trans q237) (fun l238 => ?_)
              refine x_const (np := 40) (x := 9223372043297226753) (a := 2147483649) (by decide +kernel) (by decide) (by decide) ?_
              refine x_iadd (np := 41) (x := 0) (v := (1 + (h195 75 13))) (by decide +kernel) l220 (by decide) (by first | decide | omega) (by first | decide | omega) ?_
              refine x_putI (np := 44) (x := 717) (f := 13) (by decide +kernel) (by decide +kernel) (by first | decide | omega) (Or.inl (by decide)) ?_
              have j240 := jU (e := 13) (v := (1 + (h195 75 13))) 0 j233 rg_75_13_0_1 (by first | decide | omega) (by first | decide | omega) (by first | decide | omega)
              have f242 := jF (e := 13) (v := (1 + (h195 75 13))) 0 f235 rg_75_13_0_1 (by first | decide | omega) (by first | decide | omega) (by decide)
              generalize e241 : x_up h232 75 13 (1 + (h195 75 13)) = h239 at j240 f242 ⊢
              refine x_retV (np := 45) (x := 0) (by decide +kernel) (by decide +kernel) ⟨rfl, ?_⟩
              have q243 : h239 75 13 = (1 + (h195 75 13)) := by rw [← e241]; exact x_up_at
              refine x_const (np := 207) (x := 9223372043297226753) (a := 2147483649) (by decide +kernel) (by decide) (by decide) ?_
              have q244 : h239 75 13 = (1 + (h195 75 13)) := by rw [← e241]; exact x_up_at
              have q245 : h239 75 7 = h232 75 7 := by rw [← e241]; exact x_up_i (by first | decide | omega)
              have q246 : h232 75 7 = h224 75 7 := by rw [← e234]; exact x_up_k (by decide)
              have q247 : h224 75 7 = h195 75 7 := by rw [← e226]; exact x_up_k (by decide)
              have q248 : h239 75 10 = h232 75 10 := by rw [← e241]; exact x_up_i (by first | decide | omega)
              have q249 : h232 75 10 = h224 75 10 := by rw [← e234]; exact x_up_k (by decide)
              have q250 : h224 75 10 = h195 75 10 := by rw [← e226]; exact x_up_k (by decide)
              have q251 : h195 75 10 = h178 75 10 := jK 0 f197 rg_75_10_0_1 (by first | decide | omega) (by first | decide | omega) (by decide)
              have q252 : h178 75 10 = h143 75 10 := jK 0 f180 rg_75_10_0_1 (by first | decide | omega) (by first | decide | omega) (by decide)
              have q253 : h143 75 10 = h124 75 10 := jK 0 f145 rg_75_10_0_1 (by first | decide | omega) (by first | decide | omega) (by decide)
              have q254 : h124 75 10 = h37 75 10 := jK 0 f126 rg_75_10_0_1 (by first | decide | omega) (by first | decide | omega) (by decide)
              have q255 : h37 75 10 = h22 75 10 := jK 0 f39 rg_75_10_0_1 (by first | decide | omega) (by first | decide | omega) (by decide)
              have q256 : h22 75 10 = h7 75 10 := jK 0 f24 rg_75_10_0_1 (by first | decide | omega) (by first | decide | omega) (by decide)
              have q257 : h7 75 10 = h 75 10 := jK 0 f9 rg_75_10_0_1 (by first | decide | omega) (by first | decide | omega) (by decide)
              have q258 : h239 75 7 = h232 75 7 := by rw [← e241]; exact x_up_i (by first | decide | omega)
              have q259 : h232 75 7 = h224 75 7 := by rw [← e234]; exact x_up_k (by decide)
              have q260 : h224 75 7 = h195 75 7 := by rw [← e226]; exact x_up_k (by decide)
              have q261 : h239 75 13 = (1 + (h195 75 13)) := by rw [← e241]; exact x_up_at
              have k271 : Kp h h7 (h 75 13 - 2147483648) := Kp.fr Kp.refl f9 (by first | decide | omega) (by decide)
              have k270 : Kp h h22 (h 75 13 - 2147483648) := Kp.fr k271 f24 (by first | decide | omega) (by decide)
              have k269 : Kp h h37 (h 75 13 - 2147483648) := Kp.fr k270 f39 (by first | decide | omega) (by decide)
              have k268 : Kp h h124 (h 75 13 - 2147483648) := Kp.fr k269 f126 (by first | decide | omega) (by decide)
              have q272 : h124 75 13 = h37 75 13 := jK 0 f126 rg_75_13_0_1 (by first | decide | omega) (by first | decide | omega) (by decide)
              have q273 : h37 75 13 = h22 75 13 := jK 0 f39 rg_75_13_0_1 (by first | decide | omega) (by first | decide | omega) (by decide)
              have q274 : h22 75 13 = h7 75 13 := jK 0 f24 rg_75_13_0_1 (by first | decide | omega) (by first | decide | omega) (by decide)
              have q275 : h7 75 13 = h 75 13 := jK 0 f9 rg_75_13_0_1 (by first | decide | omega) (by first | decide | omega) (by decide)
              have k267 : Kp h h143 (h 75 13 - 2147483648) := Kp.trans k268 c150 (by first | decide | omega)
              have k266 : Kp h h178 (h 75 13 - 2147483648) := Kp.fr k267 f180 (by first | decide | omega) (by decide)
              have q276 : h178 75 13 = h143 75 13 := jK 0 f180 rg_75_13_0_1 (by first | decide | omega) (by first | decide | omega) (by decide)
              have k265 : Kp h h195 (h 75 13 - 2147483648) := Kp.trans k266 c202 (by first | decide | omega)
              have k264 : Kp h h224 (h 75 13 - 2147483648) := by rw [← e226]; exact Kp.up k265 (by first | decide | omega) (fun i hi => by first | decide | omega)
              have k263 : Kp h h232 (h 75 13 - 2147483648) := by rw [← e234]; exact Kp.up k264 (by first | decide | omega) (fun i hi => by first | decide | omega)
              have k262 : Kp h h239 (h 75 13 - 2147483648) := by rw [← e241]; exact Kp.oth k263 (by decide)
              have q277 : h239 75 13 = (1 + (h195 75 13)) := by rw [← e241]; exact x_up_at
              have q279 : h239 76 (1152 + 2 * u221) = h232 76 (1152 + 2 * u221) := by rw [← e241]; exact x_up_k (by decide)
              have q280 : h232 76 (1152 + 2 * u221) = h224 76 (1152 + 2 * u221) := by rw [← e234]; exact x_up_i (by first | decide | omega)
              have q281 : h224 76 (1152 + 2 * u221) = 2147483658 := by rw [← e226]; exact x_up_at
              have k286 : Kp h143 h178 (h143 75 13 - 2147483648) := Kp.fr Kp.refl f180 (by first | decide | omega) (by decide)
              have q287 : h178 75 13 = h143 75 13 := jK 0 f180 rg_75_13_0_1 (by first | decide | omega) (by first | decide | omega) (by decide)
              have k285 : Kp h143 h195 (h143 75 13 - 2147483648) := Kp.trans k286 c202 (by first | decide | omega)
              have k284 : Kp h143 h224 (h143 75 13 - 2147483648) := by rw [← e226]; exact Kp.up k285 (by first | decide | omega) (fun i hi => by first | decide | omega)
              have k283 : Kp h143 h232 (h143 75 13 - 2147483648) := by rw [← e234]; exact Kp.up k284 (by first | decide | omega) (fun i hi => by first | decide | omega)
              have k282 : Kp h143 h239 (h143 75 13 - 2147483648) := by rw [← e241]; exact Kp.oth k283 (by decide)
              have k290 : Kp h195 h224 (h195 75 13 - 2147483648) := by rw [← e226]; exact Kp.up Kp.refl (by first | decide | omega) (fun i hi => by first | decide | omega)
              have k289 : Kp h195 h232 (h195 75 13 - 2147483648) := by rw [← e234]; exact Kp.up k290 (by first | decide | omega) (fun i hi => by first | decide | omega)
              have k288 : Kp h195 h239 (h195 75 13 - 2147483648) := by rw [← e241]; exact Kp.oth k289 (by decide)
              have s278 : Seg (sg h239) (h124 75 13 - 2147483648) (u221 + 1) := Seg.bin (Seg.kp s169 k282) (Seg.cast (a' := (h143 75 13 - 2147483648)) (b' := u221) (Seg.kp s215 k288) (by first | decide | omega) (by first | decide | omega)) (show 2147483656 < h239 76 (1152 + 2 * u221) by first | decide | omega) (show h239 76 (1152 + 2 * u221) ≠ 2147483660 by first | decide | omega)
              have s291 : Seg (sg h239) (h 75 13 - 2147483648) (h239 75 13 - 2147483648) := Seg.cast (Seg.kp s278 Kp.refl) (by first | decide | omega) (by first | decide | omega)
              obtain ⟨w292, e293⟩ := Tk.no c13 (by first | decide | omega)
              obtain ⟨w294, e295⟩ := Tk.no c28 (by first | decide | omega)
              obtain ⟨w296, e297⟩ := Tk.no c43 (by first | decide | omega)
              obtain ⟨w298, e299⟩ := Tk.no c130 (by first | decide | omega)
              have w300 : An tB tN (sk tB tN (h 75 7)) := gA_an w294 e293 w292 rfl w296 (Eq.trans e295 e293) w298 (Eq.trans e297 (Eq.trans e295 e293))
              obtain ⟨w301, e302⟩ := Tk.yes c184 (by first | decide | omega)
              have q303 : h239 75 7 = h232 75 7 := by rw [← e241]; exact x_up_i (by first | decide | omega)
              have q304 : h232 75 7 = h224 75 7 := by rw [← e234]; exact x_up_k (by decide)
              have q305 : h224 75 7 = h195 75 7 := by rw [← e226]; exact x_up_k (by decide)
              refine x_retI (np := 208) (x := 0) (by decide +kernel) (by decide) (Or.inr ⟨by decide +kernel, by first | decide | omega, by first | decide | omega⟩) ⟨_, rfl, (by decide), ?_⟩
              exact ⟨j240, f242, (by first | decide | omega), (fun z => by first | decide | omega), (fun z => by first | decide | omega), (fun z => by first | decide | omega), (fun z => by first | decide | omega), k262, (fun _ => s291), (gA_c2 w300 (c152 5) (Eq.trans e299 (Eq.trans e297 (Eq.trans e295 e293))) (by first | decide | omega) (Or.inl w301) rfl e302 (c204 5) rfl (by first | decide | omega) (fun z => (congrArg (sk tB tN) (show h195 75 7 = h239 75 7 by first | decide | omega))))⟩
            have q211 : ¬ (v191 ≠ 2147483648) := q211
            refine x_const (np := 189) (x := 9223372039002259456) (a := 2147483648) (by decide +kernel) (by decide) (by decide) ?_
            have q306 : h195 75 10 = h178 75 10 := jK 0 f197 rg_75_10_0_1 (by first | decide | omega) (by first | decide | omega) (by decide)
            have q307 : h178 75 10 = h143 75 10 := jK 0 f180 rg_75_10_0_1 (by first | decide | omega) (by first | decide | omega) (by decide)
            have q308 : h143 75 10 = h124 75 10 := jK 0 f145 rg_75_10_0_1 (by first | decide | omega) (by first | decide | omega) (by decide)
            have q309 : h124 75 10 = h37 75 10 := jK 0 f126 rg_75_10_0_1 (by first | decide | omega) (by first | decide | omega) (by decide)
            have q310 : h37 75 10 = h22 75 10 := jK 0 f39 rg_75_10_0_1 (by first | decide | omega) (by first | decide | omega) (by decide)
            have q311 : h22 75 10 = h7 75 10 := jK 0 f24 rg_75_10_0_1 (by first | decide | omega) (by first | decide | omega) (by decide)
            have q312 : h7 75 10 = h 75 10 := jK 0 f9 rg_75_10_0_1 (by first | decide | omega) (by first | decide | omega) (by decide)
            have k319 : Kp h h7 (h 75 13 - 2147483648) := Kp.fr Kp.refl f9 (by first | decide | omega) (by decide)
            have k318 : Kp h h22 (h 75 13 - 2147483648) := Kp.fr k319 f24 (by first | decide | omega) (by decide)
            have k317 : Kp h h37 (h 75 13 - 2147483648) := Kp.fr k318 f39 (by first | decide | omega) (by decide)
            have k316 : Kp h h124 (h 75 13 - 2147483648) := Kp.fr k317 f126 (by first | decide | omega) (by decide)
            have q320 : h124 75 13 = h37 75 13 := jK 0 f126 rg_75_13_0_1 (by first | decide | omega) (by first | decide | omega) (by decide)
            have q321 : h37 75 13 = h22 75 13 := jK 0 f39 rg_75_13_0_1 (by first | decide | omega) (by first | decide | omega) (by decide)
            have q322 : h22 75 13 = h7 75 13 := jK 0 f24 rg_75_13_0_1 (by first | decide | omega) (by first | decide | omega) (by decide)
            have q323 : h7 75 13 = h 75 13 := jK 0 f9 rg_75_13_0_1 (by first | decide | omega) (by first | decide | omega) (by decide)
            have k315 : Kp h h143 (h 75 13 - 2147483648) := Kp.trans k316 c150 (by first | decide | omega)
            have k314 : Kp h h178 (h 75 13 - 2147483648) := Kp.fr k315 f180 (by first | decide | omega) (by decide)
            have q324 : h178 75 13 = h143 75 13 := jK 0 f180 rg_75_13_0_1 (by first | decide | omega) (by first | decide | omega) (by decide)
            have k313 : Kp h h195 (h 75 13 - 2147483648) := Kp.trans k314 c202 (by first | decide | omega)
            obtain ⟨w325, e326⟩ := Tk.no c13 (by first | decide | omega)
            obtain ⟨w327, e328⟩ := Tk.no c28 (by first | decide | omega)
            obtain ⟨w329, e330⟩ := Tk.no c43 (by first | decide | omega)
            obtain ⟨w331, e332⟩ := Tk.no c130 (by first | decide | omega)
            have w333 : An tB tN (sk tB tN (h 75 7)) := gA_an w327 e326 w325 rfl w329 (Eq.trans e328 e326) w331 (Eq.trans e330 (Eq.trans e328 e326))
            obtain ⟨w334, e335⟩ := Tk.yes c184 (by first | decide | omega)
            refine x_retI (np := 190) (x := 0) (by decide +kernel) (by decide) (Or.inr ⟨by decide +kernel, by first | decide | omega, by first | decide | omega⟩) ⟨_, rfl, (by decide), ?_⟩
            exact ⟨j196, f205, (by first | decide | omega), (fun z => by first | decide | omega), (fun z => by first | decide | omega), (fun z => by first | decide | omega), (fun z => by first | decide | omega), k313, (fun z => absurd z (by first | decide | omega)), (gA_c2 w333 (c152 5) (Eq.trans e332 (Eq.trans e330 (Eq.trans e328 e326))) (by first | decide | omega) (Or.inl w334) rfl e335 (c204 5) rfl (by first | decide | omega) (fun z => absurd z (by first | decide | omega)))⟩
          have q188 : ¬ (v174 ≠ 2147483648) := q188
          refine x_aload (np := 173) (x := 0) (by decide +kernel) rfl (x_nc_le (by decide)) ?_
          refine x_const (np := 175) (x := 9223372305290231870) (a := 2147483710) (by decide +kernel) (by decide) (by decide) ?_
          have m339 := Tq.fr m177 f180 (by decide) (by decide)
          refine x_cI (t := 6) (mj := 173) (n := 2) (rc := 12) (ml := 2) (nr := 0) (np := 178) (as := [x_r 75, iv_c 2147483710]) (rest := []) (lo1 := [x_r 75, iv_c 2147483710]) (by decide +kernel) (by decide) (by decide +kernel) (x_rb_of (by decide +kernel)) rfl rfl (x_wr (by decide) (x_wi (by decide) x_wn)) x_wn (by decide) rfl (c173_75 j179  (by first | decide | omega) m339) (fun v336 h340 l337 q338 => ?_)
          obtain ⟨j341, f342, b343, c344, c345, c346⟩ := q338
          have f347 := Fr.trans f185 f342 (by decide)
          have b348 := jB (e := 7) 0 j341 rg_75_7_0_1 (by first | decide | omega) (by first | decide | omega)
          refine x_ifz (k := 0) (tg := 188) (np := 181) (by decide +kernel) (by decide) l337 (fun q349 => ?_) (fun q350 => ?_)
          · have q349 : v336 = 2147483648 := q349
            refine x_const (np := 189) (x := 9223372039002259456) (a := 2147483648) (by decide +kernel) (by decide) (by decide) ?_
            have q351 : h340 75 13 = h178 75 13 := jK 0 f342 rg_75_13_0_1 (by first | decide | omega) (by first | decide | omega) (by decide)
            have q352 : h178 75 13 = h143 75 13 := jK 0 f180 rg_75_13_0_1 (by first | decide | omega) (by first | decide | omega) (by decide)
            have q353 : h340 75 10 = h178 75 10 := jK 0 f342 rg_75_10_0_1 (by first | decide | omega) (by first | decide | omega) (by decide)
            have q354 : h178 75 10 = h143 75 10 := jK 0 f180 rg_75_10_0_1 (by first | decide | omega) (by first | decide | omega) (by decide)
            have q355 : h143 75 10 = h124 75 10 := jK 0 f145 rg_75_10_0_1 (by first | decide | omega) (by first | decide | omega) (by decide)
            have q356 : h124 75 10 = h37 75 10 := jK 0 f126 rg_75_10_0_1 (by first | decide | omega) (by first | decide | omega) (by decide)
            have q357 : h37 75 10 = h22 75 10 := jK 0 f39 rg_75_10_0_1 (by first | decide | omega) (by first | decide | omega) (by decide)
            have q358 : h22 75 10 = h7 75 10 := jK 0 f24 rg_75_10_0_1 (by first | decide | omega) (by first | decide | omega) (by decide)
            have q359 : h7 75 10 = h 75 10 := jK 0 f9 rg_75_10_0_1 (by first | decide | omega) (by first | decide | omega) (by decide)
            have q360 : h340 75 13 = h178 75 13 := jK 0 f342 rg_75_13_0_1 (by first | decide | omega) (by first | decide | omega) (by decide)
            have q361 : h178 75 13 = h143 75 13 := jK 0 f180 rg_75_13_0_1 (by first | decide | omega) (by first | decide | omega) (by decide)
            have k368 : Kp h h7 (h 75 13 - 2147483648) := Kp.fr Kp.refl f9 (by first | decide | omega) (by decide)
            have k367 : Kp h h22 (h 75 13 - 2147483648) := Kp.fr k368 f24 (by first | decide | omega) (by decide)
            have k366 : Kp h h37 (h 75 13 - 2147483648) := Kp.fr k367 f39 (by first | decide | omega) (by decide)
            have k365 : Kp h h124 (h 75 13 - 2147483648) := Kp.fr k366 f126 (by first | decide | omega) (by decide)
            have q369 : h124 75 13 = h37 75 13 := jK 0 f126 rg_75_13_0_1 (by first | decide | omega) (by first | decide | omega) (by decide)
            have q370 : h37 75 13 = h22 75 13 := jK 0 f39 rg_75_13_0_1 (by first | decide | omega) (by first | decide | omega) (by decide)
            have q371 : h22 75 13 = h7 75 13 := jK 0 f24 rg_75_13_0_1 (by first | decide | omega) (by first | decide | omega) (by decide)
            have q372 : h7 75 13 = h 75 13 := jK 0 f9 rg_75_13_0_1 (by first | decide | omega) (by first | decide | omega) (by decide)
            have k364 : Kp h h143 (h 75 13 - 2147483648) := Kp.trans k365 c150 (by first | decide | omega)
            have k363 : Kp h h178 (h 75 13 - 2147483648) := Kp.fr k364 f180 (by first | decide | omega) (by decide)
            have k362 : Kp h h340 (h 75 13 - 2147483648) := Kp.fr k363 f342 (by first | decide | omega) (by decide)
            obtain ⟨w373, e374⟩ := Tk.no c13 (by first | decide | omega)
            obtain ⟨w375, e376⟩ := Tk.no c28 (by first | decide | omega)
            obtain ⟨w377, e378⟩ := Tk.no c43 (by first | decide | omega)
            obtain ⟨w379, e380⟩ := Tk.no c130 (by first | decide | omega)
            have w381 : An tB tN (sk tB tN (h 75 7)) := gA_an w375 e374 w373 rfl w377 (Eq.trans e376 e374) w379 (Eq.trans e378 (Eq.trans e376 e374))
            obtain ⟨w382, e383⟩ := Tk.no c184 (by first | decide | omega)
            obtain ⟨w384, e385⟩ := Tk.no c346 (by first | decide | omega)
            refine x_retI (np := 190) (x := 0) (by decide +kernel) (by decide) (Or.inr ⟨by decide +kernel, by first | decide | omega, by first | decide | omega⟩) ⟨_, rfl, (by decide), ?_⟩
            exact ⟨j341, f347, (by first | decide | omega), (fun z => by first | decide | omega), (fun z => by first | decide | omega), (fun z => by first | decide | omega), (fun z => by first | decide | omega), k362, (fun z => absurd z (by first | decide | omega)), (gA_c1 w381 (c152 5) (Eq.trans e380 (Eq.trans e378 (Eq.trans e376 e374))) (by first | decide | omega) w382 rfl w384 (Eq.trans rfl (Eq.trans e383 rfl)) (by first | decide | omega))⟩
          have q350 : ¬ (v336 = 2147483648) := q350
          have b386 := c345 (by first | decide | omega)
          refine x_aload (np := 182) (x := 0) (by decide +kernel) rfl (x_nc_le (by decide)) ?_
          have q387 : h340 75 13 = h178 75 13 := jK 0 f342 rg_75_13_0_1 (by first | decide | omega) (by first | decide | omega) (by decide)
          have q388 : h178 75 13 = h143 75 13 := jK 0 f180 rg_75_13_0_1 (by first | decide | omega) (by first | decide | omega) (by decide)
          have m392 := Tq.fr m339 f342 (by decide) (by decide)
          refine x_cI (t := 6) (mj := 189) (n := 1) (rc := 12) (ml := 1) (nr := 0) (np := 185) (as := [x_r 75]) (rest := []) (lo1 := [x_r 75]) (by decide +kernel) (by decide) (by decide +kernel) (x_rb_of (by decide +kernel)) rfl rfl (x_wr (by decide) x_wn) x_wn (by decide) rfl (c189_75 j341  (by first | decide | omega) m392) (fun v389 h393 l390 q391 => ?_)
          obtain ⟨j394, f395, b396, c397, c398, c399, c400, c401, c402⟩ := q391
          have f403 := Fr.trans f347 f395 (by decide)
          have q404 : h340 75 13 = h178 75 13 := jK 0 f342 rg_75_13_0_1 (by first | decide | omega) (by first | decide | omega) (by decide)
          have q405 : h178 75 13 = h143 75 13 := jK 0 f180 rg_75_13_0_1 (by first | decide | omega) (by first | decide | omega) (by decide)
          have b406 := jB (e := 13) 0 j394 rg_75_13_0_1 (by first | decide | omega) (by first | decide | omega)
          have b407 := jB (e := 7) 0 j394 rg_75_7_0_1 (by first | decide | omega) (by first | decide | omega)
          have q408 : h340 75 13 = h178 75 13 := jK 0 f342 rg_75_13_0_1 (by first | decide | omega) (by first | decide | omega) (by decide)
          have q409 : h178 75 13 = h143 75 13 := jK 0 f180 rg_75_13_0_1 (by first | decide | omega) (by first | decide | omega) (by decide)
          refine x_ifz (k := 1) (tg := 190) (np := 188) (by decide +kernel) (by decide) l390 (fun q410 => ?_) (fun q411 => ?_)
          · have q410 : v389 ≠ 2147483648 := q410
            have b412 := c397 (by first | decide | omega)
            have b413 := c398 (by first | decide | omega)
            have b414 := c399 (by first | decide | omega)
            have s415 := c401 (by first | decide | omega)
            have q416 : h340 75 13 = h178 75 13 := jK 0 f342 rg_75_13_0_1 (by first | decide | omega) (by first | decide | omega) (by decide)
            have q417 : h178 75 13 = h143 75 13 := jK 0 f180 rg_75_13_0_1 (by first | decide | omega) (by first | decide | omega) (by decide)
            refine x_aload (np := 191) (x := 0) (by decide +kernel) rfl (x_nc_le (by decide)) ?_
            refine x_iload (np := 192) (x := 2) (by decide +kernel) rfl l175 ?_
            refine x_ifz (k := 0) (tg := 200) (np := 195) (by decide +kernel) (by decide) l175 (fun q418 => ?_) (fun q419 => ?_)
            · have q418 : v174 = 2147483648 := q418
              refine x_const (np := 202) (x := 9223372086246899723) (a := 2147483659) (by decide +kernel) (by decide) (by decide) ?_
              refine x_const (np := 203) (x := 9223372039002259456) (a := 2147483648) (by decide +kernel) (by decide) (by decide) ?_
              refine x_nV (t := 6) (mj := 187) (n := 3) (rc := 12) (ml := 3) (nr := 0) (np := 206) (as := [x_r 75, iv_c 2147483659, iv_c 2147483648]) (rest := []) (lo1 := [x_r 75, iv_c 2147483659, iv_c 2147483648]) (by decide +kernel) (by decide) (by decide +kernel) (x_rb_of (by decide +kernel)) rfl rfl (x_wr (by decide) (x_wi (by decide) (x_wi (by decide) x_wn))) x_wn (by decide) rfl ?_
              refine x_aload (np := 1) (x := 0) (by decide +kernel) rfl (x_nc_le (by decide)) ?_
              have q420 : h393 75 1 = 76 := by have z := jB (e := 1) 0 j394 rg_75_1_0_1 (by decide) (by decide); omega
              refine x_getR (np := 4) (x := 705) (f := 1) (q := 76) (by decide +kernel) (by decide) (by decide +kernel) q420 ?_
              refine x_const (np := 7) (x := 9223376986804585600) (a := 2147484800) (by decide +kernel) (by decide) (by decide) ?_
              refine x_const (np := 8) (x := 9223372047592194050) (a := 2147483650) (by decide +kernel) (by decide) (by decide) ?_
              refine x_aload (np := 9) (x := 0) (by decide +kernel) rfl (x_nc_le (by decide)) ?_
              refine x_getC (np := 12) (x := 717) (f := 13) (q := (h393 75 13)) (by decide +kernel) (by decide) (by decide +kernel) rfl (fun l421 => ?_)
              obtain ⟨u422, q423⟩ : ∃ z, (h393 75 13) = 2147483648 + z := ⟨(h393 75 13) - 2147483648, by first | decide | omega⟩
              refine x_imul (np := 13) (x := 0) (i := 2) (j := u422) (v := (2147483648 + 2 * u422)) (by decide +kernel) (by first | decide | omega) (by first | decide | omega) (by first | decide | omega) (by first | decide | omega) (by decide) l421 ?_
              refine x_iadd (np := 14) (x := 0) (v := (2147484800 + 2 * u422)) (by decide +kernel) (by decide) (by first | decide | omega) (by first | decide | omega) (by first | decide | omega) ?_
              refine x_iload (np := 15) (x := 1) (by decide +kernel) rfl (by decide) ?_
              refine x_ast (np := 16) (x := 0) (kd := 1) (n := 1952) (i := (1152 + 2 * u422)) (by decide +kernel) (Or.inl rfl) (by decide +kernel) (by first | decide | omega) (by first | decide | omega) (by decide) (by decide) (fun z => absurd z (by decide)) ?_
              have j426 := jU (e := (1152 + 2 * u422)) (v := 2147483659) u422 j394 rg_76_1152_2_395 (by first | decide | omega) (by first | decide | omega) (by first | decide | omega)
              have f428 := jF (e := (1152 + 2 * u422)) (v := 2147483659) u422 f403 rg_76_1152_2_395 (by first | decide | omega) (by first | decide | omega) (by decide)
              generalize e427 : x_up h393 76 (1152 + 2 * u422) 2147483659 = h425 at j426 f428 ⊢
              refine x_aload (np := 17) (x := 0) (by decide +kernel) rfl (x_nc_le (by decide)) ?_
              have q429 : h425 75 1 = 76 := by have z := jB (e := 1) 0 j426 rg_75_1_0_1 (by decide) (by decide); omega
              refine x_getR (np := 20) (x := 705) (f := 1) (q := 76) (by decide +kernel) (by decide) (by decide +kernel) q429 ?_
              refine x_const (np := 23) (x := 9223376986804585600) (a := 2147484800) (by decide +kernel) (by decide) (by decide) ?_
              refine x_const (np := 24) (x := 9223372047592194050) (a := 2147483650) (by decide +kernel) (by decide) (by decide) ?_
              refine x_aload (np := 25) (x := 0) (by decide +kernel) rfl (x_nc_le (by decide)) ?_
              have q430 : h425 75 13 = h393 75 13 := by rw [← e427]; exact x_up_k (by decide)
              refine x_getC (np := 28) (x := 717) (f := 13) (q := (h393 75 13)) (by decide +kernel) (by decide) (by decide +kernel) q430 (fun l431 => ?_)
              refine x_imul (np := 29) (x := 0) (i := 2) (j := u422) (v := (2147483648 + 2 * u422)) (by decide +kernel) (by first | decide | omega) (by first | decide | omega) (by first | decide | omega) (by first | decide | omega) (by decide) l421 ?_
              refine x_iadd (np := 30) (x := 0) (v := (2147484800 + 2 * u422)) (by decide +kernel) (by decide) (by first | decide | omega) (by first | decide | omega) (by first | decide | omega) ?_
              refine x_const (np := 31) (x := 9223372043297226753) (a := 2147483649) (by decide +kernel) (by decide) (by decide) ?_
              refine x_iadd (np := 32) (x := 0) (v := (2147484801 + 2 * u422)) (by decide +kernel) (by first | decide | omega) (by decide) (by first | decide | omega) (by first | decide | omega) ?_
              refine x_iload (np := 33) (x := 2) (by decide +kernel) rfl (by decide) ?_
              refine x_ast (np := 34) (x := 0) (kd := 1) (n := 1952) (i := (1153 + 2 * u422)) (by decide +kernel) (Or.inl rfl) (by decide +kernel) (by first | decide | omega) (by first | decide | omega) (by decide) (by decide) (fun z => absurd z (by decide)) ?_
              have j434 := jU (e := (1153 + 2 * u422)) (v := 2147483648) u422 j426 rg_76_1153_2_395 (by first | decide | omega) (by first | decide | omega) (by first | decide | omega)
              have f436 := jF (e := (1153 + 2 * u422)) (v := 2147483648) u422 f428 rg_76_1153_2_395 (by first | decide | omega) (by first | decide | omega) (by decide)
              generalize e435 : x_up h425 76 (1153 + 2 * u422) 2147483648 = h433 at j434 f436 ⊢
              refine x_aload (np := 35) (x := 0) (by decide +kernel) rfl (x_nc_le (by decide)) ?_
              refine x_dup (np := 36) (x := 0) (by decide +kernel) (by have z := x_nc_le (k := 75) (by decide); unfold x_r; omega) ?_
              have q437 : h433 75 13 = h425 75 13 := by rw [← e435]; exact x_up_k (by decide)
              have q438 : h425 75 13 = h393 75 13 := by rw [← e427]; exact x_up_k (by decide)
              refine x_getC (np := 39) (x := 717) (f := 13) (q := (h393 75 13)) (by decide +kernel) (by decide) (by decide +kernel) (q437.trans q438) (fun l439 => ?_)
              refine x_const (np := 40) (x := 9223372043297226753) (a := 2147483649) (by decide +kernel) (by decide) (by decide) ?_
              refine x_iadd (np := 41) (x := 0) (v := (1 + (h393 75 13))) (by decide +kernel) l421 (by decide) (by first | decide | omega) (by first | decide | omega) ?_
              refine x_putI (np := 44) (x := 717) (f := 13) (by decide +kernel) (by decide +kernel) (by first | decide | omega) (Or.inl (by decide)) ?_
              have j441 := jU (e := 13) (v := (1 + (h393 75 13))) 0 j434 rg_75_13_0_1 (by first | decide | omega) (by first | decide | omega) (by first | decide | omega)
              have f443 := jF (e := 13) (v := (1 + (h393 75 13))) 0 f436 rg_75_13_0_1 (by first | decide | omega) (by first | decide | omega) (by decide)
              generalize e442 : x_up h433 75 13 (1 + (h393 75 13)) = h440 at j441 f443 ⊢
              refine x_retV (np := 45) (x := 0) (by decide +kernel) (by decide +kernel) ⟨rfl, ?_⟩
              have q444 : h440 75 13 = (1 + (h393 75 13)) := by rw [← e442]; exact x_up_at
              refine x_const (np := 207) (x := 9223372043297226753) (a := 2147483649) (by decide +kernel) (by decide) (by decide) ?_
              have q445 : h440 75 13 = (1 + (h393 75 13)) := by rw [← e442]; exact x_up_at
              have q446 : h440 75 7 = h433 75 7 := by rw [← e442]; exact x_up_i (by first | decide | omega)
              have q447 : h433 75 7 = h425 75 7 := by rw [← e435]; exact x_up_k (by decide)
              have q448 : h425 75 7 = h393 75 7 := by rw [← e427]; exact x_up_k (by decide)
              have q449 : h440 75 10 = h433 75 10 := by rw [← e442]; exact x_up_i (by first | decide | omega)
              have q450 : h433 75 10 = h425 75 10 := by rw [← e435]; exact x_up_k (by decide)
              have q451 : h425 75 10 = h393 75 10 := by rw [← e427]; exact x_up_k (by decide)
              have q452 : h393 75 10 = h340 75 10 := jK 0 f395 rg_75_10_0_1 (by first | decide | omega) (by first | decide | omega) (by decide)
              have q453 : h340 75 10 = h178 75 10 := jK 0 f342 rg_75_10_0_1 (by first | decide | omega) (by first | decide | omega) (by decide)
              have q454 : h178 75 10 = h143 75 10 := jK 0 f180 rg_75_10_0_1 (by first | decide | omega) (by first | decide | omega) (by decide)
              have q455 : h143 75 10 = h124 75 10 := jK 0 f145 rg_75_10_0_1 (by first | decide | omega) (by first | decide | omega) (by decide)
              have q456 : h124 75 10 = h37 75 10 := jK 0 f126 rg_75_10_0_1 (by first | decide | omega) (by first | decide | omega) (by decide)
              have q457 : h37 75 10 = h22 75 10 := jK 0 f39 rg_75_10_0_1 (by first | decide | omega) (by first | decide | omega) (by decide)
              have q458 : h22 75 10 = h7 75 10 := jK 0 f24 rg_75_10_0_1 (by first | decide | omega) (by first | decide | omega) (by decide)
              have q459 : h7 75 10 = h 75 10 := jK 0 f9 rg_75_10_0_1 (by first | decide | omega) (by first | decide | omega) (by decide)
              have q460 : h440 75 7 = h433 75 7 := by rw [← e442]; exact x_up_i (by first | decide | omega)
              have q461 : h433 75 7 = h425 75 7 := by rw [← e435]; exact x_up_k (by decide)
              have q462 : h425 75 7 = h393 75 7 := by rw [← e427]; exact x_up_k (by decide)
              have q463 : h440 75 13 = (1 + (h393 75 13)) := by rw [← e442]; exact x_up_at
              have k474 : Kp h h7 (h 75 13 - 2147483648) := Kp.fr Kp.refl f9 (by first | decide | omega) (by decide)
              have k473 : Kp h h22 (h 75 13 - 2147483648) := Kp.fr k474 f24 (by first | decide | omega) (by decide)
              have k472 : Kp h h37 (h 75 13 - 2147483648) := Kp.fr k473 f39 (by first | decide | omega) (by decide)
              have k471 : Kp h h124 (h 75 13 - 2147483648) := Kp.fr k472 f126 (by first | decide | omega) (by decide)
              have q475 : h124 75 13 = h37 75 13 := jK 0 f126 rg_75_13_0_1 (by first | decide | omega) (by first | decide | omega) (by decide)
              have q476 : h37 75 13 = h22 75 13 := jK 0 f39 rg_75_13_0_1 (by first | decide | omega) (by first | decide | omega) (by decide)
              have q477 : h22 75 13 = h7 75 13 := jK 0 f24 rg_75_13_0_1 (by first | decide | omega) (by first | decide | omega) (by decide)
              have q478 : h7 75 13 = h 75 13 := jK 0 f9 rg_75_13_0_1 (by first | decide | omega) (by first | decide | omega) (by decide)
              have k470 : Kp h h143 (h 75 13 - 2147483648) := Kp.trans k471 c150 (by first | decide | omega)
              have k469 : Kp h h178 (h 75 13 - 2147483648) := Kp.fr k470 f180 (by first | decide | omega) (by decide)
              have k468 : Kp h h340 (h 75 13 - 2147483648) := Kp.fr k469 f342 (by first | decide | omega) (by decide)
              have q479 : h340 75 13 = h178 75 13 := jK 0 f342 rg_75_13_0_1 (by first | decide | omega) (by first | decide | omega) (by decide)
              have q480 : h178 75 13 = h143 75 13 := jK 0 f180 rg_75_13_0_1 (by first | decide | omega) (by first | decide | omega) (by decide)
              have k467 : Kp h h393 (h 75 13 - 2147483648) := Kp.trans k468 c400 (by first | decide | omega)
              have k466 : Kp h h425 (h 75 13 - 2147483648) := by rw [← e427]; exact Kp.up k467 (by first | decide | omega) (fun i hi => by first | decide | omega)
              have k465 : Kp h h433 (h 75 13 - 2147483648) := by rw [← e435]; exact Kp.up k466 (by first | decide | omega) (fun i hi => by first | decide | omega)
              have k464 : Kp h h440 (h 75 13 - 2147483648) := by rw [← e442]; exact Kp.oth k465 (by decide)
              have q481 : h440 75 13 = (1 + (h393 75 13)) := by rw [← e442]; exact x_up_at
              have q483 : h440 76 (1152 + 2 * u422) = h433 76 (1152 + 2 * u422) := by rw [← e442]; exact x_up_k (by decide)
              have q484 : h433 76 (1152 + 2 * u422) = h425 76 (1152 + 2 * u422) := by rw [← e435]; exact x_up_i (by first | decide | omega)
              have q485 : h425 76 (1152 + 2 * u422) = 2147483659 := by rw [← e427]; exact x_up_at
              have k491 : Kp h143 h178 (h143 75 13 - 2147483648) := Kp.fr Kp.refl f180 (by first | decide | omega) (by decide)
              have k490 : Kp h143 h340 (h143 75 13 - 2147483648) := Kp.fr k491 f342 (by first | decide | omega) (by decide)
              have q492 : h340 75 13 = h178 75 13 := jK 0 f342 rg_75_13_0_1 (by first | decide | omega) (by first | decide | omega) (by decide)
              have q493 : h178 75 13 = h143 75 13 := jK 0 f180 rg_75_13_0_1 (by first | decide | omega) (by first | decide | omega) (by decide)
              have k489 : Kp h143 h393 (h143 75 13 - 2147483648) := Kp.trans k490 c400 (by first | decide | omega)
              have k488 : Kp h143 h425 (h143 75 13 - 2147483648) := by rw [← e427]; exact Kp.up k489 (by first | decide | omega) (fun i hi => by first | decide | omega)
              have k487 : Kp h143 h433 (h143 75 13 - 2147483648) := by rw [← e435]; exact Kp.up k488 (by first | decide | omega) (fun i hi => by first | decide | omega)
              have k486 : Kp h143 h440 (h143 75 13 - 2147483648) := by rw [← e442]; exact Kp.oth k487 (by decide)
              have k496 : Kp h393 h425 (h393 75 13 - 2147483648) := by rw [← e427]; exact Kp.up Kp.refl (by first | decide | omega) (fun i hi => by first | decide | omega)
              have k495 : Kp h393 h433 (h393 75 13 - 2147483648) := by rw [← e435]; exact Kp.up k496 (by first | decide | omega) (fun i hi => by first | decide | omega)
              have k494 : Kp h393 h440 (h393 75 13 - 2147483648) := by rw [← e442]; exact Kp.oth k495 (by decide)
              have s482 : Seg (sg h440) (h124 75 13 - 2147483648) (u422 + 1) := Seg.bin (Seg.kp s169 k486) (Seg.cast (a' := (h143 75 13 - 2147483648)) (b' := u422) (Seg.kp s415 k494) (by first | decide | omega) (by first | decide | omega)) (show 2147483656 < h440 76 (1152 + 2 * u422) by first | decide | omega) (show h440 76 (1152 + 2 * u422) ≠ 2147483660 by first | decide | omega)
              have s497 : Seg (sg h440) (h 75 13 - 2147483648) (h440 75 13 - 2147483648) := Seg.cast (Seg.kp s482 Kp.refl) (by first | decide | omega) (by first | decide | omega)
              obtain ⟨w498, e499⟩ := Tk.no c13 (by first | decide | omega)
              obtain ⟨w500, e501⟩ := Tk.no c28 (by first | decide | omega)
              obtain ⟨w502, e503⟩ := Tk.no c43 (by first | decide | omega)
              obtain ⟨w504, e505⟩ := Tk.no c130 (by first | decide | omega)
              have w506 : An tB tN (sk tB tN (h 75 7)) := gA_an w500 e499 w498 rfl w502 (Eq.trans e501 e499) w504 (Eq.trans e503 (Eq.trans e501 e499))
              obtain ⟨w507, e508⟩ := Tk.no c184 (by first | decide | omega)
              obtain ⟨w509, e510⟩ := Tk.yes c346 (by first | decide | omega)
              have q511 : h440 75 7 = h433 75 7 := by rw [← e442]; exact x_up_i (by first | decide | omega)
              have q512 : h433 75 7 = h425 75 7 := by rw [← e435]; exact x_up_k (by decide)
              have q513 : h425 75 7 = h393 75 7 := by rw [← e427]; exact x_up_k (by decide)
              refine x_retI (np := 208) (x := 0) (by decide +kernel) (by decide) (Or.inr ⟨by decide +kernel, by first | decide | omega, by first | decide | omega⟩) ⟨_, rfl, (by decide), ?_⟩
              exact ⟨j441, f443, (by first | decide | omega), (fun z => by first | decide | omega), (fun z => by first | decide | omega), (fun z => by first | decide | omega), (fun z => by first | decide | omega), k464, (fun _ => s497), (gA_c2 w506 (c152 5) (Eq.trans e505 (Eq.trans e503 (Eq.trans e501 e499))) (by first | decide | omega) (Or.inr w509) (Eq.trans rfl (Eq.trans e508 rfl)) e510 (c402 5) rfl (by first | decide | omega) (fun z => (congrArg (sk tB tN) (show h393 75 7 = h440 75 7 by first | decide | omega))))⟩
            have q419 : ¬ (v174 = 2147483648) := q419
            exfalso; omega
          have q411 : ¬ (v389 ≠ 2147483648) := q411
          refine x_const (np := 189) (x := 9223372039002259456) (a := 2147483648) (by decide +kernel) (by decide) (by decide) ?_
          have q514 : h393 75 10 = h340 75 10 := jK 0 f395 rg_75_10_0_1 (by first | decide | omega) (by first | decide | omega) (by decide)
          have q515 : h340 75 10 = h178 75 10 := jK 0 f342 rg_75_10_0_1 (by first | decide | omega) (by first | decide | omega) (by decide)
          have q516 : h178 75 10 = h143 75 10 := jK 0 f180 rg_75_10_0_1 (by first | decide | omega) (by first | decide | omega) (by decide)
          have q517 : h143 75 10 = h124 75 10 := jK 0 f145 rg_75_10_0_1 (by first | decide | omega) (by first | decide | omega) (by decide)
          have q518 : h124 75 10 = h37 75 10 := jK 0 f126 rg_75_10_0_1 (by first | decide | omega) (by first | decide | omega) (by decide)
          have q519 : h37 75 10 = h22 75 10 := jK 0 f39 rg_75_10_0_1 (by first | decide | omega) (by first | decide | omega) (by decide)
          have q520 : h22 75 10 = h7 75 10 := jK 0 f24 rg_75_10_0_1 (by first | decide | omega) (by first | decide | omega) (by decide)
          have q521 : h7 75 10 = h 75 10 := jK 0 f9 rg_75_10_0_1 (by first | decide | omega) (by first | decide | omega) (by decide)
          have k529 : Kp h h7 (h 75 13 - 2147483648) := Kp.fr Kp.refl f9 (by first | decide | omega) (by decide)
          have k528 : Kp h h22 (h 75 13 - 2147483648) := Kp.fr k529 f24 (by first | decide | omega) (by decide)
          have k527 : Kp h h37 (h 75 13 - 2147483648) := Kp.fr k528 f39 (by first | decide | omega) (by decide)
          have k526 : Kp h h124 (h 75 13 - 2147483648) := Kp.fr k527 f126 (by first | decide | omega) (by decide)
          have q530 : h124 75 13 = h37 75 13 := jK 0 f126 rg_75_13_0_1 (by first | decide | omega) (by first | decide | omega) (by decide)
          have q531 : h37 75 13 = h22 75 13 := jK 0 f39 rg_75_13_0_1 (by first | decide | omega) (by first | decide | omega) (by decide)
          have q532 : h22 75 13 = h7 75 13 := jK 0 f24 rg_75_13_0_1 (by first | decide | omega) (by first | decide | omega) (by decide)
          have q533 : h7 75 13 = h 75 13 := jK 0 f9 rg_75_13_0_1 (by first | decide | omega) (by first | decide | omega) (by decide)
          have k525 : Kp h h143 (h 75 13 - 2147483648) := Kp.trans k526 c150 (by first | decide | omega)
          have k524 : Kp h h178 (h 75 13 - 2147483648) := Kp.fr k525 f180 (by first | decide | omega) (by decide)
          have k523 : Kp h h340 (h 75 13 - 2147483648) := Kp.fr k524 f342 (by first | decide | omega) (by decide)
          have q534 : h340 75 13 = h178 75 13 := jK 0 f342 rg_75_13_0_1 (by first | decide | omega) (by first | decide | omega) (by decide)
          have q535 : h178 75 13 = h143 75 13 := jK 0 f180 rg_75_13_0_1 (by first | decide | omega) (by first | decide | omega) (by decide)
          have k522 : Kp h h393 (h 75 13 - 2147483648) := Kp.trans k523 c400 (by first | decide | omega)
          obtain ⟨w536, e537⟩ := Tk.no c13 (by first | decide | omega)
          obtain ⟨w538, e539⟩ := Tk.no c28 (by first | decide | omega)
          obtain ⟨w540, e541⟩ := Tk.no c43 (by first | decide | omega)
          obtain ⟨w542, e543⟩ := Tk.no c130 (by first | decide | omega)
          have w544 : An tB tN (sk tB tN (h 75 7)) := gA_an w538 e537 w536 rfl w540 (Eq.trans e539 e537) w542 (Eq.trans e541 (Eq.trans e539 e537))
          obtain ⟨w545, e546⟩ := Tk.no c184 (by first | decide | omega)
          obtain ⟨w547, e548⟩ := Tk.yes c346 (by first | decide | omega)
          refine x_retI (np := 190) (x := 0) (by decide +kernel) (by decide) (Or.inr ⟨by decide +kernel, by first | decide | omega, by first | decide | omega⟩) ⟨_, rfl, (by decide), ?_⟩
          exact ⟨j394, f403, (by first | decide | omega), (fun z => by first | decide | omega), (fun z => by first | decide | omega), (fun z => by first | decide | omega), (fun z => by first | decide | omega), k522, (fun z => absurd z (by first | decide | omega)), (gA_c2 w544 (c152 5) (Eq.trans e543 (Eq.trans e541 (Eq.trans e539 e537))) (by first | decide | omega) (Or.inr w547) (Eq.trans rfl (Eq.trans e546 rfl)) e548 (c402 5) rfl (by first | decide | omega) (fun z => absurd z (by first | decide | omega)))⟩
        have q165 : ¬ (v139 ≠ 2147483648) := q165
        refine x_const (np := 160) (x := 9223372039002259456) (a := 2147483648) (by decide +kernel) (by decide) (by decide) ?_
        have q549 : h143 75 10 = h124 75 10 := jK 0 f145 rg_75_10_0_1 (by first | decide | omega) (by first | decide | omega) (by decide)
        have q550 : h124 75 10 = h37 75 10 := jK 0 f126 rg_75_10_0_1 (by first | decide | omega) (by first | decide | omega) (by decide)
        have q551 : h37 75 10 = h22 75 10 := jK 0 f39 rg_75_10_0_1 (by first | decide | omega) (by first | decide | omega) (by decide)
        have q552 : h22 75 10 = h7 75 10 := jK 0 f24 rg_75_10_0_1 (by first | decide | omega) (by first | decide | omega) (by decide)
        have q553 : h7 75 10 = h 75 10 := jK 0 f9 rg_75_10_0_1 (by first | decide | omega) (by first | decide | omega) (by decide)
        have k558 : Kp h h7 (h 75 13 - 2147483648) := Kp.fr Kp.refl f9 (by first | decide | omega) (by decide)
        have k557 : Kp h h22 (h 75 13 - 2147483648) := Kp.fr k558 f24 (by first | decide | omega) (by decide)
        have k556 : Kp h h37 (h 75 13 - 2147483648) := Kp.fr k557 f39 (by first | decide | omega) (by decide)
        have k555 : Kp h h124 (h 75 13 - 2147483648) := Kp.fr k556 f126 (by first | decide | omega) (by decide)
        have q559 : h124 75 13 = h37 75 13 := jK 0 f126 rg_75_13_0_1 (by first | decide | omega) (by first | decide | omega) (by decide)
        have q560 : h37 75 13 = h22 75 13 := jK 0 f39 rg_75_13_0_1 (by first | decide | omega) (by first | decide | omega) (by decide)
        have q561 : h22 75 13 = h7 75 13 := jK 0 f24 rg_75_13_0_1 (by first | decide | omega) (by first | decide | omega) (by decide)
        have q562 : h7 75 13 = h 75 13 := jK 0 f9 rg_75_13_0_1 (by first | decide | omega) (by first | decide | omega) (by decide)
        have k554 : Kp h h143 (h 75 13 - 2147483648) := Kp.trans k555 c150 (by first | decide | omega)
        obtain ⟨w563, e564⟩ := Tk.no c13 (by first | decide | omega)
        obtain ⟨w565, e566⟩ := Tk.no c28 (by first | decide | omega)
        obtain ⟨w567, e568⟩ := Tk.no c43 (by first | decide | omega)
        obtain ⟨w569, e570⟩ := Tk.no c130 (by first | decide | omega)
        have w571 : An tB tN (sk tB tN (h 75 7)) := gA_an w565 e564 w563 rfl w567 (Eq.trans e566 e564) w569 (Eq.trans e568 (Eq.trans e566 e564))
        refine x_retI (np := 161) (x := 0) (by decide +kernel) (by decide) (Or.inr ⟨by decide +kernel, by first | decide | omega, by first | decide | omega⟩) ⟨_, rfl, (by decide), ?_⟩
        exact ⟨j144, f153, (by first | decide | omega), (fun z => by first | decide | omega), (fun z => by first | decide | omega), (fun z => by first | decide | omega), (fun z => by first | decide | omega), k554, (fun z => absurd z (by first | decide | omega)), (gA_c0 w571 (c152 5) (Eq.trans e570 (Eq.trans e568 (Eq.trans e566 e564))) (by first | decide | omega) (by first | decide | omega))⟩
      have q134 : ¬ (v120 = 2147483648) := q134
      have b572 := c129 (by first | decide | omega)
      refine x_aload (np := 135) (x := 0) (by decide +kernel) rfl (x_nc_le (by decide)) ?_
      refine x_iload (np := 136) (x := 1) (by decide +kernel) rfl l34 ?_
      refine x_ifz (k := 0) (tg := 144) (np := 139) (by decide +kernel) (by decide) l34 (fun q573 => ?_) (fun q574 => ?_)
      · have q573 : v33 = 2147483648 := q573
        refine x_const (np := 146) (x := 9223372069067030535) (a := 2147483655) (by decide +kernel) (by decide) (by decide) ?_
        refine x_const (np := 147) (x := 9223372039002259456) (a := 2147483648) (by decide +kernel) (by decide) (by decide) ?_
        refine x_nV (t := 6) (mj := 187) (n := 3) (rc := 12) (ml := 3) (nr := 0) (np := 150) (as := [x_r 75, iv_c 2147483655, iv_c 2147483648]) (rest := []) (lo1 := [x_r 75, iv_c 2147483655, iv_c 2147483648]) (by decide +kernel) (by decide) (by decide +kernel) (x_rb_of (by decide +kernel)) rfl rfl (x_wr (by decide) (x_wi (by decide) (x_wi (by decide) x_wn))) x_wn (by decide) rfl ?_
        refine x_aload (np := 1) (x := 0) (by decide +kernel) rfl (x_nc_le (by decide)) ?_
        have q575 : h124 75 1 = 76 := by have z := jB (e := 1) 0 j125 rg_75_1_0_1 (by decide) (by decide); omega
        refine x_getR (np := 4) (x := 705) (f := 1) (q := 76) (by decide +kernel) (by decide) (by decide +kernel) q575 ?_
        refine x_const (np := 7) (x := 9223376986804585600) (a := 2147484800) (by decide +kernel) (by decide) (by decide) ?_
        refine x_const (np := 8) (x := 9223372047592194050) (a := 2147483650) (by decide +kernel) (by decide) (by decide) ?_
        refine x_aload (np := 9) (x := 0) (by decide +kernel) rfl (x_nc_le (by decide)) ?_
        have q576 : h124 75 13 = h37 75 13 := jK 0 f126 rg_75_13_0_1 (by first | decide | omega) (by first | decide | omega) (by decide)
        have q577 : h37 75 13 = h22 75 13 := jK 0 f39 rg_75_13_0_1 (by first | decide | omega) (by first | decide | omega) (by decide)
        have q578 : h22 75 13 = h7 75 13 := jK 0 f24 rg_75_13_0_1 (by first | decide | omega) (by first | decide | omega) (by decide)
        have q579 : h7 75 13 = h 75 13 := jK 0 f9 rg_75_13_0_1 (by first | decide | omega) (by first | decide | omega) (by decide)
        refine x_getC (np := 12) (x := 717) (f := 13) (q := (h 75 13)) (by decide +kernel) (by decide) (by decide +kernel) (((q576.trans q577).trans q578).trans q579) (fun l580 => ?_)
        obtain ⟨u581, q582⟩ : ∃ z, (h 75 13) = 2147483648 + z := ⟨(h 75 13) - 2147483648, by first | decide | omega⟩
        refine x_imul (np := 13) (x := 0) (i := 2) (j := u581) (v := (2147483648 + 2 * u581)) (by decide +kernel) (by first | decide | omega) (by first | decide | omega) (by first | decide | omega) (by first | decide | omega) (by decide) l580 ?_
        refine x_iadd (np := 14) (x := 0) (v := (2147484800 + 2 * u581)) (by decide +kernel) (by decide) (by first | decide | omega) (by first | decide | omega) (by first | decide | omega) ?_
        refine x_iload (np := 15) (x := 1) (by decide +kernel) rfl (by decide) ?_
        refine x_ast (np := 16) (x := 0) (kd := 1) (n := 1952) (i := (1152 + 2 * u581)) (by decide +kernel) (Or.inl rfl) (by decide +kernel) (by first | decide | omega) (by first | decide | omega) (by decide) (by decide) (fun z => absurd z (by decide)) ?_
        have j585 := jU (e := (1152 + 2 * u581)) (v := 2147483655) u581 j125 rg_76_1152_2_394 (by first | decide | omega) (by first | decide | omega) (by first | decide | omega)
        have f587 := jF (e := (1152 + 2 * u581)) (v := 2147483655) u581 f131 rg_76_1152_2_394 (by first | decide | omega) (by first | decide | omega) (by decide)
        generalize e586 : x_up h124 76 (1152 + 2 * u581) 2147483655 = h584 at j585 f587 ⊢
        refine x_aload (np := 17) (x := 0) (by decide +kernel) rfl (x_nc_le (by decide)) ?_
        have q588 : h584 75 1 = 76 := by have z := jB (e := 1) 0 j585 rg_75_1_0_1 (by decide) (by decide); omega
        refine x_getR (np := 20) (x := 705) (f := 1) (q := 76) (by decide +kernel) (by decide) (by decide +kernel) q588 ?_
        refine x_const (np := 23) (x := 9223376986804585600) (a := 2147484800) (by decide +kernel) (by decide) (by decide) ?_
        refine x_const (np := 24) (x := 9223372047592194050) (a := 2147483650) (by decide +kernel) (by decide) (by decide) ?_
        refine x_aload (np := 25) (x := 0) (by decide +kernel) rfl (x_nc_le (by decide)) ?_
        have q589 : h584 75 13 = h124 75 13 := by rw [← e586]; exact x_up_k (by decide)
        have q590 : h124 75 13 = h37 75 13 := jK 0 f126 rg_75_13_0_1 (by first | decide | omega) (by first | decide | omega) (by decide)
        have q591 : h37 75 13 = h22 75 13 := jK 0 f39 rg_75_13_0_1 (by first | decide | omega) (by first | decide | omega) (by decide)
        have q592 : h22 75 13 = h7 75 13 := jK 0 f24 rg_75_13_0_1 (by first | decide | omega) (by first | decide | omega) (by decide)
        have q593 : h7 75 13 = h 75 13 := jK 0 f9 rg_75_13_0_1 (by first | decide | omega) (by first | decide | omega) (by decide)
        refine x_getC (np := 28) (x := 717) (f := 13) (q := (h 75 13)) (by decide +kernel) (by decide) (by decide +kernel) ((((q589.trans q590).trans q591).trans q592).trans q593) (fun l594 => ?_)
        refine x_imul (np := 29) (x := 0) (i := 2) (j := u581) (v := (2147483648 + 2 * u581)) (by decide +kernel) (by first | decide | omega) (by first | decide | omega) (by first | decide | omega) (by first | decide | omega) (by decide) l580 ?_
        refine x_iadd (np := 30) (x := 0) (v := (2147484800 + 2 * u581)) (by decide +kernel) (by decide) (by first | decide | omega) (by first | decide | omega) (by first | decide | omega) ?_
        refine x_const (np := 31) (x := 9223372043297226753) (a := 2147483649) (by decide +kernel) (by decide) (by decide) ?_
        refine x_iadd (np := 32) (x := 0) (v := (2147484801 + 2 * u581)) (by decide +kernel) (by first | decide | omega) (by decide) (by first | decide | omega) (by first | decide | omega) ?_
        refine x_iload (np := 33) (x := 2) (by decide +kernel) rfl (by decide) ?_
        refine x_ast (np := 34) (x := 0) (kd := 1) (n := 1952) (i := (1153 + 2 * u581)) (by decide +kernel) (Or.inl rfl) (by decide +kernel) (by first | decide | omega) (by first | decide | omega) (by decide) (by decide) (fun z => absurd z (by decide)) ?_
        have j597 := jU (e := (1153 + 2 * u581)) (v := 2147483648) u581 j585 rg_76_1153_2_394 (by first | decide | omega) (by first | decide | omega) (by first | decide | omega)
        have f599 := jF (e := (1153 + 2 * u581)) (v := 2147483648) u581 f587 rg_76_1153_2_394 (by first | decide | omega) (by first | decide | omega) (by decide)
        generalize e598 : x_up h584 76 (1153 + 2 * u581) 2147483648 = h596 at j597 f599 ⊢
        refine x_aload (np := 35) (x := 0) (by decide +kernel) rfl (x_nc_le (by decide)) ?_
        refine x_dup (np := 36) (x := 0) (by decide +kernel) (by have z := x_nc_le (k := 75) (by decide); unfold x_r; omega) ?_
        have q600 : h596 75 13 = h584 75 13 := by rw [← e598]; exact x_up_k (by decide)
        have q601 : h584 75 13 = h124 75 13 := by rw [← e586]; exact x_up_k (by decide)
        have q602 : h124 75 13 = h37 75 13 := jK 0 f126 rg_75_13_0_1 (by first | decide | omega) (by first | decide | omega) (by decide)
        have q603 : h37 75 13 = h22 75 13 := jK 0 f39 rg_75_13_0_1 (by first | decide | omega) (by first | decide | omega) (by decide)
        have q604 : h22 75 13 = h7 75 13 := jK 0 f24 rg_75_13_0_1 (by first | decide | omega) (by first | decide | omega) (by decide)
        have q605 : h7 75 13 = h 75 13 := jK 0 f9 rg_75_13_0_1 (by first | decide | omega) (by first | decide | omega) (by decide)
        refine x_getC (np := 39) (x := 717) (f := 13) (q := (h 75 13)) (by decide +kernel) (by decide) (by decide +kernel) (((((q600.trans q601).trans q602).trans q603).trans q604).trans q605) (fun l606 => ?_)
        refine x_const (np := 40) (x := 9223372043297226753) (a := 2147483649) (by decide +kernel) (by decide) (by decide) ?_
        refine x_iadd (np := 41) (x := 0) (v := (1 + (h 75 13))) (by decide +kernel) l580 (by decide) (by first | decide | omega) (by first | decide | omega) ?_
        refine x_putI (np := 44) (x := 717) (f := 13) (by decide +kernel) (by decide +kernel) (by first | decide | omega) (Or.inl (by decide)) ?_
        have j608 := jU (e := 13) (v := (1 + (h 75 13))) 0 j597 rg_75_13_0_1 (by first | decide | omega) (by first | decide | omega) (by first | decide | omega)
        have f610 := jF (e := 13) (v := (1 + (h 75 13))) 0 f599 rg_75_13_0_1 (by first | decide | omega) (by first | decide | omega) (by decide)
        generalize e609 : x_up h596 75 13 (1 + (h 75 13)) = h607 at j608 f610 ⊢
        refine x_retV (np := 45) (x := 0) (by decide +kernel) (by decide +kernel) ⟨rfl, ?_⟩
        have q611 : h607 75 13 = (1 + (h 75 13)) := by rw [← e609]; exact x_up_at
        refine x_const (np := 151) (x := 9223372043297226753) (a := 2147483649) (by decide +kernel) (by decide) (by decide) ?_
        have q612 : h607 75 13 = (1 + (h 75 13)) := by rw [← e609]; exact x_up_at
        have q613 : h607 75 7 = h596 75 7 := by rw [← e609]; exact x_up_i (by first | decide | omega)
        have q614 : h596 75 7 = h584 75 7 := by rw [← e598]; exact x_up_k (by decide)
        have q615 : h584 75 7 = h124 75 7 := by rw [← e586]; exact x_up_k (by decide)
        have q616 : h607 75 10 = h596 75 10 := by rw [← e609]; exact x_up_i (by first | decide | omega)
        have q617 : h596 75 10 = h584 75 10 := by rw [← e598]; exact x_up_k (by decide)
        have q618 : h584 75 10 = h124 75 10 := by rw [← e586]; exact x_up_k (by decide)
        have q619 : h124 75 10 = h37 75 10 := jK 0 f126 rg_75_10_0_1 (by first | decide | omega) (by first | decide | omega) (by decide)
        have q620 : h37 75 10 = h22 75 10 := jK 0 f39 rg_75_10_0_1 (by first | decide | omega) (by first | decide | omega) (by decide)
        have q621 : h22 75 10 = h7 75 10 := jK 0 f24 rg_75_10_0_1 (by first | decide | omega) (by first | decide | omega) (by decide)
        have q622 : h7 75 10 = h 75 10 := jK 0 f9 rg_75_10_0_1 (by first | decide | omega) (by first | decide | omega) (by decide)
        have q623 : h607 75 7 = h596 75 7 := by rw [← e609]; exact x_up_i (by first | decide | omega)
        have q624 : h596 75 7 = h584 75 7 := by rw [← e598]; exact x_up_k (by decide)
        have q625 : h584 75 7 = h124 75 7 := by rw [← e586]; exact x_up_k (by decide)
        have q626 : h607 75 13 = (1 + (h 75 13)) := by rw [← e609]; exact x_up_at
        have k633 : Kp h h7 (h 75 13 - 2147483648) := Kp.fr Kp.refl f9 (by first | decide | omega) (by decide)
        have k632 : Kp h h22 (h 75 13 - 2147483648) := Kp.fr k633 f24 (by first | decide | omega) (by decide)
        have k631 : Kp h h37 (h 75 13 - 2147483648) := Kp.fr k632 f39 (by first | decide | omega) (by decide)
        have k630 : Kp h h124 (h 75 13 - 2147483648) := Kp.fr k631 f126 (by first | decide | omega) (by decide)
        have k629 : Kp h h584 (h 75 13 - 2147483648) := by rw [← e586]; exact Kp.up k630 (by first | decide | omega) (fun i hi => by first | decide | omega)
        have k628 : Kp h h596 (h 75 13 - 2147483648) := by rw [← e598]; exact Kp.up k629 (by first | decide | omega) (fun i hi => by first | decide | omega)
        have k627 : Kp h h607 (h 75 13 - 2147483648) := by rw [← e609]; exact Kp.oth k628 (by decide)
        have q634 : h607 75 13 = (1 + (h 75 13)) := by rw [← e609]; exact x_up_at
        have q636 : h607 76 (1152 + 2 * u581) = h596 76 (1152 + 2 * u581) := by rw [← e609]; exact x_up_k (by decide)
        have q637 : h596 76 (1152 + 2 * u581) = h584 76 (1152 + 2 * u581) := by rw [← e598]; exact x_up_i (by first | decide | omega)
        have q638 : h584 76 (1152 + 2 * u581) = 2147483655 := by rw [← e586]; exact x_up_at
        have s635 : Seg (sg h607) u581 (u581 + 1) := Seg.push (show 2147483648 ≤ h607 76 (1152 + 2 * u581) by first | decide | omega) (show h607 76 (1152 + 2 * u581) ≤ 2147483656 by first | decide | omega)
        have s639 : Seg (sg h607) (h 75 13 - 2147483648) (h607 75 13 - 2147483648) := Seg.cast (Seg.kp s635 Kp.refl) (by first | decide | omega) (by first | decide | omega)
        obtain ⟨w640, e641⟩ := Tk.no c13 (by first | decide | omega)
        obtain ⟨w642, e643⟩ := Tk.no c28 (by first | decide | omega)
        obtain ⟨w644, e645⟩ := Tk.no c43 (by first | decide | omega)
        obtain ⟨w646, e647⟩ := Tk.yes c130 (by first | decide | omega)
        have q648 : h607 75 7 = h596 75 7 := by rw [← e609]; exact x_up_i (by first | decide | omega)
        have q649 : h596 75 7 = h584 75 7 := by rw [← e598]; exact x_up_k (by decide)
        have q650 : h584 75 7 = h124 75 7 := by rw [← e586]; exact x_up_k (by decide)
        refine x_retI (np := 152) (x := 0) (by decide +kernel) (by decide) (Or.inr ⟨by decide +kernel, by first | decide | omega, by first | decide | omega⟩) ⟨_, rfl, (by decide), ?_⟩
        exact ⟨j608, f610, (by first | decide | omega), (fun z => by first | decide | omega), (fun z => by first | decide | omega), (fun z => by first | decide | omega), (fun z => by first | decide | omega), k627, (fun _ => s639), (gA_mine w646 (Eq.trans e645 (Eq.trans e643 e641)) e647 (by first | decide | omega) (congrArg (sk tB tN) (show h124 75 7 = h607 75 7 by first | decide | omega)))⟩
      have q574 : ¬ (v33 = 2147483648) := q574
      exfalso; omega
    have q32 : ¬ (v18 = 2147483648) := q32
    have b651 := c27 (by first | decide | omega)
    refine x_aload (np := 66) (x := 0) (by decide +kernel) rfl (x_nc_le (by decide)) ?_
    have q652 : h22 75 10 = h7 75 10 := jK 0 f24 rg_75_10_0_1 (by first | decide | omega) (by first | decide | omega) (by decide)
    have q653 : h7 75 10 = h 75 10 := jK 0 f9 rg_75_10_0_1 (by first | decide | omega) (by first | decide | omega) (by decide)
    refine x_getC (np := 69) (x := 714) (f := 10) (q := (h 75 10)) (by decide +kernel) (by decide) (by decide +kernel) (q652.trans q653) (fun l654 => ?_)
    refine x_const (np := 71) (x := 9223372064772063238) (a := 2147483654) (by decide +kernel) (by decide) (by decide) ?_
    refine x_icmp (k := 1) (tg := 76) (np := 74) (by decide +kernel) (by decide) l654 (by decide) (fun q655 => ?_) (fun q656 => ?_)
    · have q655 : (h 75 10) ≠ 2147483654 := q655
      refine x_aload (np := 77) (x := 0) (by decide +kernel) rfl (x_nc_le (by decide)) ?_
      refine x_dup (np := 78) (x := 0) (by decide +kernel) (by have z := x_nc_le (k := 75) (by decide); unfold x_r; omega) ?_
      have q657 : h22 75 10 = h7 75 10 := jK 0 f24 rg_75_10_0_1 (by first | decide | omega) (by first | decide | omega) (by decide)
      have q658 : h7 75 10 = h 75 10 := jK 0 f9 rg_75_10_0_1 (by first | decide | omega) (by first | decide | omega) (by decide)
      refine x_getC (np := 81) (x := 714) (f := 10) (q := (h 75 10)) (by decide +kernel) (by decide) (by decide +kernel) (q657.trans q658) (fun l659 => ?_)
      refine x_const (np := 82) (x := 9223372043297226753) (a := 2147483649) (by decide +kernel) (by decide) (by decide) ?_
      refine x_iadd (np := 83) (x := 0) (v := (1 + (h 75 10))) (by decide +kernel) l654 (by decide) (by first | decide | omega) (by first | decide | omega) ?_
      refine x_putI (np := 86) (x := 714) (f := 10) (by decide +kernel) (by decide +kernel) (by first | decide | omega) (Or.inl (by decide)) ?_
      have j661 := jU (e := 10) (v := (1 + (h 75 10))) 0 j23 rg_75_10_0_1 (by first | decide | omega) (by first | decide | omega) (by first | decide | omega)
      have f663 := jF (e := 10) (v := (1 + (h 75 10))) 0 f29 rg_75_10_0_1 (by first | decide | omega) (by first | decide | omega) (by decide)
      generalize e662 : x_up h22 75 10 (1 + (h 75 10)) = h660 at j661 f663 ⊢
      refine x_aload (np := 87) (x := 0) (by decide +kernel) rfl (x_nc_le (by decide)) ?_
      have q664 : h660 75 10 = (1 + (h 75 10)) := by rw [← e662]; exact x_up_at
      have q665 : h660 75 13 = h22 75 13 := by rw [← e662]; exact x_up_i (by first | decide | omega)
      have q666 : h22 75 13 = h7 75 13 := jK 0 f24 rg_75_13_0_1 (by first | decide | omega) (by first | decide | omega) (by decide)
      have q667 : h7 75 13 = h 75 13 := jK 0 f9 rg_75_13_0_1 (by first | decide | omega) (by first | decide | omega) (by decide)
      have q668 : h660 75 7 = h22 75 7 := by rw [← e662]; exact x_up_i (by first | decide | omega)
      have q669 : h660 75 10 = (1 + (h 75 10)) := by rw [← e662]; exact x_up_at
      have m674 := Tq.fr m21 f24 (by decide) (by decide)
      have m673 : Tq tB tN h660 := by rw [← e662]; exact Tq.oth m674 (by decide) (by decide)
      refine x_cI (t := 6) (mj := 190) (n := 1) (rc := 12) (ml := 3) (nr := 0) (np := 90) (as := [x_r 75]) (rest := []) (lo1 := [x_r 75, 147573952589676412928, 147573952589676412928]) (by decide +kernel) (by decide) (by decide +kernel) (x_rb_of (by decide +kernel)) rfl rfl (x_wr (by decide) x_wn) x_wn (by decide) rfl (c190_75_D6 j661  (by first | decide | omega) (by first | decide | omega) m673) (fun v670 h675 l671 q672 => ?_)
      obtain ⟨j676, f677, b678, c679, c680, c681, c682, c683, c684, c685⟩ := q672
      have f686 := Fr.trans f663 f677 (by decide)
      have q687 : h660 75 13 = h22 75 13 := by rw [← e662]; exact x_up_i (by first | decide | omega)
      have q688 : h22 75 13 = h7 75 13 := jK 0 f24 rg_75_13_0_1 (by first | decide | omega) (by first | decide | omega) (by decide)
      have q689 : h7 75 13 = h 75 13 := jK 0 f9 rg_75_13_0_1 (by first | decide | omega) (by first | decide | omega) (by decide)
      have b690 := jB (e := 13) 0 j676 rg_75_13_0_1 (by first | decide | omega) (by first | decide | omega)
      have q691 : h660 75 7 = h22 75 7 := by rw [← e662]; exact x_up_i (by first | decide | omega)
      have b692 := jB (e := 7) 0 j676 rg_75_7_0_1 (by first | decide | omega) (by first | decide | omega)
      have q693 : h660 75 10 = (1 + (h 75 10)) := by rw [← e662]; exact x_up_at
      have q694 : h675 75 10 = h660 75 10 := jK 0 f677 rg_75_10_0_1 (by first | decide | omega) (by first | decide | omega) (by decide)
      have q695 : h660 75 10 = (1 + (h 75 10)) := by rw [← e662]; exact x_up_at
      have q696 : h660 75 7 = h22 75 7 := by rw [← e662]; exact x_up_i (by first | decide | omega)
      have q697 : h660 75 13 = h22 75 13 := by rw [← e662]; exact x_up_i (by first | decide | omega)
      have q698 : h22 75 13 = h7 75 13 := jK 0 f24 rg_75_13_0_1 (by first | decide | omega) (by first | decide | omega) (by decide)
      have q699 : h7 75 13 = h 75 13 := jK 0 f9 rg_75_13_0_1 (by first | decide | omega) (by first | decide | omega) (by decide)
      refine x_ifz (k := 1) (tg := 95) (np := 93) (by decide +kernel) (by decide) l671 (fun q700 => ?_) (fun q701 => ?_)
      · have q700 : v670 ≠ 2147483648 := q700
        have b702 := c679 (by first | decide | omega)
        have b703 := c680 (by first | decide | omega)
        have b704 := c681 (by first | decide | omega)
        have b705 := c682 (by first | decide | omega)
        have s706 := c684 (by first | decide | omega)
        have q707 : h660 75 13 = h22 75 13 := by rw [← e662]; exact x_up_i (by first | decide | omega)
        have q708 : h22 75 13 = h7 75 13 := jK 0 f24 rg_75_13_0_1 (by first | decide | omega) (by first | decide | omega) (by decide)
        have q709 : h7 75 13 = h 75 13 := jK 0 f9 rg_75_13_0_1 (by first | decide | omega) (by first | decide | omega) (by decide)
        refine x_aload (np := 96) (x := 0) (by decide +kernel) rfl (x_nc_le (by decide)) ?_
        refine x_dup (np := 97) (x := 0) (by decide +kernel) (by have z := x_nc_le (k := 75) (by decide); unfold x_r; omega) ?_
        have q710 : h675 75 10 = h660 75 10 := jK 0 f677 rg_75_10_0_1 (by first | decide | omega) (by first | decide | omega) (by decide)
        have q711 : h660 75 10 = (1 + (h 75 10)) := by rw [← e662]; exact x_up_at
        refine x_getC (np := 100) (x := 714) (f := 10) (q := (1 + (h 75 10))) (by decide +kernel) (by decide) (by decide +kernel) (q710.trans q711) (fun l712 => ?_)
        refine x_const (np := 101) (x := 9223372043297226753) (a := 2147483649) (by decide +kernel) (by decide) (by decide) ?_
        refine x_isub (np := 102) (x := 0) (v := (h 75 10)) (by decide +kernel) (by first | decide | omega) (by decide) (by first | decide | omega) (by first | decide | omega) ?_
        refine x_putI (np := 105) (x := 714) (f := 10) (by decide +kernel) (by decide +kernel) l654 (Or.inl (by decide)) ?_
        have j714 := jU (e := 10) (v := (h 75 10)) 0 j676 rg_75_10_0_1 (by first | decide | omega) (by first | decide | omega) (by first | decide | omega)
        have f716 := jF (e := 10) (v := (h 75 10)) 0 f686 rg_75_10_0_1 (by first | decide | omega) (by first | decide | omega) (by decide)
        generalize e715 : x_up h675 75 10 (h 75 10) = h713 at j714 f716 ⊢
        refine x_aload (np := 106) (x := 0) (by decide +kernel) rfl (x_nc_le (by decide)) ?_
        refine x_const (np := 108) (x := 9223372090541867020) (a := 2147483660) (by decide +kernel) (by decide) (by decide) ?_
        refine x_const (np := 109) (x := 9223372039002259456) (a := 2147483648) (by decide +kernel) (by decide) (by decide) ?_
        refine x_nV (t := 6) (mj := 187) (n := 3) (rc := 12) (ml := 3) (nr := 0) (np := 112) (as := [x_r 75, iv_c 2147483660, iv_c 2147483648]) (rest := []) (lo1 := [x_r 75, iv_c 2147483660, iv_c 2147483648]) (by decide +kernel) (by decide) (by decide +kernel) (x_rb_of (by decide +kernel)) rfl rfl (x_wr (by decide) (x_wi (by decide) (x_wi (by decide) x_wn))) x_wn (by decide) rfl ?_
        refine x_aload (np := 1) (x := 0) (by decide +kernel) rfl (x_nc_le (by decide)) ?_
        have q717 : h713 75 1 = 76 := by have z := jB (e := 1) 0 j714 rg_75_1_0_1 (by decide) (by decide); omega
        refine x_getR (np := 4) (x := 705) (f := 1) (q := 76) (by decide +kernel) (by decide) (by decide +kernel) q717 ?_
        refine x_const (np := 7) (x := 9223376986804585600) (a := 2147484800) (by decide +kernel) (by decide) (by decide) ?_
        refine x_const (np := 8) (x := 9223372047592194050) (a := 2147483650) (by decide +kernel) (by decide) (by decide) ?_
        refine x_aload (np := 9) (x := 0) (by decide +kernel) rfl (x_nc_le (by decide)) ?_
        have q718 : h713 75 13 = h675 75 13 := by rw [← e715]; exact x_up_i (by first | decide | omega)
        refine x_getC (np := 12) (x := 717) (f := 13) (q := (h675 75 13)) (by decide +kernel) (by decide) (by decide +kernel) q718 (fun l719 => ?_)
        obtain ⟨u720, q721⟩ : ∃ z, (h675 75 13) = 2147483648 + z := ⟨(h675 75 13) - 2147483648, by first | decide | omega⟩
        refine x_imul (np := 13) (x := 0) (i := 2) (j := u720) (v := (2147483648 + 2 * u720)) (by decide +kernel) (by first | decide | omega) (by first | decide | omega) (by first | decide | omega) (by first | decide | omega) (by decide) l719 ?_
        refine x_iadd (np := 14) (x := 0) (v := (2147484800 + 2 * u720)) (by decide +kernel) (by decide) (by first | decide | omega) (by first | decide | omega) (by first | decide | omega) ?_
        refine x_iload (np := 15) (x := 1) (by decide +kernel) rfl (by decide) ?_
        refine x_ast (np := 16) (x := 0) (kd := 1) (n := 1952) (i := (1152 + 2 * u720)) (by decide +kernel) (Or.inl rfl) (by decide +kernel) (by first | decide | omega) (by first | decide | omega) (by decide) (by decide) (fun z => absurd z (by decide)) ?_
        have j724 := jU (e := (1152 + 2 * u720)) (v := 2147483660) u720 j714 rg_76_1152_2_394 (by first | decide | omega) (by first | decide | omega) (by first | decide | omega)
        have f726 := jF (e := (1152 + 2 * u720)) (v := 2147483660) u720 f716 rg_76_1152_2_394 (by first | decide | omega) (by first | decide | omega) (by decide)
        generalize e725 : x_up h713 76 (1152 + 2 * u720) 2147483660 = h723 at j724 f726 ⊢
        refine x_aload (np := 17) (x := 0) (by decide +kernel) rfl (x_nc_le (by decide)) ?_
        have q727 : h723 75 1 = 76 := by have z := jB (e := 1) 0 j724 rg_75_1_0_1 (by decide) (by decide); omega
        refine x_getR (np := 20) (x := 705) (f := 1) (q := 76) (by decide +kernel) (by decide) (by decide +kernel) q727 ?_
        refine x_const (np := 23) (x := 9223376986804585600) (a := 2147484800) (by decide +kernel) (by decide) (by decide) ?_
        refine x_const (np := 24) (x := 9223372047592194050) (a := 2147483650) (by decide +kernel) (by decide) (by decide) ?_
        refine x_aload (np := 25) (x := 0) (by decide +kernel) rfl (x_nc_le (by decide)) ?_
        have q728 : h723 75 13 = h713 75 13 := by rw [← e725]; exact x_up_k (by decide)
        have q729 : h713 75 13 = h675 75 13 := by rw [← e715]; exact x_up_i (by first | decide | omega)
        refine x_getC (np := 28) (x := 717) (f := 13) (q := (h675 75 13)) (by decide +kernel) (by decide) (by decide +kernel) (q728.trans q729) (fun l730 => ?_)
        refine x_imul (np := 29) (x := 0) (i := 2) (j := u720) (v := (2147483648 + 2 * u720)) (by decide +kernel) (by first | decide | omega) (by first | decide | omega) (by first | decide | omega) (by first | decide | omega) (by decide) l719 ?_
        refine x_iadd (np := 30) (x := 0) (v := (2147484800 + 2 * u720)) (by decide +kernel) (by decide) (by first | decide | omega) (by first | decide | omega) (by first | decide | omega) ?_
        refine x_const (np := 31) (x := 9223372043297226753) (a := 2147483649) (by decide +kernel) (by decide) (by decide) ?_
        refine x_iadd (np := 32) (x := 0) (v := (2147484801 + 2 * u720)) (by decide +kernel) (by first | decide | omega) (by decide) (by first | decide | omega) (by first | decide | omega) ?_
        refine x_iload (np := 33) (x := 2) (by decide +kernel) rfl (by decide) ?_
        refine x_ast (np := 34) (x := 0) (kd := 1) (n := 1952) (i := (1153 + 2 * u720)) (by decide +kernel) (Or.inl rfl) (by decide +kernel) (by first | decide | omega) (by first | decide | omega) (by decide) (by decide) (fun z => absurd z (by decide)) ?_
        have j733 := jU (e := (1153 + 2 * u720)) (v := 2147483648) u720 j724 rg_76_1153_2_394 (by first | decide | omega) (by first | decide | omega) (by first | decide | omega)
        have f735 := jF (e := (1153 + 2 * u720)) (v := 2147483648) u720 f726 rg_76_1153_2_394 (by first | decide | omega) (by first | decide | omega) (by decide)
        generalize e734 : x_up h723 76 (1153 + 2 * u720) 2147483648 = h732 at j733 f735 ⊢
        refine x_aload (np := 35) (x := 0) (by decide +kernel) rfl (x_nc_le (by decide)) ?_
        refine x_dup (np := 36) (x := 0) (by decide +kernel) (by have z := x_nc_le (k := 75) (by decide); unfold x_r; omega) ?_
        have q736 : h732 75 13 = h723 75 13 := by rw [← e734]; exact x_up_k (by decide)
        have q737 : h723 75 13 = h713 75 13 := by rw [← e725]; exact x_up_k (by decide)
        have q738 : h713 75 13 = h675 75 13 := by rw [← e715]; exact x_up_i (by first | decide | omega)
        refine x_getC (np := 39) (x := 717) (f := 13) (q := (h675 75 13)) (by decide +kernel) (by decide) (by decide +kernel) ((q736.trans q737).trans q738) (fun l739 => ?_)
        refine x_const (np := 40) (x := 9223372043297226753) (a := 2147483649) (by decide +kernel) (by decide) (by decide) ?_
        refine x_iadd (np := 41) (x := 0) (v := (1 + (h675 75 13))) (by decide +kernel) l719 (by decide) (by first | decide | omega) (by first | decide | omega) ?_
        refine x_putI (np := 44) (x := 717) (f := 13) (by decide +kernel) (by decide +kernel) (by first | decide | omega) (Or.inl (by decide)) ?_
        have j741 := jU (e := 13) (v := (1 + (h675 75 13))) 0 j733 rg_75_13_0_1 (by first | decide | omega) (by first | decide | omega) (by first | decide | omega)
        have f743 := jF (e := 13) (v := (1 + (h675 75 13))) 0 f735 rg_75_13_0_1 (by first | decide | omega) (by first | decide | omega) (by decide)
        generalize e742 : x_up h732 75 13 (1 + (h675 75 13)) = h740 at j741 f743 ⊢
        refine x_retV (np := 45) (x := 0) (by decide +kernel) (by decide +kernel) ⟨rfl, ?_⟩
        have q744 : h740 75 13 = (1 + (h675 75 13)) := by rw [← e742]; exact x_up_at
        refine x_const (np := 113) (x := 9223372043297226753) (a := 2147483649) (by decide +kernel) (by decide) (by decide) ?_
        have q745 : h740 75 13 = (1 + (h675 75 13)) := by rw [← e742]; exact x_up_at
        have q746 : h740 75 7 = h732 75 7 := by rw [← e742]; exact x_up_i (by first | decide | omega)
        have q747 : h732 75 7 = h723 75 7 := by rw [← e734]; exact x_up_k (by decide)
        have q748 : h723 75 7 = h713 75 7 := by rw [← e725]; exact x_up_k (by decide)
        have q749 : h713 75 7 = h675 75 7 := by rw [← e715]; exact x_up_i (by first | decide | omega)
        have q750 : h740 75 10 = h732 75 10 := by rw [← e742]; exact x_up_i (by first | decide | omega)
        have q751 : h732 75 10 = h723 75 10 := by rw [← e734]; exact x_up_k (by decide)
        have q752 : h723 75 10 = h713 75 10 := by rw [← e725]; exact x_up_k (by decide)
        have q753 : h713 75 10 = (h 75 10) := by rw [← e715]; exact x_up_at
        have q754 : h740 75 7 = h732 75 7 := by rw [← e742]; exact x_up_i (by first | decide | omega)
        have q755 : h732 75 7 = h723 75 7 := by rw [← e734]; exact x_up_k (by decide)
        have q756 : h723 75 7 = h713 75 7 := by rw [← e725]; exact x_up_k (by decide)
        have q757 : h713 75 7 = h675 75 7 := by rw [← e715]; exact x_up_i (by first | decide | omega)
        have q758 : h740 75 13 = (1 + (h675 75 13)) := by rw [← e742]; exact x_up_at
        have k766 : Kp h h7 (h 75 13 - 2147483648) := Kp.fr Kp.refl f9 (by first | decide | omega) (by decide)
        have k765 : Kp h h22 (h 75 13 - 2147483648) := Kp.fr k766 f24 (by first | decide | omega) (by decide)
        have k764 : Kp h h660 (h 75 13 - 2147483648) := by rw [← e662]; exact Kp.oth k765 (by decide)
        have q767 : h660 75 13 = h22 75 13 := by rw [← e662]; exact x_up_i (by first | decide | omega)
        have q768 : h22 75 13 = h7 75 13 := jK 0 f24 rg_75_13_0_1 (by first | decide | omega) (by first | decide | omega) (by decide)
        have q769 : h7 75 13 = h 75 13 := jK 0 f9 rg_75_13_0_1 (by first | decide | omega) (by first | decide | omega) (by decide)
        have k763 : Kp h h675 (h 75 13 - 2147483648) := Kp.trans k764 c683 (by first | decide | omega)
        have k762 : Kp h h713 (h 75 13 - 2147483648) := by rw [← e715]; exact Kp.oth k763 (by decide)
        have k761 : Kp h h723 (h 75 13 - 2147483648) := by rw [← e725]; exact Kp.up k762 (by first | decide | omega) (fun i hi => by first | decide | omega)
        have k760 : Kp h h732 (h 75 13 - 2147483648) := by rw [← e734]; exact Kp.up k761 (by first | decide | omega) (fun i hi => by first | decide | omega)
        have k759 : Kp h h740 (h 75 13 - 2147483648) := by rw [← e742]; exact Kp.oth k760 (by decide)
        have q770 : h740 75 13 = (1 + (h675 75 13)) := by rw [← e742]; exact x_up_at
        have q772 : h740 76 (1152 + 2 * u720) = h732 76 (1152 + 2 * u720) := by rw [← e742]; exact x_up_k (by decide)
        have q773 : h732 76 (1152 + 2 * u720) = h723 76 (1152 + 2 * u720) := by rw [← e734]; exact x_up_i (by first | decide | omega)
        have q774 : h723 76 (1152 + 2 * u720) = 2147483660 := by rw [← e725]; exact x_up_at
        have k778 : Kp h675 h713 (h675 75 13 - 2147483648) := by rw [← e715]; exact Kp.oth Kp.refl (by decide)
        have k777 : Kp h675 h723 (h675 75 13 - 2147483648) := by rw [← e725]; exact Kp.up k778 (by first | decide | omega) (fun i hi => by first | decide | omega)
        have k776 : Kp h675 h732 (h675 75 13 - 2147483648) := by rw [← e734]; exact Kp.up k777 (by first | decide | omega) (fun i hi => by first | decide | omega)
        have k775 : Kp h675 h740 (h675 75 13 - 2147483648) := by rw [← e742]; exact Kp.oth k776 (by decide)
        have s771 : Seg (sg h740) (h660 75 13 - 2147483648) (u720 + 1) := Seg.not (Seg.cast (a' := (h660 75 13 - 2147483648)) (b' := u720) (Seg.kp s706 k775) rfl (by first | decide | omega)) (show h740 76 (1152 + 2 * u720) = 2147483660 by first | decide | omega)
        have s779 : Seg (sg h740) (h 75 13 - 2147483648) (h740 75 13 - 2147483648) := Seg.cast (Seg.kp s771 Kp.refl) (by first | decide | omega) (by first | decide | omega)
        obtain ⟨w780, e781⟩ := Tk.no c13 (by first | decide | omega)
        obtain ⟨w782, e783⟩ := Tk.yes c28 (by first | decide | omega)
        have q784 : h660 75 7 = h22 75 7 := by rw [← e662]; exact x_up_i (by first | decide | omega)
        have q785 : h740 75 7 = h732 75 7 := by rw [← e742]; exact x_up_i (by first | decide | omega)
        have q786 : h732 75 7 = h723 75 7 := by rw [← e734]; exact x_up_k (by decide)
        have q787 : h723 75 7 = h713 75 7 := by rw [← e725]; exact x_up_k (by decide)
        have q788 : h713 75 7 = h675 75 7 := by rw [← e715]; exact x_up_i (by first | decide | omega)
        refine x_retI (np := 114) (x := 0) (by decide +kernel) (by decide) (Or.inr ⟨by decide +kernel, by first | decide | omega, by first | decide | omega⟩) ⟨_, rfl, (by decide), ?_⟩
        exact ⟨j741, f743, (by first | decide | omega), (fun z => by first | decide | omega), (fun z => by first | decide | omega), (fun z => by first | decide | omega), (fun z => by first | decide | omega), k759, (fun _ => s779), (gA_not w782 e781 e783 (by decide) c685 (congrArg (sk tB tN) (show h660 75 7 = h22 75 7 by first | decide | omega)) (by first | decide | omega) (fun z => (congrArg (sk tB tN) (show h675 75 7 = h740 75 7 by first | decide | omega))))⟩
      have q701 : ¬ (v670 ≠ 2147483648) := q701
      refine x_const (np := 94) (x := 9223372039002259456) (a := 2147483648) (by decide +kernel) (by decide) (by decide) ?_
      have q789 : h675 75 10 = h660 75 10 := jK 0 f677 rg_75_10_0_1 (by first | decide | omega) (by first | decide | omega) (by decide)
      have q790 : h660 75 10 = (1 + (h 75 10)) := by rw [← e662]; exact x_up_at
      have k794 : Kp h h7 (h 75 13 - 2147483648) := Kp.fr Kp.refl f9 (by first | decide | omega) (by decide)
      have k793 : Kp h h22 (h 75 13 - 2147483648) := Kp.fr k794 f24 (by first | decide | omega) (by decide)
      have k792 : Kp h h660 (h 75 13 - 2147483648) := by rw [← e662]; exact Kp.oth k793 (by decide)
      have q795 : h660 75 13 = h22 75 13 := by rw [← e662]; exact x_up_i (by first | decide | omega)
      have q796 : h22 75 13 = h7 75 13 := jK 0 f24 rg_75_13_0_1 (by first | decide | omega) (by first | decide | omega) (by decide)
      have q797 : h7 75 13 = h 75 13 := jK 0 f9 rg_75_13_0_1 (by first | decide | omega) (by first | decide | omega) (by decide)
      have k791 : Kp h h675 (h 75 13 - 2147483648) := Kp.trans k792 c683 (by first | decide | omega)
      obtain ⟨w798, e799⟩ := Tk.no c13 (by first | decide | omega)
      obtain ⟨w800, e801⟩ := Tk.yes c28 (by first | decide | omega)
      have q802 : h660 75 7 = h22 75 7 := by rw [← e662]; exact x_up_i (by first | decide | omega)
      refine x_retI (np := 95) (x := 0) (by decide +kernel) (by decide) (Or.inr ⟨by decide +kernel, by first | decide | omega, by first | decide | omega⟩) ⟨_, rfl, (by decide), ?_⟩
      exact ⟨j676, f686, (by first | decide | omega), (fun z => by first | decide | omega), (fun z => by first | decide | omega), (fun z => by first | decide | omega), (fun z => by first | decide | omega), k791, (fun z => absurd z (by first | decide | omega)), (gA_not w800 e799 e801 (by decide) c685 (congrArg (sk tB tN) (show h660 75 7 = h22 75 7 by first | decide | omega)) (by first | decide | omega) (fun z => absurd z (by first | decide | omega)))⟩
    have q656 : ¬ ((h 75 10) ≠ 2147483654) := q656
    exfalso; omega
  have q17 : ¬ (v4 = 2147483648) := q17
  have b803 := c12 (by first | decide | omega)
  refine x_aload (np := 10) (x := 0) (by decide +kernel) rfl (x_nc_le (by decide)) ?_
  have q804 : h7 75 10 = h 75 10 := jK 0 f9 rg_75_10_0_1 (by first | decide | omega) (by first | decide | omega) (by decide)
  refine x_getC (np := 13) (x := 714) (f := 10) (q := (h 75 10)) (by decide +kernel) (by decide) (by decide +kernel) q804 (fun l805 => ?_)
  refine x_const (np := 15) (x := 9223372064772063238) (a := 2147483654) (by decide +kernel) (by decide) (by decide) ?_
  refine x_icmp (k := 1) (tg := 20) (np := 18) (by decide +kernel) (by decide) l805 (by decide) (fun q806 => ?_) (fun q807 => ?_)
  · have q806 : (h 75 10) ≠ 2147483654 := q806
    refine x_aload (np := 21) (x := 0) (by decide +kernel) rfl (x_nc_le (by decide)) ?_
    refine x_dup (np := 22) (x := 0) (by decide +kernel) (by have z := x_nc_le (k := 75) (by decide); unfold x_r; omega) ?_
    have q808 : h7 75 10 = h 75 10 := jK 0 f9 rg_75_10_0_1 (by first | decide | omega) (by first | decide | omega) (by decide)
    refine x_getC (np := 25) (x := 714) (f := 10) (q := (h 75 10)) (by decide +kernel) (by decide) (by decide +kernel) q808 (fun l809 => ?_)
    refine x_const (np := 26) (x := 9223372043297226753) (a := 2147483649) (by decide +kernel) (by decide) (by decide) ?_
    refine x_iadd (np := 27) (x := 0) (v := (1 + (h 75 10))) (by decide +kernel) l805 (by decide) (by first | decide | omega) (by first | decide | omega) ?_
    refine x_putI (np := 30) (x := 714) (f := 10) (by decide +kernel) (by decide +kernel) (by first | decide | omega) (Or.inl (by decide)) ?_
    have j811 := jU (e := 10) (v := (1 + (h 75 10))) 0 j8 rg_75_10_0_1 (by first | decide | omega) (by first | decide | omega) (by first | decide | omega)
    have f813 := jF (e := 10) (v := (1 + (h 75 10))) 0 f14 rg_75_10_0_1 (by first | decide | omega) (by first | decide | omega) (by decide)
    generalize e812 : x_up h7 75 10 (1 + (h 75 10)) = h810 at j811 f813 ⊢
    refine x_aload (np := 31) (x := 0) (by decide +kernel) rfl (x_nc_le (by decide)) ?_
    have q814 : h810 75 10 = (1 + (h 75 10)) := by rw [← e812]; exact x_up_at
    have q815 : h810 75 13 = h7 75 13 := by rw [← e812]; exact x_up_i (by first | decide | omega)
    have q816 : h7 75 13 = h 75 13 := jK 0 f9 rg_75_13_0_1 (by first | decide | omega) (by first | decide | omega) (by decide)
    have q817 : h810 75 7 = h7 75 7 := by rw [← e812]; exact x_up_i (by first | decide | omega)
    have q818 : h810 75 10 = (1 + (h 75 10)) := by rw [← e812]; exact x_up_at
    have m823 := Tq.fr hT f9 (by decide) (by decide)
    have m822 : Tq tB tN h810 := by rw [← e812]; exact Tq.oth m823 (by decide) (by decide)
    refine x_cI (t := 6) (mj := 192) (n := 1) (rc := 12) (ml := 1) (nr := 0) (np := 34) (as := [x_r 75]) (rest := []) (lo1 := [x_r 75]) (by decide +kernel) (by decide) (by decide +kernel) (x_rb_of (by decide +kernel)) rfl rfl (x_wr (by decide) x_wn) x_wn (by decide) rfl (c192_75_D6 j811  (by first | decide | omega) (by first | decide | omega) m822) (fun v819 h824 l820 q821 => ?_)
    obtain ⟨j825, f826, b827, c828, c829, c830, c831, c832, c833, c834⟩ := q821
    have f835 := Fr.trans f813 f826 (by decide)
    have q836 : h810 75 13 = h7 75 13 := by rw [← e812]; exact x_up_i (by first | decide | omega)
    have q837 : h7 75 13 = h 75 13 := jK 0 f9 rg_75_13_0_1 (by first | decide | omega) (by first | decide | omega) (by decide)
    have b838 := jB (e := 13) 0 j825 rg_75_13_0_1 (by first | decide | omega) (by first | decide | omega)
    have q839 : h810 75 7 = h7 75 7 := by rw [← e812]; exact x_up_i (by first | decide | omega)
    have b840 := jB (e := 7) 0 j825 rg_75_7_0_1 (by first | decide | omega) (by first | decide | omega)
    have q841 : h810 75 10 = (1 + (h 75 10)) := by rw [← e812]; exact x_up_at
    have q842 : h824 75 10 = h810 75 10 := jK 0 f826 rg_75_10_0_1 (by first | decide | omega) (by first | decide | omega) (by decide)
    have q843 : h810 75 10 = (1 + (h 75 10)) := by rw [← e812]; exact x_up_at
    have q844 : h810 75 7 = h7 75 7 := by rw [← e812]; exact x_up_i (by first | decide | omega)
    have q845 : h810 75 13 = h7 75 13 := by rw [← e812]; exact x_up_i (by first | decide | omega)
    have q846 : h7 75 13 = h 75 13 := jK 0 f9 rg_75_13_0_1 (by first | decide | omega) (by first | decide | omega) (by decide)
    refine x_ifz (k := 1) (tg := 39) (np := 37) (by decide +kernel) (by decide) l820 (fun q847 => ?_) (fun q848 => ?_)
    · have q847 : v819 ≠ 2147483648 := q847
      have b849 := c828 (by first | decide | omega)
      have b850 := c829 (by first | decide | omega)
      have b851 := c830 (by first | decide | omega)
      have b852 := c831 (by first | decide | omega)
      have s853 := c833 (by first | decide | omega)
      have q854 : h810 75 13 = h7 75 13 := by rw [← e812]; exact x_up_i (by first | decide | omega)
      have q855 : h7 75 13 = h 75 13 := jK 0 f9 rg_75_13_0_1 (by first | decide | omega) (by first | decide | omega) (by decide)
      refine x_aload (np := 40) (x := 0) (by decide +kernel) rfl (x_nc_le (by decide)) ?_
      refine x_dup (np := 41) (x := 0) (by decide +kernel) (by have z := x_nc_le (k := 75) (by decide); unfold x_r; omega) ?_
      have q856 : h824 75 10 = h810 75 10 := jK 0 f826 rg_75_10_0_1 (by first | decide | omega) (by first | decide | omega) (by decide)
      have q857 : h810 75 10 = (1 + (h 75 10)) := by rw [← e812]; exact x_up_at
      refine x_getC (np := 44) (x := 714) (f := 10) (q := (1 + (h 75 10))) (by decide +kernel) (by decide) (by decide +kernel) (q856.trans q857) (fun l858 => ?_)
      refine x_const (np := 45) (x := 9223372043297226753) (a := 2147483649) (by decide +kernel) (by decide) (by decide) ?_
      refine x_isub (np := 46) (x := 0) (v := (h 75 10)) (by decide +kernel) (by first | decide | omega) (by decide) (by first | decide | omega) (by first | decide | omega) ?_
      refine x_putI (np := 49) (x := 714) (f := 10) (by decide +kernel) (by decide +kernel) l805 (Or.inl (by decide)) ?_
      have j860 := jU (e := 10) (v := (h 75 10)) 0 j825 rg_75_10_0_1 (by first | decide | omega) (by first | decide | omega) (by first | decide | omega)
      have f862 := jF (e := 10) (v := (h 75 10)) 0 f835 rg_75_10_0_1 (by first | decide | omega) (by first | decide | omega) (by decide)
      generalize e861 : x_up h824 75 10 (h 75 10) = h859 at j860 f862 ⊢
      refine x_aload (np := 50) (x := 0) (by decide +kernel) rfl (x_nc_le (by decide)) ?_
      refine x_const (np := 52) (x := 9223372215095918633) (a := 2147483689) (by decide +kernel) (by decide) (by decide) ?_
      have m867 := Tq.fr m822 f826 (by decide) (by decide)
      have m866 : Tq tB tN h859 := by rw [← e861]; exact Tq.oth m867 (by decide) (by decide)
      refine x_cI (t := 6) (mj := 173) (n := 2) (rc := 12) (ml := 2) (nr := 0) (np := 55) (as := [x_r 75, iv_c 2147483689]) (rest := []) (lo1 := [x_r 75, iv_c 2147483689]) (by decide +kernel) (by decide) (by decide +kernel) (x_rb_of (by decide +kernel)) rfl rfl (x_wr (by decide) (x_wi (by decide) x_wn)) x_wn (by decide) rfl (c173_75 j860  (by first | decide | omega) m866) (fun v863 h868 l864 q865 => ?_)
      obtain ⟨j869, f870, b871, c872, c873, c874⟩ := q865
      have f875 := Fr.trans f862 f870 (by decide)
      have q876 : h859 75 7 = h824 75 7 := by rw [← e861]; exact x_up_i (by first | decide | omega)
      have b877 := jB (e := 7) 0 j869 rg_75_7_0_1 (by first | decide | omega) (by first | decide | omega)
      have q878 : h859 75 7 = h824 75 7 := by rw [← e861]; exact x_up_i (by first | decide | omega)
      have q879 : h868 75 13 = h859 75 13 := jK 0 f870 rg_75_13_0_1 (by first | decide | omega) (by first | decide | omega) (by decide)
      have q880 : h859 75 13 = h824 75 13 := by rw [← e861]; exact x_up_i (by first | decide | omega)
      have q881 : h868 75 10 = h859 75 10 := jK 0 f870 rg_75_10_0_1 (by first | decide | omega) (by first | decide | omega) (by decide)
      have q882 : h859 75 10 = (h 75 10) := by rw [← e861]; exact x_up_at
      have q883 : h868 75 13 = h859 75 13 := jK 0 f870 rg_75_13_0_1 (by first | decide | omega) (by first | decide | omega) (by decide)
      have q884 : h859 75 13 = h824 75 13 := by rw [← e861]; exact x_up_i (by first | decide | omega)
      have k889 : Kp h h7 (h 75 13 - 2147483648) := Kp.fr Kp.refl f9 (by first | decide | omega) (by decide)
      have k888 : Kp h h810 (h 75 13 - 2147483648) := by rw [← e812]; exact Kp.oth k889 (by decide)
      have q890 : h810 75 13 = h7 75 13 := by rw [← e812]; exact x_up_i (by first | decide | omega)
      have q891 : h7 75 13 = h 75 13 := jK 0 f9 rg_75_13_0_1 (by first | decide | omega) (by first | decide | omega) (by decide)
      have k887 : Kp h h824 (h 75 13 - 2147483648) := Kp.trans k888 c832 (by first | decide | omega)
      have k886 : Kp h h859 (h 75 13 - 2147483648) := by rw [← e861]; exact Kp.oth k887 (by decide)
      have k885 : Kp h h868 (h 75 13 - 2147483648) := Kp.fr k886 f870 (by first | decide | omega) (by decide)
      have q892 : h868 75 13 = h859 75 13 := jK 0 f870 rg_75_13_0_1 (by first | decide | omega) (by first | decide | omega) (by decide)
      have q893 : h859 75 13 = h824 75 13 := by rw [← e861]; exact x_up_i (by first | decide | omega)
      have k895 : Kp h824 h859 (h824 75 13 - 2147483648) := by rw [← e861]; exact Kp.oth Kp.refl (by decide)
      have k894 : Kp h824 h868 (h824 75 13 - 2147483648) := Kp.fr k895 f870 (by first | decide | omega) (by decide)
      have s896 : Seg (sg h868) (h 75 13 - 2147483648) (h868 75 13 - 2147483648) := Seg.cast (Seg.kp s853 k894) (by first | decide | omega) (by first | decide | omega)
      obtain ⟨w897, e898⟩ := Tk.yes c13 (by first | decide | omega)
      have q899 : h810 75 7 = h7 75 7 := by rw [← e812]; exact x_up_i (by first | decide | omega)
      have q900 : h859 75 7 = h824 75 7 := by rw [← e861]; exact x_up_i (by first | decide | omega)
      refine x_retI (np := 56) (x := 0) (by decide +kernel) l864 (Or.inr ⟨by decide +kernel, by first | decide | omega, by first | decide | omega⟩) ⟨_, rfl, l864, ?_⟩
      exact ⟨j869, f875, (by first | decide | omega), (fun z => by first | decide | omega), (fun z => by first | decide | omega), (fun z => by first | decide | omega), (fun z => by first | decide | omega), k885, (fun _ => s896), (gA_parT w897 rfl e898 (by decide) c834 (congrArg (sk tB tN) (show h810 75 7 = h7 75 7 by first | decide | omega)) (by first | decide | omega) c874 (congrArg (sk tB tN) (show h859 75 7 = h824 75 7 by first | decide | omega)) (by first | decide | omega) (fun z => rfl))⟩
    have q848 : ¬ (v819 ≠ 2147483648) := q848
    refine x_const (np := 38) (x := 9223372039002259456) (a := 2147483648) (by decide +kernel) (by decide) (by decide) ?_
    have q901 : h824 75 10 = h810 75 10 := jK 0 f826 rg_75_10_0_1 (by first | decide | omega) (by first | decide | omega) (by decide)
    have q902 : h810 75 10 = (1 + (h 75 10)) := by rw [← e812]; exact x_up_at
    have k905 : Kp h h7 (h 75 13 - 2147483648) := Kp.fr Kp.refl f9 (by first | decide | omega) (by decide)
    have k904 : Kp h h810 (h 75 13 - 2147483648) := by rw [← e812]; exact Kp.oth k905 (by decide)
    have q906 : h810 75 13 = h7 75 13 := by rw [← e812]; exact x_up_i (by first | decide | omega)
    have q907 : h7 75 13 = h 75 13 := jK 0 f9 rg_75_13_0_1 (by first | decide | omega) (by first | decide | omega) (by decide)
    have k903 : Kp h h824 (h 75 13 - 2147483648) := Kp.trans k904 c832 (by first | decide | omega)
    obtain ⟨w908, e909⟩ := Tk.yes c13 (by first | decide | omega)
    have q910 : h810 75 7 = h7 75 7 := by rw [← e812]; exact x_up_i (by first | decide | omega)
    refine x_retI (np := 39) (x := 0) (by decide +kernel) (by decide) (Or.inr ⟨by decide +kernel, by first | decide | omega, by first | decide | omega⟩) ⟨_, rfl, (by decide), ?_⟩
    exact ⟨j825, f835, (by first | decide | omega), (fun z => by first | decide | omega), (fun z => by first | decide | omega), (fun z => by first | decide | omega), (fun z => by first | decide | omega), k903, (fun z => absurd z (by first | decide | omega)), (gA_par0 w908 rfl e909 (by decide) c834 (congrArg (sk tB tN) (show h810 75 7 = h7 75 7 by first | decide | omega)) (by first | decide | omega) (by first | decide | omega))⟩
  have q807 : ¬ ((h 75 10) ≠ 2147483654) := q807
  exfalso; omega
set_option maxHeartbeats 0 in
/-- LentNamesModel.readAllOf()Z -/
theorem c191_75_D5 {sc : Nat × Nat} {d  : Nat} {h : xh} {tB : Nat → Nat} {tN : Nat} (hJ : J h) (hr0 : (h 75 13) + 5 ≤ (h 75 7)) (hr1 : (h 75 10) = 2147483653) (hT : Tq tB tN h) : X sc 191 (d + 11) (xI fun r h' => J h' ∧ Fr 97517569 h h' ∧ (2147483648 ≤ r ∧ r ≤ 2147483649) ∧ (r = 2147483649 → h' 75 13 + h 75 7 ≤ h' 75 7 + h 75 13) ∧ (r = 2147483649 → h' 75 10 = h 75 10) ∧ (r = 2147483649 → h 75 7 + 0 ≤ h' 75 7) ∧ (r = 2147483649 → h 75 13 ≤ h' 75 13) ∧ Kp h h' (h 75 13 - 2147483648) ∧ (r = 2147483649 → Seg (sg h') (h 75 13 - 2147483648) (h' 75 13 - 2147483648)) ∧ G tB tN (Kd.seq 1) 5 (sk tB tN (h 75 7)) (rs r (sk tB tN (h' 75 7)))) 0 0 0 [x_r 75] [] h := by
  have hF := Fr.refl 97517569 h
  have b1 := jB (e := 13) 0 hJ rg_75_13_0_1 (by first | decide | omega) (by first | decide | omega)
  have b2 := jB (e := 7) 0 hJ rg_75_7_0_1 (by first | decide | omega) (by first | decide | omega)
  have b3 := jB (e := 10) 0 hJ rg_75_10_0_1 (by first | decide | omega) (by first | decide | omega)
  refine x_aload (np := 1) (x := 0) (by decide +kernel) rfl (x_nc_le (by decide)) ?_
  refine x_cI (t := 6) (mj := 190) (n := 1) (rc := 12) (ml := 3) (nr := 0) (np := 4) (as := [x_r 75]) (rest := []) (lo1 := [x_r 75, 147573952589676412928, 147573952589676412928]) (by decide +kernel) (by decide) (by decide +kernel) (x_rb_of (by decide +kernel)) rfl rfl (x_wr (by decide) x_wn) x_wn (by decide) rfl (c190_75_D5 hJ  (by first | decide | omega) (by first | decide | omega) hT) (fun v4 h7 l5 q6 => ?_)
  obtain ⟨j8, f9, b10, c11, c12, c13, c14, c15, c16, c17⟩ := q6
  have f18 := Fr.trans hF f9 (by decide)
  have b19 := jB (e := 13) 0 j8 rg_75_13_0_1 (by first | decide | omega) (by first | decide | omega)
  have b20 := jB (e := 7) 0 j8 rg_75_7_0_1 (by first | decide | omega) (by first | decide | omega)
  have b21 := jB (e := 10) 0 j8 rg_75_10_0_1 (by first | decide | omega) (by first | decide | omega)
  refine x_ifz (k := 1) (tg := 9) (np := 7) (by decide +kernel) (by decide) l5 (fun q22 => ?_) (fun q23 => ?_)
  · have q22 : v4 ≠ 2147483648 := q22
    have b24 := c11 (by first | decide | omega)
    have b25 := c12 (by first | decide | omega)
    have b26 := c13 (by first | decide | omega)
    have b27 := c14 (by first | decide | omega)
    have s28 := c16 (by first | decide | omega)
    have p197 : ∀ (n : Nat) (h194 : xh), 4294967296 - h194 75 7 < n → h194 75 13 + h 75 7 ≤ h194 75 7 + h 75 13 → h194 75 10 = h 75 10 → h 75 7 ≤ h194 75 7 → h 75 13 ≤ h194 75 13 → J h194 → Fr 97517569 h7 h194 → Res tB tN (Kd.lp 1) 5 (sk tB tN (h194 75 7)) (Kd.seq 1) 5 (sk tB tN (h 75 7)) → Kp h h194 (h 75 13 - 2147483648) → Seg (sg h194) (h 75 13 - 2147483648) (h194 75 13 - 2147483648) → X sc 191 (d + 11) (xI fun r h' => J h' ∧ Fr 97517569 h h' ∧ (2147483648 ≤ r ∧ r ≤ 2147483649) ∧ (r = 2147483649 → h' 75 13 + h 75 7 ≤ h' 75 7 + h 75 13) ∧ (r = 2147483649 → h' 75 10 = h 75 10) ∧ (r = 2147483649 → h 75 7 + 0 ≤ h' 75 7) ∧ (r = 2147483649 → h 75 13 ≤ h' 75 13) ∧ Kp h h' (h 75 13 - 2147483648) ∧ (r = 2147483649 → Seg (sg h') (h 75 13 - 2147483648) (h' 75 13 - 2147483648)) ∧ G tB tN (Kd.seq 1) 5 (sk tB tN (h 75 7)) (rs r (sk tB tN (h' 75 7)))) 0 0 9 [x_r 75] [] h194 := by
      intro n
      induction n with
      | zero => intro h194 q205; exact absurd q205 (Nat.not_lt_zero _)
      | succ n i206 =>
        intro h194 q205 b198 b199 b200 b201 j196 f195 m202 m203 m204
        have f207 := Fr.trans f18 f195 (by decide)
        refine x_aload (np := 10) (x := 0) (by decide +kernel) rfl (x_nc_le (by decide)) ?_
        refine x_ldcwB (i := 31) (idx := 257) (tx := "and") (by rw [tb_y191]; exact List.mem_of_getElem? (i := 66) rfl) (by decide) (by rw [tb_b191]; decide +kernel) ?_
        have m212 := Tq.fr hT f9 (by decide) (by decide)
        have m211 := Tq.fr m212 f195 (by decide) (by decide)
        refine x_cI (t := 6) (mj := 171) (n := 2) (rc := 12) (ml := 2) (nr := 0) (np := 16) (as := [x_r 75, x_b (31 + 1)]) (rest := []) (lo1 := [x_r 75, x_b (31 + 1)]) (by decide +kernel) (by decide) (by decide +kernel) (x_rb_of (by decide +kernel)) rfl rfl (x_wr (by decide) (x_wB (by decide) x_wn)) x_wn (by decide) rfl (c171_75_S0 j196  (by decide) m211) (fun v208 h213 l209 q210 => ?_)
        obtain ⟨j214, f215, b216, c217, c218, c219⟩ := q210
        have f220 := Fr.trans f207 f215 (by decide)
        have f221 := Fr.trans f195 f215 (by decide)
        have b222 := jB (e := 7) 0 j196 rg_75_7_0_1 (by first | decide | omega) (by first | decide | omega)
        have b223 := jB (e := 7) 0 j214 rg_75_7_0_1 (by first | decide | omega) (by first | decide | omega)
        refine x_ifz (k := 0) (tg := 38) (np := 19) (by decide +kernel) (by decide) l209 (fun q224 => ?_) (fun q225 => ?_)
        · have q224 : v208 = 2147483648 := q224
          refine x_const (np := 39) (x := 9223372043297226753) (a := 2147483649) (by decide +kernel) (by decide) (by decide) ?_
          have q226 : h213 75 13 = h194 75 13 := jK 0 f215 rg_75_13_0_1 (by first | decide | omega) (by first | decide | omega) (by decide)
          have b227 := jB (e := 13) 0 j196 rg_75_13_0_1 (by first | decide | omega) (by first | decide | omega)
          have q228 : h213 75 10 = h194 75 10 := jK 0 f215 rg_75_10_0_1 (by first | decide | omega) (by first | decide | omega) (by decide)
          have b229 := jB (e := 10) 0 j196 rg_75_10_0_1 (by first | decide | omega) (by first | decide | omega)
          have q230 : h213 75 13 = h194 75 13 := jK 0 f215 rg_75_13_0_1 (by first | decide | omega) (by first | decide | omega) (by decide)
          have k232 : Kp h h194 (h 75 13 - 2147483648) := Kp.less m203 (by first | decide | omega)
          have k231 : Kp h h213 (h 75 13 - 2147483648) := Kp.fr k232 f215 (by first | decide | omega) (by decide)
          have q233 : h213 75 13 = h194 75 13 := jK 0 f215 rg_75_13_0_1 (by first | decide | omega) (by first | decide | omega) (by decide)
          have k234 : Kp h194 h213 (h194 75 13 - 2147483648) := Kp.fr Kp.refl f215 (by first | decide | omega) (by decide)
          have s235 : Seg (sg h213) (h 75 13 - 2147483648) (h213 75 13 - 2147483648) := Seg.cast (Seg.kp m204 k234) (by first | decide | omega) (by first | decide | omega)
          obtain ⟨w236, e237⟩ := Tk.no c219 (by first | decide | omega)
          refine x_retI (np := 40) (x := 0) (by decide +kernel) (by decide) (Or.inr ⟨by decide +kernel, by first | decide | omega, by first | decide | omega⟩) ⟨_, rfl, (by decide), ?_⟩
          exact ⟨j214, f220, (by first | decide | omega), (fun z => by first | decide | omega), (fun z => by first | decide | omega), (fun z => by first | decide | omega), (fun z => by first | decide | omega), k231, (fun _ => s235), (gQ_e (t := 1) m202 w236 rfl (by first | decide | omega) ((Eq.symm e237)))⟩
        have q225 : ¬ (v208 = 2147483648) := q225
        have b238 := c218 (by first | decide | omega)
        refine x_aload (np := 20) (x := 0) (by decide +kernel) rfl (x_nc_le (by decide)) ?_
        have q239 : h213 75 10 = h194 75 10 := jK 0 f215 rg_75_10_0_1 (by first | decide | omega) (by first | decide | omega) (by decide)
        have b240 := jB (e := 10) 0 j196 rg_75_10_0_1 (by first | decide | omega) (by first | decide | omega)
        have q241 : h213 75 13 = h194 75 13 := jK 0 f215 rg_75_13_0_1 (by first | decide | omega) (by first | decide | omega) (by decide)
        have b242 := jB (e := 13) 0 j196 rg_75_13_0_1 (by first | decide | omega) (by first | decide | omega)
        have q243 : h213 75 10 = h194 75 10 := jK 0 f215 rg_75_10_0_1 (by first | decide | omega) (by first | decide | omega) (by decide)
        have m247 := Tq.fr m211 f215 (by decide) (by decide)
        refine x_cI (t := 6) (mj := 190) (n := 1) (rc := 12) (ml := 3) (nr := 0) (np := 23) (as := [x_r 75]) (rest := []) (lo1 := [x_r 75, 147573952589676412928, 147573952589676412928]) (by decide +kernel) (by decide) (by decide +kernel) (x_rb_of (by decide +kernel)) rfl rfl (x_wr (by decide) x_wn) x_wn (by decide) rfl (c190_75_D5 j214  (by first | decide | omega) (by first | decide | omega) m247) (fun v244 h248 l245 q246 => ?_)
        obtain ⟨j249, f250, b251, c252, c253, c254, c255, c256, c257, c258⟩ := q246
        have f259 := Fr.trans f220 f250 (by decide)
        have f260 := Fr.trans f221 f250 (by decide)
        have q261 : h213 75 13 = h194 75 13 := jK 0 f215 rg_75_13_0_1 (by first | decide | omega) (by first | decide | omega) (by decide)
        have b262 := jB (e := 13) 0 j249 rg_75_13_0_1 (by first | decide | omega) (by first | decide | omega)
        have b263 := jB (e := 7) 0 j249 rg_75_7_0_1 (by first | decide | omega) (by first | decide | omega)
        have q264 : h213 75 10 = h194 75 10 := jK 0 f215 rg_75_10_0_1 (by first | decide | omega) (by first | decide | omega) (by decide)
        have b265 := jB (e := 10) 0 j249 rg_75_10_0_1 (by first | decide | omega) (by first | decide | omega)
        have q266 : h213 75 13 = h194 75 13 := jK 0 f215 rg_75_13_0_1 (by first | decide | omega) (by first | decide | omega) (by decide)
        refine x_ifz (k := 1) (tg := 28) (np := 26) (by decide +kernel) (by decide) l245 (fun q267 => ?_) (fun q268 => ?_)
        · have q267 : v244 ≠ 2147483648 := q267
          have b269 := c252 (by first | decide | omega)
          have b270 := c253 (by first | decide | omega)
          have b271 := c254 (by first | decide | omega)
          have b272 := c255 (by first | decide | omega)
          have s273 := c257 (by first | decide | omega)
          have q274 : h213 75 13 = h194 75 13 := jK 0 f215 rg_75_13_0_1 (by first | decide | omega) (by first | decide | omega) (by decide)
          refine x_aload (np := 29) (x := 0) (by decide +kernel) rfl (x_nc_le (by decide)) ?_
          refine x_const (np := 31) (x := 9223372094836834317) (a := 2147483661) (by decide +kernel) (by decide) (by decide) ?_
          refine x_const (np := 32) (x := 9223372039002259456) (a := 2147483648) (by decide +kernel) (by decide) (by decide) ?_
          refine x_nV (t := 6) (mj := 187) (n := 3) (rc := 12) (ml := 3) (nr := 0) (np := 35) (as := [x_r 75, iv_c 2147483661, iv_c 2147483648]) (rest := []) (lo1 := [x_r 75, iv_c 2147483661, iv_c 2147483648]) (by decide +kernel) (by decide) (by decide +kernel) (x_rb_of (by decide +kernel)) rfl rfl (x_wr (by decide) (x_wi (by decide) (x_wi (by decide) x_wn))) x_wn (by decide) rfl ?_
          refine x_aload (np := 1) (x := 0) (by decide +kernel) rfl (x_nc_le (by decide)) ?_
          have q275 : h248 75 1 = 76 := by have z := jB (e := 1) 0 j249 rg_75_1_0_1 (by decide) (by decide); omega
          refine x_getR (np := 4) (x := 705) (f := 1) (q := 76) (by decide +kernel) (by decide) (by decide +kernel) q275 ?_
          refine x_const (np := 7) (x := 9223376986804585600) (a := 2147484800) (by decide +kernel) (by decide) (by decide) ?_
          refine x_const (np := 8) (x := 9223372047592194050) (a := 2147483650) (by decide +kernel) (by decide) (by decide) ?_
          refine x_aload (np := 9) (x := 0) (by decide +kernel) rfl (x_nc_le (by decide)) ?_
          refine x_getC (np := 12) (x := 717) (f := 13) (q := (h248 75 13)) (by decide +kernel) (by decide) (by decide +kernel) rfl (fun l276 => ?_)
          obtain ⟨u277, q278⟩ : ∃ z, (h248 75 13) = 2147483648 + z := ⟨(h248 75 13) - 2147483648, by first | decide | omega⟩
          refine x_imul (np := 13) (x := 0) (i := 2) (j := u277) (v := (2147483648 + 2 * u277)) (by decide +kernel) (by first | decide | omega) (by first | decide | omega) (by first | decide | omega) (by first | decide | omega) (by decide) l276 ?_
          refine x_iadd (np := 14) (x := 0) (v := (2147484800 + 2 * u277)) (by decide +kernel) (by decide) (by first | decide | omega) (by first | decide | omega) (by first | decide | omega) ?_
          refine x_iload (np := 15) (x := 1) (by decide +kernel) rfl (by decide) ?_
          refine x_ast (np := 16) (x := 0) (kd := 1) (n := 1952) (i := (1152 + 2 * u277)) (by decide +kernel) (Or.inl rfl) (by decide +kernel) (by first | decide | omega) (by first | decide | omega) (by decide) (by decide) (fun z => absurd z (by decide)) ?_
          have j281 := jU (e := (1152 + 2 * u277)) (v := 2147483661) u277 j249 rg_76_1152_2_394 (by first | decide | omega) (by first | decide | omega) (by first | decide | omega)
          have f283 := jF (e := (1152 + 2 * u277)) (v := 2147483661) u277 f259 rg_76_1152_2_394 (by first | decide | omega) (by first | decide | omega) (by decide)
          have f284 := jF (e := (1152 + 2 * u277)) (v := 2147483661) u277 f260 rg_76_1152_2_394 (by first | decide | omega) (by first | decide | omega) (by decide)
          generalize e282 : x_up h248 76 (1152 + 2 * u277) 2147483661 = h280 at j281 f283 f284 ⊢
          refine x_aload (np := 17) (x := 0) (by decide +kernel) rfl (x_nc_le (by decide)) ?_
          have q285 : h280 75 1 = 76 := by have z := jB (e := 1) 0 j281 rg_75_1_0_1 (by decide) (by decide); omega
          refine x_getR (np := 20) (x := 705) (f := 1) (q := 76) (by decide +kernel) (by decide) (by decide +kernel) q285 ?_
          refine x_const (np := 23) (x := 9223376986804585600) (a := 2147484800) (by decide +kernel) (by decide) (by decide) ?_
          refine x_const (np := 24) (x := 9223372047592194050) (a := 2147483650) (by decide +kernel) (by decide) (by decide) ?_
          refine x_aload (np := 25) (x := 0) (by decide +kernel) rfl (x_nc_le (by decide)) ?_
          have q286 : h280 75 13 = h248 75 13 := by rw [← e282]; exact x_up_k (by decide)
          refine x_getC (np := 28) (x := 717) (f := 13) (q := (h248 75 13)) (by decide +kernel) (by decide) (by decide +kernel) q286 (fun l287 => ?_)
          refine x_imul (np := 29) (x := 0) (i := 2) (j := u277) (v := (2147483648 + 2 * u277)) (by decide +kernel) (by first | decide | omega) (by first | decide | omega) (by first | decide | omega) (by first | decide | omega) (by decide) l276 ?_
          refine x_iadd (np := 30) (x := 0) (v := (2147484800 + 2 * u277)) (by decide +kernel) (by decide) (by first | decide | omega) (by first | decide | omega) (by first | decide | omega) ?_
          refine x_const (np := 31) (x := 9223372043297226753) (a := 2147483649) (by decide +kernel) (by decide) (by decide) ?_
          refine x_iadd (np := 32) (x := 0) (v := (2147484801 + 2 * u277)) (by decide +kernel) (by first | decide | omega) (by decide) (by first | decide | omega) (by first | decide | omega) ?_
          refine x_iload (np := 33) (x := 2) (by decide +kernel) rfl (by decide) ?_
          refine x_ast (np := 34) (x := 0) (kd := 1) (n := 1952) (i := (1153 + 2 * u277)) (by decide +kernel) (Or.inl rfl) (by decide +kernel) (by first | decide | omega) (by first | decide | omega) (by decide) (by decide) (fun z => absurd z (by decide)) ?_
          have j290 := jU (e := (1153 + 2 * u277)) (v := 2147483648) u277 j281 rg_76_1153_2_394 (by first | decide | omega) (by first | decide | omega) (by first | decide | omega)
          have f292 := jF (e := (1153 + 2 * u277)) (v := 2147483648) u277 f283 rg_76_1153_2_394 (by first | decide | omega) (by first | decide | omega) (by decide)
          have f293 := jF (e := (1153 + 2 * u277)) (v := 2147483648) u277 f284 rg_76_1153_2_394 (by first | decide | omega) (by first | decide | omega) (by decide)
          generalize e291 : x_up h280 76 (1153 + 2 * u277) 2147483648 = h289 at j290 f292 f293 ⊢
          refine x_aload (np := 35) (x := 0) (by decide +kernel) rfl (x_nc_le (by decide)) ?_
          refine x_dup (np := 36) (x := 0) (by decide +kernel) (by have z := x_nc_le (k := 75) (by decide); unfold x_r; omega) ?_
          have q294 : h289 75 13 = h280 75 13 := by rw [← e291]; exact x_up_k (by decide)
          have q295 : h280 75 13 = h248 75 13 := by rw [← e282]; exact x_up_k (by decide)
          refine x_getC (np := 39) (x := 717) (f := 13) (q := (h248 75 13)) (by decide +kernel) (by decide) (by decide +kernel) (q294.trans q295) (fun l296 => ?_)
          refine x_const (np := 40) (x := 9223372043297226753) (a := 2147483649) (by decide +kernel) (by decide) (by decide) ?_
          refine x_iadd (np := 41) (x := 0) (v := (1 + (h248 75 13))) (by decide +kernel) l276 (by decide) (by first | decide | omega) (by first | decide | omega) ?_
          refine x_putI (np := 44) (x := 717) (f := 13) (by decide +kernel) (by decide +kernel) (by first | decide | omega) (Or.inl (by decide)) ?_
          have j298 := jU (e := 13) (v := (1 + (h248 75 13))) 0 j290 rg_75_13_0_1 (by first | decide | omega) (by first | decide | omega) (by first | decide | omega)
          have f300 := jF (e := 13) (v := (1 + (h248 75 13))) 0 f292 rg_75_13_0_1 (by first | decide | omega) (by first | decide | omega) (by decide)
          have f301 := jF (e := 13) (v := (1 + (h248 75 13))) 0 f293 rg_75_13_0_1 (by first | decide | omega) (by first | decide | omega) (by decide)
          generalize e299 : x_up h289 75 13 (1 + (h248 75 13)) = h297 at j298 f300 f301 ⊢
          refine x_retV (np := 45) (x := 0) (by decide +kernel) (by decide +kernel) ⟨rfl, ?_⟩
          have q302 : h297 75 13 = (1 + (h248 75 13)) := by rw [← e299]; exact x_up_at
          refine x_goto (np := 38) (x := 9) (by decide +kernel) ?_
          have q303 : h297 75 7 = h289 75 7 := by rw [← e299]; exact x_up_i (by first | decide | omega)
          have q304 : h289 75 7 = h280 75 7 := by rw [← e291]; exact x_up_k (by decide)
          have q305 : h280 75 7 = h248 75 7 := by rw [← e282]; exact x_up_k (by decide)
          have q306 : h297 75 7 = h289 75 7 := by rw [← e299]; exact x_up_i (by first | decide | omega)
          have q307 : h289 75 7 = h280 75 7 := by rw [← e291]; exact x_up_k (by decide)
          have q308 : h280 75 7 = h248 75 7 := by rw [← e282]; exact x_up_k (by decide)
          have q309 : h297 75 13 = (1 + (h248 75 13)) := by rw [← e299]; exact x_up_at
          have q310 : h297 75 10 = h289 75 10 := by rw [← e299]; exact x_up_i (by first | decide | omega)
          have q311 : h289 75 10 = h280 75 10 := by rw [← e291]; exact x_up_k (by decide)
          have q312 : h280 75 10 = h248 75 10 := by rw [← e282]; exact x_up_k (by decide)
          obtain ⟨w313, e314⟩ := Tk.yes c219 (by first | decide | omega)
          have q315 : h297 75 7 = h289 75 7 := by rw [← e299]; exact x_up_i (by first | decide | omega)
          have q316 : h289 75 7 = h280 75 7 := by rw [← e291]; exact x_up_k (by decide)
          have q317 : h280 75 7 = h248 75 7 := by rw [← e282]; exact x_up_k (by decide)
          have k323 : Kp h h194 (h 75 13 - 2147483648) := Kp.less m203 (by first | decide | omega)
          have k322 : Kp h h213 (h 75 13 - 2147483648) := Kp.fr k323 f215 (by first | decide | omega) (by decide)
          have q324 : h213 75 13 = h194 75 13 := jK 0 f215 rg_75_13_0_1 (by first | decide | omega) (by first | decide | omega) (by decide)
          have k321 : Kp h h248 (h 75 13 - 2147483648) := Kp.trans k322 c256 (by first | decide | omega)
          have k320 : Kp h h280 (h 75 13 - 2147483648) := by rw [← e282]; exact Kp.up k321 (by first | decide | omega) (fun i hi => by first | decide | omega)
          have k319 : Kp h h289 (h 75 13 - 2147483648) := by rw [← e291]; exact Kp.up k320 (by first | decide | omega) (fun i hi => by first | decide | omega)
          have k318 : Kp h h297 (h 75 13 - 2147483648) := by rw [← e299]; exact Kp.oth k319 (by decide)
          have q325 : h297 75 13 = (1 + (h248 75 13)) := by rw [← e299]; exact x_up_at
          have q327 : h297 76 (1152 + 2 * u277) = h289 76 (1152 + 2 * u277) := by rw [← e299]; exact x_up_k (by decide)
          have q328 : h289 76 (1152 + 2 * u277) = h280 76 (1152 + 2 * u277) := by rw [← e291]; exact x_up_i (by first | decide | omega)
          have q329 : h280 76 (1152 + 2 * u277) = 2147483661 := by rw [← e282]; exact x_up_at
          have k334 : Kp h194 h213 (h194 75 13 - 2147483648) := Kp.fr Kp.refl f215 (by first | decide | omega) (by decide)
          have q335 : h213 75 13 = h194 75 13 := jK 0 f215 rg_75_13_0_1 (by first | decide | omega) (by first | decide | omega) (by decide)
          have k333 : Kp h194 h248 (h194 75 13 - 2147483648) := Kp.trans k334 c256 (by first | decide | omega)
          have k332 : Kp h194 h280 (h194 75 13 - 2147483648) := by rw [← e282]; exact Kp.up k333 (by first | decide | omega) (fun i hi => by first | decide | omega)
          have k331 : Kp h194 h289 (h194 75 13 - 2147483648) := by rw [← e291]; exact Kp.up k332 (by first | decide | omega) (fun i hi => by first | decide | omega)
          have k330 : Kp h194 h297 (h194 75 13 - 2147483648) := by rw [← e299]; exact Kp.oth k331 (by decide)
          have k338 : Kp h248 h280 (h248 75 13 - 2147483648) := by rw [← e282]; exact Kp.up Kp.refl (by first | decide | omega) (fun i hi => by first | decide | omega)
          have k337 : Kp h248 h289 (h248 75 13 - 2147483648) := by rw [← e291]; exact Kp.up k338 (by first | decide | omega) (fun i hi => by first | decide | omega)
          have k336 : Kp h248 h297 (h248 75 13 - 2147483648) := by rw [← e299]; exact Kp.oth k337 (by decide)
          have s326 : Seg (sg h297) (h 75 13 - 2147483648) (u277 + 1) := Seg.bin (Seg.kp m204 k330) (Seg.cast (a' := (h194 75 13 - 2147483648)) (b' := u277) (Seg.kp s273 k336) (by first | decide | omega) (by first | decide | omega)) (show 2147483656 < h297 76 (1152 + 2 * u277) by first | decide | omega) (show h297 76 (1152 + 2 * u277) ≠ 2147483660 by first | decide | omega)
          have s339 : Seg (sg h297) (h 75 13 - 2147483648) (h297 75 13 - 2147483648) := Seg.cast (Seg.kp s326 Kp.refl) (by first | decide | omega) (by first | decide | omega)
          exact i206  h297 (by first | decide | omega) (by first | decide | omega) (by first | decide | omega) (by first | decide | omega) (by first | decide | omega) j298 f301 (gQ_st (t := 1) m202 w313 rfl e314 c258 rfl (by first | decide | omega) (congrArg (sk tB tN) (show h248 75 7 = h297 75 7 by first | decide | omega))) k318 s339
        have q268 : ¬ (v244 ≠ 2147483648) := q268
        refine x_const (np := 27) (x := 9223372039002259456) (a := 2147483648) (by decide +kernel) (by decide) (by decide) ?_
        have k342 : Kp h h194 (h 75 13 - 2147483648) := Kp.less m203 (by first | decide | omega)
        have k341 : Kp h h213 (h 75 13 - 2147483648) := Kp.fr k342 f215 (by first | decide | omega) (by decide)
        have q343 : h213 75 13 = h194 75 13 := jK 0 f215 rg_75_13_0_1 (by first | decide | omega) (by first | decide | omega) (by decide)
        have k340 : Kp h h248 (h 75 13 - 2147483648) := Kp.trans k341 c256 (by first | decide | omega)
        obtain ⟨w344, e345⟩ := Tk.yes c219 (by first | decide | omega)
        refine x_retI (np := 28) (x := 0) (by decide +kernel) (by decide) (Or.inr ⟨by decide +kernel, by first | decide | omega, by first | decide | omega⟩) ⟨_, rfl, (by decide), ?_⟩
        exact ⟨j249, f259, (by first | decide | omega), (fun z => by first | decide | omega), (fun z => by first | decide | omega), (fun z => by first | decide | omega), (fun z => by first | decide | omega), k340, (fun z => absurd z (by first | decide | omega)), (gQ_f (t := 1) m202 w344 rfl e345 c258 rfl (by first | decide | omega) (by first | decide | omega))⟩
    have k346 : Kp h h7 (h 75 13 - 2147483648) := Kp.less c15 (by first | decide | omega)
    have s347 : Seg (sg h7) (h 75 13 - 2147483648) (h7 75 13 - 2147483648) := Seg.cast (Seg.kp s28 Kp.refl) (by first | decide | omega) (by first | decide | omega)
    exact p197 _  h7 (Nat.lt_succ_self _) (by first | decide | omega) (by first | decide | omega) (by first | decide | omega) (by first | decide | omega) j8 (Fr.refl _ _) (gQ_in (t := 1) c17 rfl (by first | decide | omega) rfl) k346 s347
  have q23 : ¬ (v4 ≠ 2147483648) := q23
  refine x_const (np := 8) (x := 9223372039002259456) (a := 2147483648) (by decide +kernel) (by decide) (by decide) ?_
  have k348 : Kp h h7 (h 75 13 - 2147483648) := Kp.less c15 (by first | decide | omega)
  refine x_retI (np := 9) (x := 0) (by decide +kernel) (by decide) (Or.inr ⟨by decide +kernel, by first | decide | omega, by first | decide | omega⟩) ⟨_, rfl, (by decide), ?_⟩
  exact ⟨j8, f18, (by first | decide | omega), (fun z => by first | decide | omega), (fun z => by first | decide | omega), (fun z => by first | decide | omega), (fun z => by first | decide | omega), k348, (fun z => absurd z (by first | decide | omega)), (gQ_no (t := 1) c17 rfl (by first | decide | omega) (by first | decide | omega))⟩
set_option maxHeartbeats 0 in
/-- LentNamesModel.readCond()Z -/
theorem c192_75_D5 {sc : Nat × Nat} {d  : Nat} {h : xh} {tB : Nat → Nat} {tN : Nat} (hJ : J h) (hr0 : (h 75 13) + 5 ≤ (h 75 7)) (hr1 : (h 75 10) = 2147483653) (hT : Tq tB tN h) : X sc 192 (d + 12) (xI fun r h' => J h' ∧ Fr 97517569 h h' ∧ (2147483648 ≤ r ∧ r ≤ 2147483649) ∧ (r = 2147483649 → h' 75 13 + h 75 7 ≤ h' 75 7 + h 75 13) ∧ (r = 2147483649 → h' 75 10 = h 75 10) ∧ (r = 2147483649 → h 75 7 + 0 ≤ h' 75 7) ∧ (r = 2147483649 → h 75 13 ≤ h' 75 13) ∧ Kp h h' (h 75 13 - 2147483648) ∧ (r = 2147483649 → Seg (sg h') (h 75 13 - 2147483648) (h' 75 13 - 2147483648)) ∧ G tB tN (Kd.seq 2) 5 (sk tB tN (h 75 7)) (rs r (sk tB tN (h' 75 7)))) 0 0 0 [x_r 75] [] h := by
  have hF := Fr.refl 97517569 h
  have b1 := jB (e := 13) 0 hJ rg_75_13_0_1 (by first | decide | omega) (by first | decide | omega)
  have b2 := jB (e := 7) 0 hJ rg_75_7_0_1 (by first | decide | omega) (by first | decide | omega)
  have b3 := jB (e := 10) 0 hJ rg_75_10_0_1 (by first | decide | omega) (by first | decide | omega)
  refine x_aload (np := 1) (x := 0) (by decide +kernel) rfl (x_nc_le (by decide)) ?_
  refine x_cI (t := 6) (mj := 191) (n := 1) (rc := 12) (ml := 1) (nr := 0) (np := 4) (as := [x_r 75]) (rest := []) (lo1 := [x_r 75]) (by decide +kernel) (by decide) (by decide +kernel) (x_rb_of (by decide +kernel)) rfl rfl (x_wr (by decide) x_wn) x_wn (by decide) rfl (c191_75_D5 hJ  (by first | decide | omega) (by first | decide | omega) hT) (fun v4 h7 l5 q6 => ?_)
  obtain ⟨j8, f9, b10, c11, c12, c13, c14, c15, c16, c17⟩ := q6
  have f18 := Fr.trans hF f9 (by decide)
  have b19 := jB (e := 13) 0 j8 rg_75_13_0_1 (by first | decide | omega) (by first | decide | omega)
  have b20 := jB (e := 7) 0 j8 rg_75_7_0_1 (by first | decide | omega) (by first | decide | omega)
  have b21 := jB (e := 10) 0 j8 rg_75_10_0_1 (by first | decide | omega) (by first | decide | omega)
  refine x_ifz (k := 1) (tg := 9) (np := 7) (by decide +kernel) (by decide) l5 (fun q22 => ?_) (fun q23 => ?_)
  · have q22 : v4 ≠ 2147483648 := q22
    have b24 := c11 (by first | decide | omega)
    have b25 := c12 (by first | decide | omega)
    have b26 := c13 (by first | decide | omega)
    have b27 := c14 (by first | decide | omega)
    have s28 := c16 (by first | decide | omega)
    have p197 : ∀ (n : Nat) (h194 : xh), 4294967296 - h194 75 7 < n → h194 75 13 + h 75 7 ≤ h194 75 7 + h 75 13 → h194 75 10 = h 75 10 → h 75 7 ≤ h194 75 7 → h 75 13 ≤ h194 75 13 → J h194 → Fr 97517569 h7 h194 → Res tB tN (Kd.lp 2) 5 (sk tB tN (h194 75 7)) (Kd.seq 2) 5 (sk tB tN (h 75 7)) → Kp h h194 (h 75 13 - 2147483648) → Seg (sg h194) (h 75 13 - 2147483648) (h194 75 13 - 2147483648) → X sc 192 (d + 12) (xI fun r h' => J h' ∧ Fr 97517569 h h' ∧ (2147483648 ≤ r ∧ r ≤ 2147483649) ∧ (r = 2147483649 → h' 75 13 + h 75 7 ≤ h' 75 7 + h 75 13) ∧ (r = 2147483649 → h' 75 10 = h 75 10) ∧ (r = 2147483649 → h 75 7 + 0 ≤ h' 75 7) ∧ (r = 2147483649 → h 75 13 ≤ h' 75 13) ∧ Kp h h' (h 75 13 - 2147483648) ∧ (r = 2147483649 → Seg (sg h') (h 75 13 - 2147483648) (h' 75 13 - 2147483648)) ∧ G tB tN (Kd.seq 2) 5 (sk tB tN (h 75 7)) (rs r (sk tB tN (h' 75 7)))) 0 0 9 [x_r 75] [] h194 := by
      intro n
      induction n with
      | zero => intro h194 q205; exact absurd q205 (Nat.not_lt_zero _)
      | succ n i206 =>
        intro h194 q205 b198 b199 b200 b201 j196 f195 m202 m203 m204
        have f207 := Fr.trans f18 f195 (by decide)
        refine x_aload (np := 10) (x := 0) (by decide +kernel) rfl (x_nc_le (by decide)) ?_
        refine x_ldcB (i := 15) (idx := 179) (tx := "or") (by rw [tb_y192]; exact List.mem_of_getElem? (i := 54) rfl) (by decide) (by rw [tb_b192]; decide +kernel) ?_
        have m212 := Tq.fr hT f9 (by decide) (by decide)
        have m211 := Tq.fr m212 f195 (by decide) (by decide)
        refine x_cI (t := 6) (mj := 171) (n := 2) (rc := 12) (ml := 2) (nr := 0) (np := 15) (as := [x_r 75, x_b (15 + 1)]) (rest := []) (lo1 := [x_r 75, x_b (15 + 1)]) (by decide +kernel) (by decide) (by decide +kernel) (x_rb_of (by decide +kernel)) rfl rfl (x_wr (by decide) (x_wB (by decide) x_wn)) x_wn (by decide) rfl (c171_75_S0 j196  (by decide) m211) (fun v208 h213 l209 q210 => ?_)
        obtain ⟨j214, f215, b216, c217, c218, c219⟩ := q210
        have f220 := Fr.trans f207 f215 (by decide)
        have f221 := Fr.trans f195 f215 (by decide)
        have b222 := jB (e := 7) 0 j196 rg_75_7_0_1 (by first | decide | omega) (by first | decide | omega)
        have b223 := jB (e := 7) 0 j214 rg_75_7_0_1 (by first | decide | omega) (by first | decide | omega)
        refine x_ifz (k := 0) (tg := 37) (np := 18) (by decide +kernel) (by decide) l209 (fun q224 => ?_) (fun q225 => ?_)
        · have q224 : v208 = 2147483648 := q224
          refine x_const (np := 38) (x := 9223372043297226753) (a := 2147483649) (by decide +kernel) (by decide) (by decide) ?_
          have q226 : h213 75 13 = h194 75 13 := jK 0 f215 rg_75_13_0_1 (by first | decide | omega) (by first | decide | omega) (by decide)
          have b227 := jB (e := 13) 0 j196 rg_75_13_0_1 (by first | decide | omega) (by first | decide | omega)
          have q228 : h213 75 10 = h194 75 10 := jK 0 f215 rg_75_10_0_1 (by first | decide | omega) (by first | decide | omega) (by decide)
          have b229 := jB (e := 10) 0 j196 rg_75_10_0_1 (by first | decide | omega) (by first | decide | omega)
          have q230 : h213 75 13 = h194 75 13 := jK 0 f215 rg_75_13_0_1 (by first | decide | omega) (by first | decide | omega) (by decide)
          have k232 : Kp h h194 (h 75 13 - 2147483648) := Kp.less m203 (by first | decide | omega)
          have k231 : Kp h h213 (h 75 13 - 2147483648) := Kp.fr k232 f215 (by first | decide | omega) (by decide)
          have q233 : h213 75 13 = h194 75 13 := jK 0 f215 rg_75_13_0_1 (by first | decide | omega) (by first | decide | omega) (by decide)
          have k234 : Kp h194 h213 (h194 75 13 - 2147483648) := Kp.fr Kp.refl f215 (by first | decide | omega) (by decide)
          have s235 : Seg (sg h213) (h 75 13 - 2147483648) (h213 75 13 - 2147483648) := Seg.cast (Seg.kp m204 k234) (by first | decide | omega) (by first | decide | omega)
          obtain ⟨w236, e237⟩ := Tk.no c219 (by first | decide | omega)
          refine x_retI (np := 39) (x := 0) (by decide +kernel) (by decide) (Or.inr ⟨by decide +kernel, by first | decide | omega, by first | decide | omega⟩) ⟨_, rfl, (by decide), ?_⟩
          exact ⟨j214, f220, (by first | decide | omega), (fun z => by first | decide | omega), (fun z => by first | decide | omega), (fun z => by first | decide | omega), (fun z => by first | decide | omega), k231, (fun _ => s235), (gQ_e (t := 2) m202 w236 rfl (by first | decide | omega) ((Eq.symm e237)))⟩
        have q225 : ¬ (v208 = 2147483648) := q225
        have b238 := c218 (by first | decide | omega)
        refine x_aload (np := 19) (x := 0) (by decide +kernel) rfl (x_nc_le (by decide)) ?_
        have q239 : h213 75 10 = h194 75 10 := jK 0 f215 rg_75_10_0_1 (by first | decide | omega) (by first | decide | omega) (by decide)
        have b240 := jB (e := 10) 0 j196 rg_75_10_0_1 (by first | decide | omega) (by first | decide | omega)
        have q241 : h213 75 13 = h194 75 13 := jK 0 f215 rg_75_13_0_1 (by first | decide | omega) (by first | decide | omega) (by decide)
        have b242 := jB (e := 13) 0 j196 rg_75_13_0_1 (by first | decide | omega) (by first | decide | omega)
        have q243 : h213 75 10 = h194 75 10 := jK 0 f215 rg_75_10_0_1 (by first | decide | omega) (by first | decide | omega) (by decide)
        have m247 := Tq.fr m211 f215 (by decide) (by decide)
        refine x_cI (t := 6) (mj := 191) (n := 1) (rc := 12) (ml := 1) (nr := 0) (np := 22) (as := [x_r 75]) (rest := []) (lo1 := [x_r 75]) (by decide +kernel) (by decide) (by decide +kernel) (x_rb_of (by decide +kernel)) rfl rfl (x_wr (by decide) x_wn) x_wn (by decide) rfl (c191_75_D5 j214  (by first | decide | omega) (by first | decide | omega) m247) (fun v244 h248 l245 q246 => ?_)
        obtain ⟨j249, f250, b251, c252, c253, c254, c255, c256, c257, c258⟩ := q246
        have f259 := Fr.trans f220 f250 (by decide)
        have f260 := Fr.trans f221 f250 (by decide)
        have q261 : h213 75 13 = h194 75 13 := jK 0 f215 rg_75_13_0_1 (by first | decide | omega) (by first | decide | omega) (by decide)
        have b262 := jB (e := 13) 0 j249 rg_75_13_0_1 (by first | decide | omega) (by first | decide | omega)
        have b263 := jB (e := 7) 0 j249 rg_75_7_0_1 (by first | decide | omega) (by first | decide | omega)
        have q264 : h213 75 10 = h194 75 10 := jK 0 f215 rg_75_10_0_1 (by first | decide | omega) (by first | decide | omega) (by decide)
        have b265 := jB (e := 10) 0 j249 rg_75_10_0_1 (by first | decide | omega) (by first | decide | omega)
        have q266 : h213 75 13 = h194 75 13 := jK 0 f215 rg_75_13_0_1 (by first | decide | omega) (by first | decide | omega) (by decide)
        refine x_ifz (k := 1) (tg := 27) (np := 25) (by decide +kernel) (by decide) l245 (fun q267 => ?_) (fun q268 => ?_)
        · have q267 : v244 ≠ 2147483648 := q267
          have b269 := c252 (by first | decide | omega)
          have b270 := c253 (by first | decide | omega)
          have b271 := c254 (by first | decide | omega)
          have b272 := c255 (by first | decide | omega)
          have s273 := c257 (by first | decide | omega)
          have q274 : h213 75 13 = h194 75 13 := jK 0 f215 rg_75_13_0_1 (by first | decide | omega) (by first | decide | omega) (by decide)
          refine x_aload (np := 28) (x := 0) (by decide +kernel) rfl (x_nc_le (by decide)) ?_
          refine x_const (np := 30) (x := 9223372099131801614) (a := 2147483662) (by decide +kernel) (by decide) (by decide) ?_
          refine x_const (np := 31) (x := 9223372039002259456) (a := 2147483648) (by decide +kernel) (by decide) (by decide) ?_
          refine x_nV (t := 6) (mj := 187) (n := 3) (rc := 12) (ml := 3) (nr := 0) (np := 34) (as := [x_r 75, iv_c 2147483662, iv_c 2147483648]) (rest := []) (lo1 := [x_r 75, iv_c 2147483662, iv_c 2147483648]) (by decide +kernel) (by decide) (by decide +kernel) (x_rb_of (by decide +kernel)) rfl rfl (x_wr (by decide) (x_wi (by decide) (x_wi (by decide) x_wn))) x_wn (by decide) rfl ?_
          refine x_aload (np := 1) (x := 0) (by decide +kernel) rfl (x_nc_le (by decide)) ?_
          have q275 : h248 75 1 = 76 := by have z := jB (e := 1) 0 j249 rg_75_1_0_1 (by decide) (by decide); omega
          refine x_getR (np := 4) (x := 705) (f := 1) (q := 76) (by decide +kernel) (by decide) (by decide +kernel) q275 ?_
          refine x_const (np := 7) (x := 9223376986804585600) (a := 2147484800) (by decide +kernel) (by decide) (by decide) ?_
          refine x_const (np := 8) (x := 9223372047592194050) (a := 2147483650) (by decide +kernel) (by decide) (by decide) ?_
          refine x_aload (np := 9) (x := 0) (by decide +kernel) rfl (x_nc_le (by decide)) ?_
          refine x_getC (np := 12) (x := 717) (f := 13) (q := (h248 75 13)) (by decide +kernel) (by decide) (by decide +kernel) rfl (fun l276 => ?_)
          obtain ⟨u277, q278⟩ : ∃ z, (h248 75 13) = 2147483648 + z := ⟨(h248 75 13) - 2147483648, by first | decide | omega⟩
          refine x_imul (np := 13) (x := 0) (i := 2) (j := u277) (v := (2147483648 + 2 * u277)) (by decide +kernel) (by first | decide | omega) (by first | decide | omega) (by first | decide | omega) (by first | decide | omega) (by decide) l276 ?_
          refine x_iadd (np := 14) (x := 0) (v := (2147484800 + 2 * u277)) (by decide +kernel) (by decide) (by first | decide | omega) (by first | decide | omega) (by first | decide | omega) ?_
          refine x_iload (np := 15) (x := 1) (by decide +kernel) rfl (by decide) ?_
          refine x_ast (np := 16) (x := 0) (kd := 1) (n := 1952) (i := (1152 + 2 * u277)) (by decide +kernel) (Or.inl rfl) (by decide +kernel) (by first | decide | omega) (by first | decide | omega) (by decide) (by decide) (fun z => absurd z (by decide)) ?_
          have j281 := jU (e := (1152 + 2 * u277)) (v := 2147483662) u277 j249 rg_76_1152_2_394 (by first | decide | omega) (by first | decide | omega) (by first | decide | omega)
          have f283 := jF (e := (1152 + 2 * u277)) (v := 2147483662) u277 f259 rg_76_1152_2_394 (by first | decide | omega) (by first | decide | omega) (by decide)
          have f284 := jF (e := (1152 + 2 * u277)) (v := 2147483662) u277 f260 rg_76_1152_2_394 (by first | decide | omega) (by first | decide | omega) (by decide)
          generalize e282 : x_up h248 76 (1152 + 2 * u277) 2147483662 = h280 at j281 f283 f284 ⊢
          refine x_aload (np := 17) (x := 0) (by decide +kernel) rfl (x_nc_le (by decide)) ?_
          have q285 : h280 75 1 = 76 := by have z := jB (e := 1) 0 j281 rg_75_1_0_1 (by decide) (by decide); omega
          refine x_getR (np := 20) (x := 705) (f := 1) (q := 76) (by decide +kernel) (by decide) (by decide +kernel) q285 ?_
          refine x_const (np := 23) (x := 9223376986804585600) (a := 2147484800) (by decide +kernel) (by decide) (by decide) ?_
          refine x_const (np := 24) (x := 9223372047592194050) (a := 2147483650) (by decide +kernel) (by decide) (by decide) ?_
          refine x_aload (np := 25) (x := 0) (by decide +kernel) rfl (x_nc_le (by decide)) ?_
          have q286 : h280 75 13 = h248 75 13 := by rw [← e282]; exact x_up_k (by decide)
          refine x_getC (np := 28) (x := 717) (f := 13) (q := (h248 75 13)) (by decide +kernel) (by decide) (by decide +kernel) q286 (fun l287 => ?_)
          refine x_imul (np := 29) (x := 0) (i := 2) (j := u277) (v := (2147483648 + 2 * u277)) (by decide +kernel) (by first | decide | omega) (by first | decide | omega) (by first | decide | omega) (by first | decide | omega) (by decide) l276 ?_
          refine x_iadd (np := 30) (x := 0) (v := (2147484800 + 2 * u277)) (by decide +kernel) (by decide) (by first | decide | omega) (by first | decide | omega) (by first | decide | omega) ?_
          refine x_const (np := 31) (x := 9223372043297226753) (a := 2147483649) (by decide +kernel) (by decide) (by decide) ?_
          refine x_iadd (np := 32) (x := 0) (v := (2147484801 + 2 * u277)) (by decide +kernel) (by first | decide | omega) (by decide) (by first | decide | omega) (by first | decide | omega) ?_
          refine x_iload (np := 33) (x := 2) (by decide +kernel) rfl (by decide) ?_
          refine x_ast (np := 34) (x := 0) (kd := 1) (n := 1952) (i := (1153 + 2 * u277)) (by decide +kernel) (Or.inl rfl) (by decide +kernel) (by first | decide | omega) (by first | decide | omega) (by decide) (by decide) (fun z => absurd z (by decide)) ?_
          have j290 := jU (e := (1153 + 2 * u277)) (v := 2147483648) u277 j281 rg_76_1153_2_394 (by first | decide | omega) (by first | decide | omega) (by first | decide | omega)
          have f292 := jF (e := (1153 + 2 * u277)) (v := 2147483648) u277 f283 rg_76_1153_2_394 (by first | decide | omega) (by first | decide | omega) (by decide)
          have f293 := jF (e := (1153 + 2 * u277)) (v := 2147483648) u277 f284 rg_76_1153_2_394 (by first | decide | omega) (by first | decide | omega) (by decide)
          generalize e291 : x_up h280 76 (1153 + 2 * u277) 2147483648 = h289 at j290 f292 f293 ⊢
          refine x_aload (np := 35) (x := 0) (by decide +kernel) rfl (x_nc_le (by decide)) ?_
          refine x_dup (np := 36) (x := 0) (by decide +kernel) (by have z := x_nc_le (k := 75) (by decide); unfold x_r; omega) ?_
          have q294 : h289 75 13 = h280 75 13 := by rw [← e291]; exact x_up_k (by decide)
          have q295 : h280 75 13 = h248 75 13 := by rw [← e282]; exact x_up_k (by decide)
          refine x_getC (np := 39) (x := 717) (f := 13) (q := (h248 75 13)) (by decide +kernel) (by decide) (by decide +kernel) (q294.trans q295) (fun l296 => ?_)
          refine x_const (np := 40) (x := 9223372043297226753) (a := 2147483649) (by decide +kernel) (by decide) (by decide) ?_
          refine x_iadd (np := 41) (x := 0) (v := (1 + (h248 75 13))) (by decide +kernel) l276 (by decide) (by first | decide | omega) (by first | decide | omega) ?_
          refine x_putI (np := 44) (x := 717) (f := 13) (by decide +kernel) (by decide +kernel) (by first | decide | omega) (Or.inl (by decide)) ?_
          have j298 := jU (e := 13) (v := (1 + (h248 75 13))) 0 j290 rg_75_13_0_1 (by first | decide | omega) (by first | decide | omega) (by first | decide | omega)
          have f300 := jF (e := 13) (v := (1 + (h248 75 13))) 0 f292 rg_75_13_0_1 (by first | decide | omega) (by first | decide | omega) (by decide)
          have f301 := jF (e := 13) (v := (1 + (h248 75 13))) 0 f293 rg_75_13_0_1 (by first | decide | omega) (by first | decide | omega) (by decide)
          generalize e299 : x_up h289 75 13 (1 + (h248 75 13)) = h297 at j298 f300 f301 ⊢
          refine x_retV (np := 45) (x := 0) (by decide +kernel) (by decide +kernel) ⟨rfl, ?_⟩
          have q302 : h297 75 13 = (1 + (h248 75 13)) := by rw [← e299]; exact x_up_at
          refine x_goto (np := 37) (x := 9) (by decide +kernel) ?_
          have q303 : h297 75 7 = h289 75 7 := by rw [← e299]; exact x_up_i (by first | decide | omega)
          have q304 : h289 75 7 = h280 75 7 := by rw [← e291]; exact x_up_k (by decide)
          have q305 : h280 75 7 = h248 75 7 := by rw [← e282]; exact x_up_k (by decide)
          have q306 : h297 75 7 = h289 75 7 := by rw [← e299]; exact x_up_i (by first | decide | omega)
          have q307 : h289 75 7 = h280 75 7 := by rw [← e291]; exact x_up_k (by decide)
          have q308 : h280 75 7 = h248 75 7 := by rw [← e282]; exact x_up_k (by decide)
          have q309 : h297 75 13 = (1 + (h248 75 13)) := by rw [← e299]; exact x_up_at
          have q310 : h297 75 10 = h289 75 10 := by rw [← e299]; exact x_up_i (by first | decide | omega)
          have q311 : h289 75 10 = h280 75 10 := by rw [← e291]; exact x_up_k (by decide)
          have q312 : h280 75 10 = h248 75 10 := by rw [← e282]; exact x_up_k (by decide)
          obtain ⟨w313, e314⟩ := Tk.yes c219 (by first | decide | omega)
          have q315 : h297 75 7 = h289 75 7 := by rw [← e299]; exact x_up_i (by first | decide | omega)
          have q316 : h289 75 7 = h280 75 7 := by rw [← e291]; exact x_up_k (by decide)
          have q317 : h280 75 7 = h248 75 7 := by rw [← e282]; exact x_up_k (by decide)
          have k323 : Kp h h194 (h 75 13 - 2147483648) := Kp.less m203 (by first | decide | omega)
          have k322 : Kp h h213 (h 75 13 - 2147483648) := Kp.fr k323 f215 (by first | decide | omega) (by decide)
          have q324 : h213 75 13 = h194 75 13 := jK 0 f215 rg_75_13_0_1 (by first | decide | omega) (by first | decide | omega) (by decide)
          have k321 : Kp h h248 (h 75 13 - 2147483648) := Kp.trans k322 c256 (by first | decide | omega)
          have k320 : Kp h h280 (h 75 13 - 2147483648) := by rw [← e282]; exact Kp.up k321 (by first | decide | omega) (fun i hi => by first | decide | omega)
          have k319 : Kp h h289 (h 75 13 - 2147483648) := by rw [← e291]; exact Kp.up k320 (by first | decide | omega) (fun i hi => by first | decide | omega)
          have k318 : Kp h h297 (h 75 13 - 2147483648) := by rw [← e299]; exact Kp.oth k319 (by decide)
          have q325 : h297 75 13 = (1 + (h248 75 13)) := by rw [← e299]; exact x_up_at
          have q327 : h297 76 (1152 + 2 * u277) = h289 76 (1152 + 2 * u277) := by rw [← e299]; exact x_up_k (by decide)
          have q328 : h289 76 (1152 + 2 * u277) = h280 76 (1152 + 2 * u277) := by rw [← e291]; exact x_up_i (by first | decide | omega)
          have q329 : h280 76 (1152 + 2 * u277) = 2147483662 := by rw [← e282]; exact x_up_at
          have k334 : Kp h194 h213 (h194 75 13 - 2147483648) := Kp.fr Kp.refl f215 (by first | decide | omega) (by decide)
          have q335 : h213 75 13 = h194 75 13 := jK 0 f215 rg_75_13_0_1 (by first | decide | omega) (by first | decide | omega) (by decide)
          have k333 : Kp h194 h248 (h194 75 13 - 2147483648) := Kp.trans k334 c256 (by first | decide | omega)
          have k332 : Kp h194 h280 (h194 75 13 - 2147483648) := by rw [← e282]; exact Kp.up k333 (by first | decide | omega) (fun i hi => by first | decide | omega)
          have k331 : Kp h194 h289 (h194 75 13 - 2147483648) := by rw [← e291]; exact Kp.up k332 (by first | decide | omega) (fun i hi => by first | decide | omega)
          have k330 : Kp h194 h297 (h194 75 13 - 2147483648) := by rw [← e299]; exact Kp.oth k331 (by decide)
          have k338 : Kp h248 h280 (h248 75 13 - 2147483648) := by rw [← e282]; exact Kp.up Kp.refl (by first | decide | omega) (fun i hi => by first | decide | omega)
          have k337 : Kp h248 h289 (h248 75 13 - 2147483648) := by rw [← e291]; exact Kp.up k338 (by first | decide | omega) (fun i hi => by first | decide | omega)
          have k336 : Kp h248 h297 (h248 75 13 - 2147483648) := by rw [← e299]; exact Kp.oth k337 (by decide)
          have s326 : Seg (sg h297) (h 75 13 - 2147483648) (u277 + 1) := Seg.bin (Seg.kp m204 k330) (Seg.cast (a' := (h194 75 13 - 2147483648)) (b' := u277) (Seg.kp s273 k336) (by first | decide | omega) (by first | decide | omega)) (show 2147483656 < h297 76 (1152 + 2 * u277) by first | decide | omega) (show h297 76 (1152 + 2 * u277) ≠ 2147483660 by first | decide | omega)
          have s339 : Seg (sg h297) (h 75 13 - 2147483648) (h297 75 13 - 2147483648) := Seg.cast (Seg.kp s326 Kp.refl) (by first | decide | omega) (by first | decide | omega)
          exact i206  h297 (by first | decide | omega) (by first | decide | omega) (by first | decide | omega) (by first | decide | omega) (by first | decide | omega) j298 f301 (gQ_st (t := 2) m202 w313 rfl e314 c258 rfl (by first | decide | omega) (congrArg (sk tB tN) (show h248 75 7 = h297 75 7 by first | decide | omega))) k318 s339
        have q268 : ¬ (v244 ≠ 2147483648) := q268
        refine x_const (np := 26) (x := 9223372039002259456) (a := 2147483648) (by decide +kernel) (by decide) (by decide) ?_
        have k342 : Kp h h194 (h 75 13 - 2147483648) := Kp.less m203 (by first | decide | omega)
        have k341 : Kp h h213 (h 75 13 - 2147483648) := Kp.fr k342 f215 (by first | decide | omega) (by decide)
        have q343 : h213 75 13 = h194 75 13 := jK 0 f215 rg_75_13_0_1 (by first | decide | omega) (by first | decide | omega) (by decide)
        have k340 : Kp h h248 (h 75 13 - 2147483648) := Kp.trans k341 c256 (by first | decide | omega)
        obtain ⟨w344, e345⟩ := Tk.yes c219 (by first | decide | omega)
        refine x_retI (np := 27) (x := 0) (by decide +kernel) (by decide) (Or.inr ⟨by decide +kernel, by first | decide | omega, by first | decide | omega⟩) ⟨_, rfl, (by decide), ?_⟩
        exact ⟨j249, f259, (by first | decide | omega), (fun z => by first | decide | omega), (fun z => by first | decide | omega), (fun z => by first | decide | omega), (fun z => by first | decide | omega), k340, (fun z => absurd z (by first | decide | omega)), (gQ_f (t := 2) m202 w344 rfl e345 c258 rfl (by first | decide | omega) (by first | decide | omega))⟩
    have k346 : Kp h h7 (h 75 13 - 2147483648) := Kp.less c15 (by first | decide | omega)
    have s347 : Seg (sg h7) (h 75 13 - 2147483648) (h7 75 13 - 2147483648) := Seg.cast (Seg.kp s28 Kp.refl) (by first | decide | omega) (by first | decide | omega)
    exact p197 _  h7 (Nat.lt_succ_self _) (by first | decide | omega) (by first | decide | omega) (by first | decide | omega) (by first | decide | omega) j8 (Fr.refl _ _) (gQ_in (t := 2) c17 rfl (by first | decide | omega) rfl) k346 s347
  have q23 : ¬ (v4 ≠ 2147483648) := q23
  refine x_const (np := 8) (x := 9223372039002259456) (a := 2147483648) (by decide +kernel) (by decide) (by decide) ?_
  have k348 : Kp h h7 (h 75 13 - 2147483648) := Kp.less c15 (by first | decide | omega)
  refine x_retI (np := 9) (x := 0) (by decide +kernel) (by decide) (Or.inr ⟨by decide +kernel, by first | decide | omega, by first | decide | omega⟩) ⟨_, rfl, (by decide), ?_⟩
  exact ⟨j8, f18, (by first | decide | omega), (fun z => by first | decide | omega), (fun z => by first | decide | omega), (fun z => by first | decide | omega), (fun z => by first | decide | omega), k348, (fun z => absurd z (by first | decide | omega)), (gQ_no (t := 2) c17 rfl (by first | decide | omega) (by first | decide | omega))⟩
set_option maxHeartbeats 0 in
/-- LentNamesModel.readAtom()Z -/
theorem c190_75_D4 {sc : Nat × Nat} {d  : Nat} {h : xh} {tB : Nat → Nat} {tN : Nat} (hJ : J h) (hr0 : (h 75 13) + 5 ≤ (h 75 7)) (hr1 : (h 75 10) = 2147483652) (hT : Tq tB tN h) : X sc 190 (d + 13) (xI fun r h' => J h' ∧ Fr 97517569 h h' ∧ (2147483648 ≤ r ∧ r ≤ 2147483649) ∧ (r = 2147483649 → h' 75 13 + h 75 7 ≤ h' 75 7 + h 75 13) ∧ (r = 2147483649 → h' 75 10 = h 75 10) ∧ (r = 2147483649 → h 75 7 + 0 ≤ h' 75 7) ∧ (r = 2147483649 → h 75 13 ≤ h' 75 13) ∧ Kp h h' (h 75 13 - 2147483648) ∧ (r = 2147483649 → Seg (sg h') (h 75 13 - 2147483648) (h' 75 13 - 2147483648)) ∧ G tB tN Kd.atom 4 (sk tB tN (h 75 7)) (rs r (sk tB tN (h' 75 7)))) 0 0 0 [x_r 75, 147573952589676412928, 147573952589676412928] [] h := by
  have hF := Fr.refl 97517569 h
  have b1 := jB (e := 13) 0 hJ rg_75_13_0_1 (by first | decide | omega) (by first | decide | omega)
  have b2 := jB (e := 7) 0 hJ rg_75_7_0_1 (by first | decide | omega) (by first | decide | omega)
  have b3 := jB (e := 10) 0 hJ rg_75_10_0_1 (by first | decide | omega) (by first | decide | omega)
  refine x_aload (np := 1) (x := 0) (by decide +kernel) rfl (x_nc_le (by decide)) ?_
  refine x_const (np := 3) (x := 9223372210800951336) (a := 2147483688) (by decide +kernel) (by decide) (by decide) ?_
  refine x_cI (t := 6) (mj := 173) (n := 2) (rc := 12) (ml := 2) (nr := 0) (np := 6) (as := [x_r 75, iv_c 2147483688]) (rest := []) (lo1 := [x_r 75, iv_c 2147483688]) (by decide +kernel) (by decide) (by decide +kernel) (x_rb_of (by decide +kernel)) rfl rfl (x_wr (by decide) (x_wi (by decide) x_wn)) x_wn (by decide) rfl (c173_75 hJ  (by first | decide | omega) hT) (fun v4 h7 l5 q6 => ?_)
  obtain ⟨j8, f9, b10, c11, c12, c13⟩ := q6
  have f14 := Fr.trans hF f9 (by decide)
  have b15 := jB (e := 7) 0 j8 rg_75_7_0_1 (by first | decide | omega) (by first | decide | omega)
  refine x_ifz (k := 0) (tg := 56) (np := 9) (by decide +kernel) (by decide) l5 (fun q16 => ?_) (fun q17 => ?_)
  · have q16 : v4 = 2147483648 := q16
    refine x_aload (np := 57) (x := 0) (by decide +kernel) rfl (x_nc_le (by decide)) ?_
    refine x_ldcB (i := 24) (idx := 245) (tx := "not") (by rw [tb_y190]; exact List.mem_of_getElem? (i := 59) rfl) (by decide) (by rw [tb_b190]; decide +kernel) ?_
    have m21 := Tq.fr hT f9 (by decide) (by decide)
    refine x_cI (t := 6) (mj := 171) (n := 2) (rc := 12) (ml := 2) (nr := 0) (np := 62) (as := [x_r 75, x_b (24 + 1)]) (rest := []) (lo1 := [x_r 75, x_b (24 + 1)]) (by decide +kernel) (by decide) (by decide +kernel) (x_rb_of (by decide +kernel)) rfl rfl (x_wr (by decide) (x_wB (by decide) x_wn)) x_wn (by decide) rfl (c171_75_S0 j8  (by decide) m21) (fun v18 h22 l19 q20 => ?_)
    obtain ⟨j23, f24, b25, c26, c27, c28⟩ := q20
    have f29 := Fr.trans f14 f24 (by decide)
    have b30 := jB (e := 7) 0 j23 rg_75_7_0_1 (by first | decide | omega) (by first | decide | omega)
    refine x_ifz (k := 0) (tg := 114) (np := 65) (by decide +kernel) (by decide) l19 (fun q31 => ?_) (fun q32 => ?_)
    · have q31 : v18 = 2147483648 := q31
      refine x_aload (np := 115) (x := 0) (by decide +kernel) rfl (x_nc_le (by decide)) ?_
      refine x_ldcB (i := 25) (idx := 250) (tx := "own") (by rw [tb_y190]; exact List.mem_of_getElem? (i := 60) rfl) (by decide) (by rw [tb_b190]; decide +kernel) ?_
      have m36 := Tq.fr m21 f24 (by decide) (by decide)
      refine x_cI (t := 6) (mj := 171) (n := 2) (rc := 12) (ml := 2) (nr := 0) (np := 120) (as := [x_r 75, x_b (25 + 1)]) (rest := []) (lo1 := [x_r 75, x_b (25 + 1)]) (by decide +kernel) (by decide) (by decide +kernel) (x_rb_of (by decide +kernel)) rfl rfl (x_wr (by decide) (x_wB (by decide) x_wn)) x_wn (by decide) rfl (c171_75_S0 j23  (by decide) m36) (fun v33 h37 l34 q35 => ?_)
      obtain ⟨j38, f39, b40, c41, c42, c43⟩ := q35
      have f44 := Fr.trans f29 f39 (by decide)
      have b45 := jB (e := 7) 0 j38 rg_75_7_0_1 (by first | decide | omega) (by first | decide | omega)
      refine x_istore (np := 121) (x := 1) (lo' := [x_r 75, iv_c v33, 147573952589676412928]) (by decide +kernel) l34 (Nat.le_of_ble_eq_true rfl) rfl ?_
      refine x_iload (np := 122) (x := 1) (by decide +kernel) rfl l34 ?_
      refine x_ifz (k := 1) (tg := 134) (np := 125) (by decide +kernel) (by decide) l34 (fun q46 => ?_) (fun q47 => ?_)
      · have q46 : v33 ≠ 2147483648 := q46
        have b48 := c42 (by first | decide | omega)
        refine x_aload (np := 135) (x := 0) (by decide +kernel) rfl (x_nc_le (by decide)) ?_
        refine x_iload (np := 136) (x := 1) (by decide +kernel) rfl l34 ?_
        refine x_ifz (k := 0) (tg := 144) (np := 139) (by decide +kernel) (by decide) l34 (fun q49 => ?_) (fun q50 => ?_)
        · have q49 : v33 = 2147483648 := q49
          exfalso; omega
        have q50 : ¬ (v33 = 2147483648) := q50
        refine x_const (np := 141) (x := 9223372064772063238) (a := 2147483654) (by decide +kernel) (by decide) (by decide) ?_
        refine x_goto (np := 144) (x := 146) (by decide +kernel) ?_
        refine x_const (np := 147) (x := 9223372039002259456) (a := 2147483648) (by decide +kernel) (by decide) (by decide) ?_
        refine x_nV (t := 6) (mj := 187) (n := 3) (rc := 12) (ml := 3) (nr := 0) (np := 150) (as := [x_r 75, iv_c 2147483654, iv_c 2147483648]) (rest := []) (lo1 := [x_r 75, iv_c 2147483654, iv_c 2147483648]) (by decide +kernel) (by decide) (by decide +kernel) (x_rb_of (by decide +kernel)) rfl rfl (x_wr (by decide) (x_wi (by decide) (x_wi (by decide) x_wn))) x_wn (by decide) rfl ?_
        refine x_aload (np := 1) (x := 0) (by decide +kernel) rfl (x_nc_le (by decide)) ?_
        have q51 : h37 75 1 = 76 := by have z := jB (e := 1) 0 j38 rg_75_1_0_1 (by decide) (by decide); omega
        refine x_getR (np := 4) (x := 705) (f := 1) (q := 76) (by decide +kernel) (by decide) (by decide +kernel) q51 ?_
        refine x_const (np := 7) (x := 9223376986804585600) (a := 2147484800) (by decide +kernel) (by decide) (by decide) ?_
        refine x_const (np := 8) (x := 9223372047592194050) (a := 2147483650) (by decide +kernel) (by decide) (by decide) ?_
        refine x_aload (np := 9) (x := 0) (by decide +kernel) rfl (x_nc_le (by decide)) ?_
        have q52 : h37 75 13 = h22 75 13 := jK 0 f39 rg_75_13_0_1 (by first | decide | omega) (by first | decide | omega) (by decide)
        have q53 : h22 75 13 = h7 75 13 := jK 0 f24 rg_75_13_0_1 (by first | decide | omega) (by first | decide | omega) (by decide)
        have q54 : h7 75 13 = h 75 13 := jK 0 f9 rg_75_13_0_1 (by first | decide | omega) (by first | decide | omega) (by decide)
        refine x_getC (np := 12) (x := 717) (f := 13) (q := (h 75 13)) (by decide +kernel) (by decide) (by decide +kernel) ((q52.trans q53).trans q54) (fun l55 => ?_)
        obtain ⟨u56, q57⟩ : ∃ z, (h 75 13) = 2147483648 + z := ⟨(h 75 13) - 2147483648, by first | decide | omega⟩
        refine x_imul (np := 13) (x := 0) (i := 2) (j := u56) (v := (2147483648 + 2 * u56)) (by decide +kernel) (by first | decide | omega) (by first | decide | omega) (by first | decide | omega) (by first | decide | omega) (by decide) l55 ?_
        refine x_iadd (np := 14) (x := 0) (v := (2147484800 + 2 * u56)) (by decide +kernel) (by decide) (by first | decide | omega) (by first | decide | omega) (by first | decide | omega) ?_
        refine x_iload (np := 15) (x := 1) (by decide +kernel) rfl (by decide) ?_
        refine x_ast (np := 16) (x := 0) (kd := 1) (n := 1952) (i := (1152 + 2 * u56)) (by decide +kernel) (Or.inl rfl) (by decide +kernel) (by first | decide | omega) (by first | decide | omega) (by decide) (by decide) (fun z => absurd z (by decide)) ?_
        have j60 := jU (e := (1152 + 2 * u56)) (v := 2147483654) u56 j38 rg_76_1152_2_394 (by first | decide | omega) (by first | decide | omega) (by first | decide | omega)
        have f62 := jF (e := (1152 + 2 * u56)) (v := 2147483654) u56 f44 rg_76_1152_2_394 (by first | decide | omega) (by first | decide | omega) (by decide)
        generalize e61 : x_up h37 76 (1152 + 2 * u56) 2147483654 = h59 at j60 f62 ⊢
        refine x_aload (np := 17) (x := 0) (by decide +kernel) rfl (x_nc_le (by decide)) ?_
        have q63 : h59 75 1 = 76 := by have z := jB (e := 1) 0 j60 rg_75_1_0_1 (by decide) (by decide); omega
        refine x_getR (np := 20) (x := 705) (f := 1) (q := 76) (by decide +kernel) (by decide) (by decide +kernel) q63 ?_
        refine x_const (np := 23) (x := 9223376986804585600) (a := 2147484800) (by decide +kernel) (by decide) (by decide) ?_
        refine x_const (np := 24) (x := 9223372047592194050) (a := 2147483650) (by decide +kernel) (by decide) (by decide) ?_
        refine x_aload (np := 25) (x := 0) (by decide +kernel) rfl (x_nc_le (by decide)) ?_
        have q64 : h59 75 13 = h37 75 13 := by rw [← e61]; exact x_up_k (by decide)
        have q65 : h37 75 13 = h22 75 13 := jK 0 f39 rg_75_13_0_1 (by first | decide | omega) (by first | decide | omega) (by decide)
        have q66 : h22 75 13 = h7 75 13 := jK 0 f24 rg_75_13_0_1 (by first | decide | omega) (by first | decide | omega) (by decide)
        have q67 : h7 75 13 = h 75 13 := jK 0 f9 rg_75_13_0_1 (by first | decide | omega) (by first | decide | omega) (by decide)
        refine x_getC (np := 28) (x := 717) (f := 13) (q := (h 75 13)) (by decide +kernel) (by decide) (by decide +kernel) (((q64.trans q65).trans q66).trans q67) (fun l68 => ?_)
        refine x_imul (np := 29) (x := 0) (i := 2) (j := u56) (v := (2147483648 + 2 * u56)) (by decide +kernel) (by first | decide | omega) (by first | decide | omega) (by first | decide | omega) (by first | decide | omega) (by decide) l55 ?_
        refine x_iadd (np := 30) (x := 0) (v := (2147484800 + 2 * u56)) (by decide +kernel) (by decide) (by first | decide | omega) (by first | decide | omega) (by first | decide | omega) ?_
        refine x_const (np := 31) (x := 9223372043297226753) (a := 2147483649) (by decide +kernel) (by decide) (by decide) ?_
        refine x_iadd (np := 32) (x := 0) (v := (2147484801 + 2 * u56)) (by decide +kernel) (by first | decide | omega) (by decide) (by first | decide | omega) (by first | decide | omega) ?_
        refine x_iload (np := 33) (x := 2) (by decide +kernel) rfl (by decide) ?_
        refine x_ast (np := 34) (x := 0) (kd := 1) (n := 1952) (i := (1153 + 2 * u56)) (by decide +kernel) (Or.inl rfl) (by decide +kernel) (by first | decide | omega) (by first | decide | omega) (by decide) (by decide) (fun z => absurd z (by decide)) ?_
        have j71 := jU (e := (1153 + 2 * u56)) (v := 2147483648) u56 j60 rg_76_1153_2_394 (by first | decide | omega) (by first | decide | omega) (by first | decide | omega)
        have f73 := jF (e := (1153 + 2 * u56)) (v := 2147483648) u56 f62 rg_76_1153_2_394 (by first | decide | omega) (by first | decide | omega) (by decide)
        generalize e72 : x_up h59 76 (1153 + 2 * u56) 2147483648 = h70 at j71 f73 ⊢
        refine x_aload (np := 35) (x := 0) (by decide +kernel) rfl (x_nc_le (by decide)) ?_
        refine x_dup (np := 36) (x := 0) (by decide +kernel) (by have z := x_nc_le (k := 75) (by decide); unfold x_r; omega) ?_
        have q74 : h70 75 13 = h59 75 13 := by rw [← e72]; exact x_up_k (by decide)
        have q75 : h59 75 13 = h37 75 13 := by rw [← e61]; exact x_up_k (by decide)
        have q76 : h37 75 13 = h22 75 13 := jK 0 f39 rg_75_13_0_1 (by first | decide | omega) (by first | decide | omega) (by decide)
        have q77 : h22 75 13 = h7 75 13 := jK 0 f24 rg_75_13_0_1 (by first | decide | omega) (by first | decide | omega) (by decide)
        have q78 : h7 75 13 = h 75 13 := jK 0 f9 rg_75_13_0_1 (by first | decide | omega) (by first | decide | omega) (by decide)
        refine x_getC (np := 39) (x := 717) (f := 13) (q := (h 75 13)) (by decide +kernel) (by decide) (by decide +kernel) ((((q74.trans q75).trans q76).trans q77).trans q78) (fun l79 => ?_)
        refine x_const (np := 40) (x := 9223372043297226753) (a := 2147483649) (by decide +kernel) (by decide) (by decide) ?_
        refine x_iadd (np := 41) (x := 0) (v := (1 + (h 75 13))) (by decide +kernel) l55 (by decide) (by first | decide | omega) (by first | decide | omega) ?_
        refine x_putI (np := 44) (x := 717) (f := 13) (by decide +kernel) (by decide +kernel) (by first | decide | omega) (Or.inl (by decide)) ?_
        have j81 := jU (e := 13) (v := (1 + (h 75 13))) 0 j71 rg_75_13_0_1 (by first | decide | omega) (by first | decide | omega) (by first | decide | omega)
        have f83 := jF (e := 13) (v := (1 + (h 75 13))) 0 f73 rg_75_13_0_1 (by first | decide | omega) (by first | decide | omega) (by decide)
        generalize e82 : x_up h70 75 13 (1 + (h 75 13)) = h80 at j81 f83 ⊢
        refine x_retV (np := 45) (x := 0) (by decide +kernel) (by decide +kernel) ⟨rfl, ?_⟩
        have q84 : h80 75 13 = (1 + (h 75 13)) := by rw [← e82]; exact x_up_at
        refine x_const (np := 151) (x := 9223372043297226753) (a := 2147483649) (by decide +kernel) (by decide) (by decide) ?_
        have q85 : h80 75 13 = (1 + (h 75 13)) := by rw [← e82]; exact x_up_at
        have q86 : h80 75 7 = h70 75 7 := by rw [← e82]; exact x_up_i (by first | decide | omega)
        have q87 : h70 75 7 = h59 75 7 := by rw [← e72]; exact x_up_k (by decide)
        have q88 : h59 75 7 = h37 75 7 := by rw [← e61]; exact x_up_k (by decide)
        have q89 : h80 75 10 = h70 75 10 := by rw [← e82]; exact x_up_i (by first | decide | omega)
        have q90 : h70 75 10 = h59 75 10 := by rw [← e72]; exact x_up_k (by decide)
        have q91 : h59 75 10 = h37 75 10 := by rw [← e61]; exact x_up_k (by decide)
        have q92 : h37 75 10 = h22 75 10 := jK 0 f39 rg_75_10_0_1 (by first | decide | omega) (by first | decide | omega) (by decide)
        have q93 : h22 75 10 = h7 75 10 := jK 0 f24 rg_75_10_0_1 (by first | decide | omega) (by first | decide | omega) (by decide)
        have q94 : h7 75 10 = h 75 10 := jK 0 f9 rg_75_10_0_1 (by first | decide | omega) (by first | decide | omega) (by decide)
        have q95 : h80 75 7 = h70 75 7 := by rw [← e82]; exact x_up_i (by first | decide | omega)
        have q96 : h70 75 7 = h59 75 7 := by rw [← e72]; exact x_up_k (by decide)
        have q97 : h59 75 7 = h37 75 7 := by rw [← e61]; exact x_up_k (by decide)
        have q98 : h80 75 13 = (1 + (h 75 13)) := by rw [← e82]; exact x_up_at
        have k104 : Kp h h7 (h 75 13 - 2147483648) := Kp.fr Kp.refl f9 (by first | decide | omega) (by decide)
        have k103 : Kp h h22 (h 75 13 - 2147483648) := Kp.fr k104 f24 (by first | decide | omega) (by decide)
        have k102 : Kp h h37 (h 75 13 - 2147483648) := Kp.fr k103 f39 (by first | decide | omega) (by decide)
        have k101 : Kp h h59 (h 75 13 - 2147483648) := by rw [← e61]; exact Kp.up k102 (by first | decide | omega) (fun i hi => by first | decide | omega)
        have k100 : Kp h h70 (h 75 13 - 2147483648) := by rw [← e72]; exact Kp.up k101 (by first | decide | omega) (fun i hi => by first | decide | omega)
        have k99 : Kp h h80 (h 75 13 - 2147483648) := by rw [← e82]; exact Kp.oth k100 (by decide)
        have q105 : h80 75 13 = (1 + (h 75 13)) := by rw [← e82]; exact x_up_at
        have q107 : h80 76 (1152 + 2 * u56) = h70 76 (1152 + 2 * u56) := by rw [← e82]; exact x_up_k (by decide)
        have q108 : h70 76 (1152 + 2 * u56) = h59 76 (1152 + 2 * u56) := by rw [← e72]; exact x_up_i (by first | decide | omega)
        have q109 : h59 76 (1152 + 2 * u56) = 2147483654 := by rw [← e61]; exact x_up_at
        have s106 : Seg (sg h80) u56 (u56 + 1) := Seg.push (show 2147483648 ≤ h80 76 (1152 + 2 * u56) by first | decide | omega) (show h80 76 (1152 + 2 * u56) ≤ 2147483656 by first | decide | omega)
        have s110 : Seg (sg h80) (h 75 13 - 2147483648) (h80 75 13 - 2147483648) := Seg.cast (Seg.kp s106 Kp.refl) (by first | decide | omega) (by first | decide | omega)
        obtain ⟨w111, e112⟩ := Tk.no c13 (by first | decide | omega)
        obtain ⟨w113, e114⟩ := Tk.no c28 (by first | decide | omega)
        obtain ⟨w115, e116⟩ := Tk.yes c43 (by first | decide | omega)
        have q117 : h80 75 7 = h70 75 7 := by rw [← e82]; exact x_up_i (by first | decide | omega)
        have q118 : h70 75 7 = h59 75 7 := by rw [← e72]; exact x_up_k (by decide)
        have q119 : h59 75 7 = h37 75 7 := by rw [← e61]; exact x_up_k (by decide)
        refine x_retI (np := 152) (x := 0) (by decide +kernel) (by decide) (Or.inr ⟨by decide +kernel, by first | decide | omega, by first | decide | omega⟩) ⟨_, rfl, (by decide), ?_⟩
        exact ⟨j81, f83, (by first | decide | omega), (fun z => by first | decide | omega), (fun z => by first | decide | omega), (fun z => by first | decide | omega), (fun z => by first | decide | omega), k99, (fun _ => s110), (gA_own w115 (Eq.trans e114 e112) e116 (by first | decide | omega) (congrArg (sk tB tN) (show h37 75 7 = h80 75 7 by first | decide | omega)))⟩
      have q47 : ¬ (v33 ≠ 2147483648) := q47
      refine x_aload (np := 126) (x := 0) (by decide +kernel) rfl (x_nc_le (by decide)) ?_
      refine x_ldcB (i := 26) (idx := 252) (tx := "mine") (by rw [tb_y190]; exact List.mem_of_getElem? (i := 61) rfl) (by decide) (by rw [tb_b190]; decide +kernel) ?_
      have m123 := Tq.fr m36 f39 (by decide) (by decide)
      refine x_cI (t := 6) (mj := 171) (n := 2) (rc := 12) (ml := 2) (nr := 0) (np := 131) (as := [x_r 75, x_b (26 + 1)]) (rest := []) (lo1 := [x_r 75, x_b (26 + 1)]) (by decide +kernel) (by decide) (by decide +kernel) (x_rb_of (by decide +kernel)) rfl rfl (x_wr (by decide) (x_wB (by decide) x_wn)) x_wn (by decide) rfl (c171_75_S0 j38  (by decide) m123) (fun v120 h124 l121 q122 => ?_)
      obtain ⟨j125, f126, b127, c128, c129, c130⟩ := q122
      have f131 := Fr.trans f44 f126 (by decide)
      have b132 := jB (e := 7) 0 j125 rg_75_7_0_1 (by first | decide | omega) (by first | decide | omega)
      refine x_ifz (k := 0) (tg := 152) (np := 134) (by decide +kernel) (by decide) l121 (fun q133 => ?_) (fun q134 => ?_)
      · have q133 : v120 = 2147483648 := q133
        refine x_aload (np := 153) (x := 0) (by decide +kernel) rfl (x_nc_le (by decide)) ?_
        have q135 : h124 75 13 = h37 75 13 := jK 0 f126 rg_75_13_0_1 (by first | decide | omega) (by first | decide | omega) (by decide)
        have q136 : h37 75 13 = h22 75 13 := jK 0 f39 rg_75_13_0_1 (by first | decide | omega) (by first | decide | omega) (by decide)
        have q137 : h22 75 13 = h7 75 13 := jK 0 f24 rg_75_13_0_1 (by first | decide | omega) (by first | decide | omega) (by decide)
        have q138 : h7 75 13 = h 75 13 := jK 0 f9 rg_75_13_0_1 (by first | decide | omega) (by first | decide | omega) (by decide)
        have m142 := Tq.fr m123 f126 (by decide) (by decide)
        refine x_cI (t := 6) (mj := 189) (n := 1) (rc := 12) (ml := 1) (nr := 0) (np := 156) (as := [x_r 75]) (rest := []) (lo1 := [x_r 75]) (by decide +kernel) (by decide) (by decide +kernel) (x_rb_of (by decide +kernel)) rfl rfl (x_wr (by decide) x_wn) x_wn (by decide) rfl (c189_75 j125  (by first | decide | omega) m142) (fun v139 h143 l140 q141 => ?_)
        obtain ⟨j144, f145, b146, c147, c148, c149, c150, c151, c152⟩ := q141
        have f153 := Fr.trans f131 f145 (by decide)
        have q154 : h124 75 13 = h37 75 13 := jK 0 f126 rg_75_13_0_1 (by first | decide | omega) (by first | decide | omega) (by decide)
        have q155 : h37 75 13 = h22 75 13 := jK 0 f39 rg_75_13_0_1 (by first | decide | omega) (by first | decide | omega) (by decide)
        have q156 : h22 75 13 = h7 75 13 := jK 0 f24 rg_75_13_0_1 (by first | decide | omega) (by first | decide | omega) (by decide)
        have q157 : h7 75 13 = h 75 13 := jK 0 f9 rg_75_13_0_1 (by first | decide | omega) (by first | decide | omega) (by decide)
        have b158 := jB (e := 13) 0 j144 rg_75_13_0_1 (by first | decide | omega) (by first | decide | omega)
        have b159 := jB (e := 7) 0 j144 rg_75_7_0_1 (by first | decide | omega) (by first | decide | omega)
        have q160 : h124 75 13 = h37 75 13 := jK 0 f126 rg_75_13_0_1 (by first | decide | omega) (by first | decide | omega) (by decide)
        have q161 : h37 75 13 = h22 75 13 := jK 0 f39 rg_75_13_0_1 (by first | decide | omega) (by first | decide | omega) (by decide)
        have q162 : h22 75 13 = h7 75 13 := jK 0 f24 rg_75_13_0_1 (by first | decide | omega) (by first | decide | omega) (by decide)
        have q163 : h7 75 13 = h 75 13 := jK 0 f9 rg_75_13_0_1 (by first | decide | omega) (by first | decide | omega) (by decide)
        refine x_ifz (k := 1) (tg := 161) (np := 159) (by decide +kernel) (by decide) l140 (fun q164 => ?_) (fun q165 => ?_)
        · have q164 : v139 ≠ 2147483648 := q164
          have b166 := c147 (by first | decide | omega)
          have b167 := c148 (by first | decide | omega)
          have b168 := c149 (by first | decide | omega)
          have s169 := c151 (by first | decide | omega)
          have q170 : h124 75 13 = h37 75 13 := jK 0 f126 rg_75_13_0_1 (by first | decide | omega) (by first | decide | omega) (by decide)
          have q171 : h37 75 13 = h22 75 13 := jK 0 f39 rg_75_13_0_1 (by first | decide | omega) (by first | decide | omega) (by decide)
          have q172 : h22 75 13 = h7 75 13 := jK 0 f24 rg_75_13_0_1 (by first | decide | omega) (by first | decide | omega) (by decide)
          have q173 : h7 75 13 = h 75 13 := jK 0 f9 rg_75_13_0_1 (by first | decide | omega) (by first | decide | omega) (by decide)
          refine x_aload (np := 162) (x := 0) (by decide +kernel) rfl (x_nc_le (by decide)) ?_
          refine x_const (np := 164) (x := 9223372296700297276) (a := 2147483708) (by decide +kernel) (by decide) (by decide) ?_
          have m177 := Tq.fr m142 f145 (by decide) (by decide)
          refine x_cI (t := 6) (mj := 173) (n := 2) (rc := 12) (ml := 2) (nr := 0) (np := 167) (as := [x_r 75, iv_c 2147483708]) (rest := []) (lo1 := [x_r 75, iv_c 2147483708]) (by decide +kernel) (by decide) (by decide +kernel) (x_rb_of (by decide +kernel)) rfl rfl (x_wr (by decide) (x_wi (by decide) x_wn)) x_wn (by decide) rfl (c173_75 j144  (by first | decide | omega) m177) (fun v174 h178 l175 q176 => ?_)
          obtain ⟨j179, f180, b181, c182, c183, c184⟩ := q176
          have f185 := Fr.trans f153 f180 (by decide)
          have b186 := jB (e := 7) 0 j179 rg_75_7_0_1 (by first | decide | omega) (by first | decide | omega)
          refine x_istore (np := 168) (x := 2) (lo' := [x_r 75, iv_c v33, iv_c v174]) (by decide +kernel) l175 (Nat.le_of_ble_eq_true rfl) rfl ?_
          refine x_iload (np := 169) (x := 2) (by decide +kernel) rfl l175 ?_
          refine x_ifz (k := 1) (tg := 181) (np := 172) (by decide +kernel) (by decide) l175 (fun q187 => ?_) (fun q188 => ?_)
          · have q187 : v174 ≠ 2147483648 := q187
            have b189 := c183 (by first | decide | omega)
            refine x_aload (np := 182) (x := 0) (by decide +kernel) rfl (x_nc_le (by decide)) ?_
            have q190 : h178 75 13 = h143 75 13 := jK 0 f180 rg_75_13_0_1 (by first | decide | omega) (by first | decide | omega) (by decide)
            have m194 := Tq.fr m177 f180 (by decide) (by decide)
            refine x_cI (t := 6) (mj := 189) (n := 1) (rc := 12) (ml := 1) (nr := 0) (np := 185) (as := [x_r 75]) (rest := []) (lo1 := [x_r 75]) (by decide +kernel) (by decide) (by decide +kernel) (x_rb_of (by decide +kernel)) rfl rfl (x_wr (by decide) x_wn) x_wn (by decide) rfl (c189_75 j179  (by first | decide | omega) m194) (fun v191 h195 l192 q193 => ?_)
            obtain ⟨j196, f197, b198, c199, c200, c201, c202, c203, c204⟩ := q193
            have f205 := Fr.trans f185 f197 (by decide)
            have q206 : h178 75 13 = h143 75 13 := jK 0 f180 rg_75_13_0_1 (by first | decide | omega) (by first | decide | omega) (by decide)
            have b207 := jB (e := 13) 0 j196 rg_75_13_0_1 (by first | decide | omega) (by first | decide | omega)
            have b208 := jB (e := 7) 0 j196 rg_75_7_0_1 (by first | decide | omega) (by first | decide | omega)
            have q209 : h178 75 13 = h143 75 13 := jK 0 f180 rg_75_13_0_1 (by first | decide | omega) (by first | decide | omega) (by decide)
            refine x_ifz (k := 1) (tg := 190) (np := 188) (by decide +kernel) (by decide) l192 (fun q210 => ?_) (fun q211 => ?_)
            · have q210 : v191 ≠ 2147483648 := q210
              have b212 := c199 (by first | decide | omega)
              have b213 := c200 (by first | decide | omega)
              have b214 := c201 (by first | decide | omega)
              have s215 := c203 (by first | decide | omega)
              have q216 : h178 75 13 = h143 75 13 := jK 0 f180 rg_75_13_0_1 (by first | decide | omega) (by first | decide | omega) (by decide)
              refine x_aload (np := 191) (x := 0) (by decide +kernel) rfl (x_nc_le (by decide)) ?_
              refine x_iload (np := 192) (x := 2) (by decide +kernel) rfl l175 ?_
              refine x_ifz (k := 0) (tg := 200) (np := 195) (by decide +kernel) (by decide) l175 (fun q217 => ?_) (fun q218 => ?_)
              · have q217 : v174 = 2147483648 := q217
                exfalso; omega
              have q218 : ¬ (v174 = 2147483648) := q218
              refine x_const (np := 197) (x := 9223372081951932426) (a := 2147483658) (by decide +kernel) (by decide) (by decide) ?_
              refine x_goto (np := 200) (x := 202) (by decide +kernel) ?_
              refine x_const (np := 203) (x := 9223372039002259456) (a := 2147483648) (by decide +kernel) (by decide) (by decide) ?_
              refine x_nV (t := 6) (mj := 187) (n := 3) (rc := 12) (ml := 3) (nr := 0) (np := 206) (as := [x_r 75, iv_c 2147483658, iv_c 2147483648]) (rest := []) (lo1 := [x_r 75, iv_c 2147483658, iv_c 2147483648]) (by decide +kernel) (by decide) (by decide +kernel) (x_rb_of (by decide +kernel)) rfl rfl (x_wr (by decide) (x_wi (by decide) (x_wi (by decide) x_wn))) x_wn (by decide) rfl ?_
              refine x_aload (np := 1) (x := 0) (by decide +kernel) rfl (x_nc_le (by decide)) ?_
              have q219 : h195 75 1 = 76 := by have z := jB (e := 1) 0 j196 rg_75_1_0_1 (by decide) (by decide); omega
              refine x_getR (np := 4) (x := 705) (f := 1) (q := 76) (by decide +kernel) (by decide) (by decide +kernel) q219 ?_
              refine x_const (np := 7) (x := 9223376986804585600) (a := 2147484800) (by decide +kernel) (by decide) (by decide) ?_
              refine x_const (np := 8) (x := 9223372047592194050) (a := 2147483650) (by decide +kernel) (by decide) (by decide) ?_
              refine x_aload (np := 9) (x := 0) (by decide +kernel) rfl (x_nc_le (by decide)) ?_
              refine x_getC (np := 12) (x := 717) (f := 13) (q := (h195 75 13)) (by decide +kernel) (by decide) (by decide +kernel) rfl (fun l220 => ?_)
              obtain ⟨u221, q222⟩ : ∃ z, (h195 75 13) = 2147483648 + z := ⟨(h195 75 13) - 2147483648, by first | decide | omega⟩
              refine x_imul (np := 13) (x := 0) (i := 2) (j := u221) (v := (2147483648 + 2 * u221)) (by decide +kernel) (by first | decide | omega) (by first | decide | omega) (by first | decide | omega) (by first | decide | omega) (by decide) l220 ?_
              refine x_iadd (np := 14) (x := 0) (v := (2147484800 + 2 * u221)) (by decide +kernel) (by decide) (by first | decide | omega) (by first | decide | omega) (by first | decide | omega) ?_
              refine x_iload (np := 15) (x := 1) (by decide +kernel) rfl (by decide) ?_
              refine x_ast (np := 16) (x := 0) (kd := 1) (n := 1952) (i := (1152 + 2 * u221)) (by decide +kernel) (Or.inl rfl) (by decide +kernel) (by first | decide | omega) (by first | decide | omega) (by decide) (by decide) (fun z => absurd z (by decide)) ?_
              have j225 := jU (e := (1152 + 2 * u221)) (v := 2147483658) u221 j196 rg_76_1152_2_395 (by first | decide | omega) (by first | decide | omega) (by first | decide | omega)
              have f227 := jF (e := (1152 + 2 * u221)) (v := 2147483658) u221 f205 rg_76_1152_2_395 (by first | decide | omega) (by first | decide | omega) (by decide)
              generalize e226 : x_up h195 76 (1152 + 2 * u221) 2147483658 = h224 at j225 f227 ⊢
              refine x_aload (np := 17) (x := 0) (by decide +kernel) rfl (x_nc_le (by decide)) ?_
              have q228 : h224 75 1 = 76 := by have z := jB (e := 1) 0 j225 rg_75_1_0_1 (by decide) (by decide); omega
              refine x_getR (np := 20) (x := 705) (f := 1) (q := 76) (by decide +kernel) (by decide) (by decide +kernel) q228 ?_
              refine x_const (np := 23) (x := 9223376986804585600) (a := 2147484800) (by decide +kernel) (by decide) (by decide) ?_
              refine x_const (np := 24) (x := 9223372047592194050) (a := 2147483650) (by decide +kernel) (by decide) (by decide) ?_
              refine x_aload (np := 25) (x := 0) (by decide +kernel) rfl (x_nc_le (by decide)) ?_
              have q229 : h224 75 13 = h195 75 13 := by rw [← e226]; exact x_up_k (by decide)
              refine x_getC (np := 28) (x := 717) (f := 13) (q := (h195 75 13)) (by decide +kernel) (by decide) (by decide +kernel) q229 (fun l230 => ?_)
              refine x_imul (np := 29) (x := 0) (i := 2) (j := u221) (v := (2147483648 + 2 * u221)) (by decide +kernel) (by first | decide | omega) (by first | decide | omega) (by first | decide | omega) (by first | decide | omega) (by decide) l220 ?_
              refine x_iadd (np := 30) (x := 0) (v := (2147484800 + 2 * u221)) (by decide +kernel) (by decide) (by first | decide | omega) (by first | decide | omega) (by first | decide | omega) ?_
              refine x_const (np := 31) (x := 9223372043297226753) (a := 2147483649) (by decide +kernel) (by decide) (by decide) ?_
              refine x_iadd (np := 32) (x := 0) (v := (2147484801 + 2 * u221)) (by decide +kernel) (by first | decide | omega) (by decide) (by first | decide | omega) (by first | decide | omega) ?_
              refine x_iload (np := 33) (x := 2) (by decide +kernel) rfl (by decide) ?_
              refine x_ast (np := 34) (x := 0) (kd := 1) (n := 1952) (i := (1153 + 2 * u221)) (by decide +kernel) (Or.inl rfl) (by decide +kernel) (by first | decide | omega) (by first | decide | omega) (by decide) (by decide) (fun z => absurd z (by decide)) ?_
              have j233 := jU (e := (1153 + 2 * u221)) (v := 2147483648) u221 j225 rg_76_1153_2_395 (by first | decide | omega) (by first | decide | omega) (by first | decide | omega)
              have f235 := jF (e := (1153 + 2 * u221)) (v := 2147483648) u221 f227 rg_76_1153_2_395 (by first | decide | omega) (by first | decide | omega) (by decide)
              generalize e234 : x_up h224 76 (1153 + 2 * u221) 2147483648 = h232 at j233 f235 ⊢
              refine x_aload (np := 35) (x := 0) (by decide +kernel) rfl (x_nc_le (by decide)) ?_
              refine x_dup (np := 36) (x := 0) (by decide +kernel) (by have z := x_nc_le (k := 75) (by decide); unfold x_r; omega) ?_
              have q236 : h232 75 13 = h224 75 13 := by rw [← e234]; exact x_up_k (by decide)
              have q237 : h224 75 13 = h195 75 13 := by rw [← e226]; exact x_up_k (by decide)
              refine x_getC (np := 39) (x := 717) (f := 13) (q := (h195 75 13)) (by decide +kernel) (by decide) (by decide +kernel) (q236.trans q237) (fun l238 => ?_)
              refine x_const (np := 40) (x := 9223372043297226753) (a := 2147483649) (by decide +kernel) (by decide) (by decide) ?_
              refine x_iadd (np := 41) (x := 0) (v := (1 + (h195 75 13))) (by decide +kernel) l220 (by decide) (by first | decide | omega) (by first | decide | omega) ?_
              refine x_putI (np := 44) (x := 717) (f := 13) (by decide +kernel) (by decide +kernel) (by first | decide | omega) (Or.inl (by decide)) ?_
              have j240 := jU (e := 13) (v := (1 + (h195 75 13))) 0 j233 rg_75_13_0_1 (by first | decide | omega) (by first | decide | omega) (by first | decide | omega)
              have f242 := jF (e := 13) (v := (1 + (h195 75 13))) 0 f235 rg_75_13_0_1 (by first | decide | omega) (by first | decide | omega) (by decide)
              generalize e241 : x_up h232 75 13 (1 + (h195 75 13)) = h239 at j240 f242 ⊢
              refine x_retV (np := 45) (x := 0) (by decide +kernel) (by decide +kernel) ⟨rfl, ?_⟩
              have q243 : h239 75 13 = (1 + (h195 75 13)) := by rw [← e241]; exact x_up_at
              refine x_const (np := 207) (x := 9223372043297226753) (a := 2147483649) (by decide +kernel) (by decide) (by decide) ?_
              have q244 : h239 75 13 = (1 + (h195 75 13)) := by rw [← e241]; exact x_up_at
              have q245 : h239 75 7 = h232 75 7 := by rw [← e241]; exact x_up_i (by first | decide | omega)
              have q246 : h232 75 7 = h224 75 7 := by rw [← e234]; exact x_up_k (by decide)
              have q247 : h224 75 7 = h195 75 7 := by rw [← e226]; exact x_up_k (by decide)
              have q248 : h239 75 10 = h232 75 10 := by rw [← e241]; exact x_up_i (by first | decide | omega)
              have q249 : h232 75 10 = h224 75 10 := by rw [← e234]; exact x_up_k (by decide)
              have q250 : h224 75 10 = h195 75 10 := by rw [← e226]; exact x_up_k (by decide)
              have q251 : h195 75 10 = h178 75 10 := jK 0 f197 rg_75_10_0_1 (by first | decide | omega) (by first | decide | omega) (by decide)
              have q252 : h178 75 10 = h143 75 10 := jK 0 f180 rg_75_10_0_1 (by first | decide | omega) (by first | decide | omega) (by decide)
              have q253 : h143 75 10 = h124 75 10 := jK 0 f145 rg_75_10_0_1 (by first | decide | omega) (by first | decide | omega) (by decide)
              have q254 : h124 75 10 = h37 75 10 := jK 0 f126 rg_75_10_0_1 (by first | decide | omega) (by first | decide | omega) (by decide)
              have q255 : h37 75 10 = h22 75 10 := jK 0 f39 rg_75_10_0_1 (by first | decide | omega) (by first | decide | omega) (by decide)
              have q256 : h22 75 10 = h7 75 10 := jK 0 f24 rg_75_10_0_1 (by first | decide | omega) (by first | decide | omega) (by decide)
              have q257 : h7 75 10 = h 75 10 := jK 0 f9 rg_75_10_0_1 (by first | decide | omega) (by first | decide | omega) (by decide)
              have q258 : h239 75 7 = h232 75 7 := by rw [← e241]; exact x_up_i (by first | decide | omega)
              have q259 : h232 75 7 = h224 75 7 := by rw [← e234]; exact x_up_k (by decide)
              have q260 : h224 75 7 = h195 75 7 := by rw [← e226]; exact x_up_k (by decide)
              have q261 : h239 75 13 = (1 + (h195 75 13)) := by rw [← e241]; exact x_up_at
              have k271 : Kp h h7 (h 75 13 - 2147483648) := Kp.fr Kp.refl f9 (by first | decide | omega) (by decide)
              have k270 : Kp h h22 (h 75 13 - 2147483648) := Kp.fr k271 f24 (by first | decide | omega) (by decide)
              have k269 : Kp h h37 (h 75 13 - 2147483648) := Kp.fr k270 f39 (by first | decide | omega) (by decide)
              have k268 : Kp h h124 (h 75 13 - 2147483648) := Kp.fr k269 f126 (by first | decide | omega) (by decide)
              have q272 : h124 75 13 = h37 75 13 := jK 0 f126 rg_75_13_0_1 (by first | decide | omega) (by first | decide | omega) (by decide)
              have q273 : h37 75 13 = h22 75 13 := jK 0 f39 rg_75_13_0_1 (by first | decide | omega) (by first | decide | omega) (by decide)
              have q274 : h22 75 13 = h7 75 13 := jK 0 f24 rg_75_13_0_1 (by first | decide | omega) (by first | decide | omega) (by decide)
              have q275 : h7 75 13 = h 75 13 := jK 0 f9 rg_75_13_0_1 (by first | decide | omega) (by first | decide | omega) (by decide)
              have k267 : Kp h h143 (h 75 13 - 2147483648) := Kp.trans k268 c150 (by first | decide | omega)
              have k266 : Kp h h178 (h 75 13 - 2147483648) := Kp.fr k267 f180 (by first | decide | omega) (by decide)
              have q276 : h178 75 13 = h143 75 13 := jK 0 f180 rg_75_13_0_1 (by first | decide | omega) (by first | decide | omega) (by decide)
              have k265 : Kp h h195 (h 75 13 - 2147483648) := Kp.trans k266 c202 (by first | decide | omega)
              have k264 : Kp h h224 (h 75 13 - 2147483648) := by rw [← e226]; exact Kp.up k265 (by first | decide | omega) (fun i hi => by first | decide | omega)
              have k263 : Kp h h232 (h 75 13 - 2147483648) := by rw [← e234]; exact Kp.up k264 (by first | decide | omega) (fun i hi => by first | decide | omega)
              have k262 : Kp h h239 (h 75 13 - 2147483648) := by rw [← e241]; exact Kp.oth k263 (by decide)
              have q277 : h239 75 13 = (1 + (h195 75 13)) := by rw [← e241]; exact x_up_at
              have q279 : h239 76 (1152 + 2 * u221) = h232 76 (1152 + 2 * u221) := by rw [← e241]; exact x_up_k (by decide)
              have q280 : h232 76 (1152 + 2 * u221) = h224 76 (1152 + 2 * u221) := by rw [← e234]; exact x_up_i (by first | decide | omega)
              have q281 : h224 76 (1152 + 2 * u221) = 2147483658 := by rw [← e226]; exact x_up_at
              have k286 : Kp h143 h178 (h143 75 13 - 2147483648) := Kp.fr Kp.refl f180 (by first | decide | omega) (by decide)
              have q287 : h178 75 13 = h143 75 13 := jK 0 f180 rg_75_13_0_1 (by first | decide | omega) (by first | decide | omega) (by decide)
              have k285 : Kp h143 h195 (h143 75 13 - 2147483648) := Kp.trans k286 c202 (by first | decide | omega)
              have k284 : Kp h143 h224 (h143 75 13 - 2147483648) := by rw [← e226]; exact Kp.up k285 (by first | decide | omega) (fun i hi => by first | decide | omega)
              have k283 : Kp h143 h232 (h143 75 13 - 2147483648) := by rw [← e234]; exact Kp.up k284 (by first | decide | omega) (fun i hi => by first | decide | omega)
              have k282 : Kp h143 h239 (h143 75 13 - 2147483648) := by rw [← e241]; exact Kp.oth k283 (by decide)
              have k290 : Kp h195 h224 (h195 75 13 - 2147483648) := by rw [← e226]; exact Kp.up Kp.refl (by first | decide | omega) (fun i hi => by first | decide | omega)
              have k289 : Kp h195 h232 (h195 75 13 - 2147483648) := by rw [← e234]; exact Kp.up k290 (by first | decide | omega) (fun i hi => by first | decide | omega)
              have k288 : Kp h195 h239 (h195 75 13 - 2147483648) := by rw [← e241]; exact Kp.oth k289 (by decide)
              have s278 : Seg (sg h239) (h124 75 13 - 2147483648) (u221 + 1) := Seg.bin (Seg.kp s169 k282) (Seg.cast (a' := (h143 75 13 - 2147483648)) (b' := u221) (Seg.kp s215 k288) (by first | decide | omega) (by first | decide | omega)) (show 2147483656 < h239 76 (1152 + 2 * u221) by first | decide | omega) (show h239 76 (1152 + 2 * u221) ≠ 2147483660 by first | decide | omega)
              have s291 : Seg (sg h239) (h 75 13 - 2147483648) (h239 75 13 - 2147483648) := Seg.cast (Seg.kp s278 Kp.refl) (by first | decide | omega) (by first | decide | omega)
              obtain ⟨w292, e293⟩ := Tk.no c13 (by first | decide | omega)
              obtain ⟨w294, e295⟩ := Tk.no c28 (by first | decide | omega)
              obtain ⟨w296, e297⟩ := Tk.no c43 (by first | decide | omega)
              obtain ⟨w298, e299⟩ := Tk.no c130 (by first | decide | omega)
              have w300 : An tB tN (sk tB tN (h 75 7)) := gA_an w294 e293 w292 rfl w296 (Eq.trans e295 e293) w298 (Eq.trans e297 (Eq.trans e295 e293))
              obtain ⟨w301, e302⟩ := Tk.yes c184 (by first | decide | omega)
              have q303 : h239 75 7 = h232 75 7 := by rw [← e241]; exact x_up_i (by first | decide | omega)
              have q304 : h232 75 7 = h224 75 7 := by rw [← e234]; exact x_up_k (by decide)
              have q305 : h224 75 7 = h195 75 7 := by rw [← e226]; exact x_up_k (by decide)
              refine x_retI (np := 208) (x := 0) (by decide +kernel) (by decide) (Or.inr ⟨by decide +kernel, by first | decide | omega, by first | decide | omega⟩) ⟨_, rfl, (by decide), ?_⟩
              exact ⟨j240, f242, (by first | decide | omega), (fun z => by first | decide | omega), (fun z => by first | decide | omega), (fun z => by first | decide | omega), (fun z => by first | decide | omega), k262, (fun _ => s291), (gA_c2 w300 (c152 4) (Eq.trans e299 (Eq.trans e297 (Eq.trans e295 e293))) (by first | decide | omega) (Or.inl w301) rfl e302 (c204 4) rfl (by first | decide | omega) (fun z => (congrArg (sk tB tN) (show h195 75 7 = h239 75 7 by first | decide | omega))))⟩
            have q211 : ¬ (v191 ≠ 2147483648) := q211
            refine x_const (np := 189) (x := 9223372039002259456) (a := 2147483648) (by decide +kernel) (by decide) (by decide) ?_
            have q306 : h195 75 10 = h178 75 10 := jK 0 f197 rg_75_10_0_1 (by first | decide | omega) (by first | decide | omega) (by decide)
            have q307 : h178 75 10 = h143 75 10 := jK 0 f180 rg_75_10_0_1 (by first | decide | omega) (by first | decide | omega) (by decide)
            have q308 : h143 75 10 = h124 75 10 := jK 0 f145 rg_75_10_0_1 (by first | decide | omega) (by first | decide | omega) (by decide)
            have q309 : h124 75 10 = h37 75 10 := jK 0 f126 rg_75_10_0_1 (by first | decide | omega) (by first | decide | omega) (by decide)
            have q310 : h37 75 10 = h22 75 10 := jK 0 f39 rg_75_10_0_1 (by first | decide | omega) (by first | decide | omega) (by decide)
            have q311 : h22 75 10 = h7 75 10 := jK 0 f24 rg_75_10_0_1 (by first | decide | omega) (by first | decide | omega) (by decide)
            have q312 : h7 75 10 = h 75 10 := jK 0 f9 rg_75_10_0_1 (by first | decide | omega) (by first | decide | omega) (by decide)
            have k319 : Kp h h7 (h 75 13 - 2147483648) := Kp.fr Kp.refl f9 (by first | decide | omega) (by decide)
            have k318 : Kp h h22 (h 75 13 - 2147483648) := Kp.fr k319 f24 (by first | decide | omega) (by decide)
            have k317 : Kp h h37 (h 75 13 - 2147483648) := Kp.fr k318 f39 (by first | decide | omega) (by decide)
            have k316 : Kp h h124 (h 75 13 - 2147483648) := Kp.fr k317 f126 (by first | decide | omega) (by decide)
            have q320 : h124 75 13 = h37 75 13 := jK 0 f126 rg_75_13_0_1 (by first | decide | omega) (by first | decide | omega) (by decide)
            have q321 : h37 75 13 = h22 75 13 := jK 0 f39 rg_75_13_0_1 (by first | decide | omega) (by first | decide | omega) (by decide)
            have q322 : h22 75 13 = h7 75 13 := jK 0 f24 rg_75_13_0_1 (by first | decide | omega) (by first | decide | omega) (by decide)
            have q323 : h7 75 13 = h 75 13 := jK 0 f9 rg_75_13_0_1 (by first | decide | omega) (by first | decide | omega) (by decide)
            have k315 : Kp h h143 (h 75 13 - 2147483648) := Kp.trans k316 c150 (by first | decide | omega)
            have k314 : Kp h h178 (h 75 13 - 2147483648) := Kp.fr k315 f180 (by first | decide | omega) (by decide)
            have q324 : h178 75 13 = h143 75 13 := jK 0 f180 rg_75_13_0_1 (by first | decide | omega) (by first | decide | omega) (by decide)
            have k313 : Kp h h195 (h 75 13 - 2147483648) := Kp.trans k314 c202 (by first | decide | omega)
            obtain ⟨w325, e326⟩ := Tk.no c13 (by first | decide | omega)
            obtain ⟨w327, e328⟩ := Tk.no c28 (by first | decide | omega)
            obtain ⟨w329, e330⟩ := Tk.no c43 (by first | decide | omega)
            obtain ⟨w331, e332⟩ := Tk.no c130 (by first | decide | omega)
            have w333 : An tB tN (sk tB tN (h 75 7)) := gA_an w327 e326 w325 rfl w329 (Eq.trans e328 e326) w331 (Eq.trans e330 (Eq.trans e328 e326))
            obtain ⟨w334, e335⟩ := Tk.yes c184 (by first | decide | omega)
            refine x_retI (np := 190) (x := 0) (by decide +kernel) (by decide) (Or.inr ⟨by decide +kernel, by first | decide | omega, by first | decide | omega⟩) ⟨_, rfl, (by decide), ?_⟩
            exact ⟨j196, f205, (by first | decide | omega), (fun z => by first | decide | omega), (fun z => by first | decide | omega), (fun z => by first | decide | omega), (fun z => by first | decide | omega), k313, (fun z => absurd z (by first | decide | omega)), (gA_c2 w333 (c152 4) (Eq.trans e332 (Eq.trans e330 (Eq.trans e328 e326))) (by first | decide | omega) (Or.inl w334) rfl e335 (c204 4) rfl (by first | decide | omega) (fun z => absurd z (by first | decide | omega)))⟩
          have q188 : ¬ (v174 ≠ 2147483648) := q188
          refine x_aload (np := 173) (x := 0) (by decide +kernel) rfl (x_nc_le (by decide)) ?_
          refine x_const (np := 175) (x := 9223372305290231870) (a := 2147483710) (by decide +kernel) (by decide) (by decide) ?_
          have m339 := Tq.fr m177 f180 (by decide) (by decide)
          refine x_cI (t := 6) (mj := 173) (n := 2) (rc := 12) (ml := 2) (nr := 0) (np := 178) (as := [x_r 75, iv_c 2147483710]) (rest := []) (lo1 := [x_r 75, iv_c 2147483710]) (by decide +kernel) (by decide) (by decide +kernel) (x_rb_of (by decide +kernel)) rfl rfl (x_wr (by decide) (x_wi (by decide) x_wn)) x_wn (by decide) rfl (c173_75 j179  (by first | decide | omega) m339) (fun v336 h340 l337 q338 => ?_)
          obtain ⟨j341, f342, b343, c344, c345, c346⟩ := q338
          have f347 := Fr.trans f185 f342 (by decide)
          have b348 := jB (e := 7) 0 j341 rg_75_7_0_1 (by first | decide | omega) (by first | decide | omega)
          refine x_ifz (k := 0) (tg := 188) (np := 181) (by decide +kernel) (by decide) l337 (fun q349 => ?_) (fun q350 => ?_)
          · have q349 : v336 = 2147483648 := q349
            refine x_const (np := 189) (x := 9223372039002259456) (a := 2147483648) (by decide +kernel) (by decide) (by decide) ?_
            have q351 : h340 75 13 = h178 75 13 := jK 0 f342 rg_75_13_0_1 (by first | decide | omega) (by first | decide | omega) (by decide)
            have q352 : h178 75 13 = h143 75 13 := jK 0 f180 rg_75_13_0_1 (by first | decide | omega) (by first | decide | omega) (by decide)
            have q353 : h340 75 10 = h178 75 10 := jK 0 f342 rg_75_10_0_1 (by first | decide | omega) (by first | decide | omega) (by decide)
            have q354 : h178 75 10 = h143 75 10 := jK 0 f180 rg_75_10_0_1 (by first | decide | omega) (by first | decide | omega) (by decide)
            have q355 : h143 75 10 = h124 75 10 := jK 0 f145 rg_75_10_0_1 (by first | decide | omega) (by first | decide | omega) (by decide)
            have q356 : h124 75 10 = h37 75 10 := jK 0 f126 rg_75_10_0_1 (by first | decide | omega) (by first | decide | omega) (by decide)
            have q357 : h37 75 10 = h22 75 10 := jK 0 f39 rg_75_10_0_1 (by first | decide | omega) (by first | decide | omega) (by decide)
            have q358 : h22 75 10 = h7 75 10 := jK 0 f24 rg_75_10_0_1 (by first | decide | omega) (by first | decide | omega) (by decide)
            have q359 : h7 75 10 = h 75 10 := jK 0 f9 rg_75_10_0_1 (by first | decide | omega) (by first | decide | omega) (by decide)
            have q360 : h340 75 13 = h178 75 13 := jK 0 f342 rg_75_13_0_1 (by first | decide | omega) (by first | decide | omega) (by decide)
            have q361 : h178 75 13 = h143 75 13 := jK 0 f180 rg_75_13_0_1 (by first | decide | omega) (by first | decide | omega) (by decide)
            have k368 : Kp h h7 (h 75 13 - 2147483648) := Kp.fr Kp.refl f9 (by first | decide | omega) (by decide)
            have k367 : Kp h h22 (h 75 13 - 2147483648) := Kp.fr k368 f24 (by first | decide | omega) (by decide)
            have k366 : Kp h h37 (h 75 13 - 2147483648) := Kp.fr k367 f39 (by first | decide | omega) (by decide)
            have k365 : Kp h h124 (h 75 13 - 2147483648) := Kp.fr k366 f126 (by first | decide | omega) (by decide)
            have q369 : h124 75 13 = h37 75 13 := jK 0 f126 rg_75_13_0_1 (by first | decide | omega) (by first | decide | omega) (by decide)
            have q370 : h37 75 13 = h22 75 13 := jK 0 f39 rg_75_13_0_1 (by first | decide | omega) (by first | decide | omega) (by decide)
            have q371 : h22 75 13 = h7 75 13 := jK 0 f24 rg_75_13_0_1 (by first | decide | omega) (by first | decide | omega) (by decide)
            have q372 : h7 75 13 = h 75 13 := jK 0 f9 rg_75_13_0_1 (by first | decide | omega) (by first | decide | omega) (by decide)
            have k364 : Kp h h143 (h 75 13 - 2147483648) := Kp.trans k365 c150 (by first | decide | omega)
            have k363 : Kp h h178 (h 75 13 - 2147483648) := Kp.fr k364 f180 (by first | decide | omega) (by decide)
            have k362 : Kp h h340 (h 75 13 - 2147483648) := Kp.fr k363 f342 (by first | decide | omega) (by decide)
            obtain ⟨w373, e374⟩ := Tk.no c13 (by first | decide | omega)
            obtain ⟨w375, e376⟩ := Tk.no c28 (by first | decide | omega)
            obtain ⟨w377, e378⟩ := Tk.no c43 (by first | decide | omega)
            obtain ⟨w379, e380⟩ := Tk.no c130 (by first | decide | omega)
            have w381 : An tB tN (sk tB tN (h 75 7)) := gA_an w375 e374 w373 rfl w377 (Eq.trans e376 e374) w379 (Eq.trans e378 (Eq.trans e376 e374))
            obtain ⟨w382, e383⟩ := Tk.no c184 (by first | decide | omega)
            obtain ⟨w384, e385⟩ := Tk.no c346 (by first | decide | omega)
            refine x_retI (np := 190) (x := 0) (by decide +kernel) (by decide) (Or.inr ⟨by decide +kernel, by first | decide | omega, by first | decide | omega⟩) ⟨_, rfl, (by decide), ?_⟩
            exact ⟨j341, f347, (by first | decide | omega), (fun z => by first | decide | omega), (fun z => by first | decide | omega), (fun z => by first | decide | omega), (fun z => by first | decide | omega), k362, (fun z => absurd z (by first | decide | omega)), (gA_c1 w381 (c152 4) (Eq.trans e380 (Eq.trans e378 (Eq.trans e376 e374))) (by first | decide | omega) w382 rfl w384 (Eq.trans rfl (Eq.trans e383 rfl)) (by first | decide | omega))⟩
          have q350 : ¬ (v336 = 2147483648) := q350
          have b386 := c345 (by first | decide | omega)
          refine x_aload (np := 182) (x := 0) (by decide +kernel) rfl (x_nc_le (by decide)) ?_
          have q387 : h340 75 13 = h178 75 13 := jK 0 f342 rg_75_13_0_1 (by first | decide | omega) (by first | decide | omega) (by decide)
          have q388 : h178 75 13 = h143 75 13 := jK 0 f180 rg_75_13_0_1 (by first | decide | omega) (by first | decide | omega) (by decide)
          have m392 := Tq.fr m339 f342 (by decide) (by decide)
          refine x_cI (t := 6) (mj := 189) (n := 1) (rc := 12) (ml := 1) (nr := 0) (np := 185) (as := [x_r 75]) (rest := []) (lo1 := [x_r 75]) (by decide +kernel) (by decide) (by decide +kernel) (x_rb_of (by decide +kernel)) rfl rfl (x_wr (by decide) x_wn) x_wn (by decide) rfl (c189_75 j341  (by first | decide | omega) m392) (fun v389 h393 l390 q391 => ?_)
          obtain ⟨j394, f395, b396, c397, c398, c399, c400, c401, c402⟩ := q391
          have f403 := Fr.trans f347 f395 (by decide)
          have q404 : h340 75 13 = h178 75 13 := jK 0 f342 rg_75_13_0_1 (by first | decide | omega) (by first | decide | omega) (by decide)
          have q405 : h178 75 13 = h143 75 13 := jK 0 f180 rg_75_13_0_1 (by first | decide | omega) (by first | decide | omega) (by decide)
          have b406 := jB (e := 13) 0 j394 rg_75_13_0_1 (by first | decide | omega) (by first | decide | omega)
          have b407 := jB (e := 7) 0 j394 rg_75_7_0_1 (by first | decide | omega) (by first | decide | omega)
          have q408 : h340 75 13 = h178 75 13 := jK 0 f342 rg_75_13_0_1 (by first | decide | omega) (by first | decide | omega) (by decide)
          have q409 : h178 75 13 = h143 75 13 := jK 0 f180 rg_75_13_0_1 (by first | decide | omega) (by first | decide | omega) (by decide)
          refine x_ifz (k := 1) (tg := 190) (np := 188) (by decide +kernel) (by decide) l390 (fun q410 => ?_) (fun q411 => ?_)
          · have q410 : v389 ≠ 2147483648 := q410
            have b412 := c397 (by first | decide | omega)
            have b413 := c398 (by first | decide | omega)
            have b414 := c399 (by first | decide | omega)
            have s415 := c401 (by first | decide | omega)
            have q416 : h340 75 13 = h178 75 13 := jK 0 f342 rg_75_13_0_1 (by first | decide | omega) (by first | decide | omega) (by decide)
            have q417 : h178 75 13 = h143 75 13 := jK 0 f180 rg_75_13_0_1 (by first | decide | omega) (by first | decide | omega) (by decide)
            refine x_aload (np := 191) (x := 0) (by decide +kernel) rfl (x_nc_le (by decide)) ?_
            refine x_iload (np := 192) (x := 2) (by decide +kernel) rfl l175 ?_
            refine x_ifz (k := 0) (tg := 200) (np := 195) (by decide +kernel) (by decide) l175 (fun q418 => ?_) (fun q419 => ?_)
            · have q418 : v174 = 2147483648 := q418
              refine x_const (np := 202) (x := 9223372086246899723) (a := 2147483659) (by decide +kernel) (by decide) (by decide) ?_
              refine x_const (np := 203) (x := 9223372039002259456) (a := 2147483648) (by decide +kernel) (by decide) (by decide) ?_
              refine x_nV (t := 6) (mj := 187) (n := 3) (rc := 12) (ml := 3) (nr := 0) (np := 206) (as := [x_r 75, iv_c 2147483659, iv_c 2147483648]) (rest := []) (lo1 := [x_r 75, iv_c 2147483659, iv_c 2147483648]) (by decide +kernel) (by decide) (by decide +kernel) (x_rb_of (by decide +kernel)) rfl rfl (x_wr (by decide) (x_wi (by decide) (x_wi (by decide) x_wn))) x_wn (by decide) rfl ?_
              refine x_aload (np := 1) (x := 0) (by decide +kernel) rfl (x_nc_le (by decide)) ?_
              have q420 : h393 75 1 = 76 := by have z := jB (e := 1) 0 j394 rg_75_1_0_1 (by decide) (by decide); omega
              refine x_getR (np := 4) (x := 705) (f := 1) (q := 76) (by decide +kernel) (by decide) (by decide +kernel) q420 ?_
              refine x_const (np := 7) (x := 9223376986804585600) (a := 2147484800) (by decide +kernel) (by decide) (by decide) ?_
              refine x_const (np := 8) (x := 9223372047592194050) (a := 2147483650) (by decide +kernel) (by decide) (by decide) ?_
              refine x_aload (np := 9) (x := 0) (by decide +kernel) rfl (x_nc_le (by decide)) ?_
              refine x_getC (np := 12) (x := 717) (f := 13) (q := (h393 75 13)) (by decide +kernel) (by decide) (by decide +kernel) rfl (fun l421 => ?_)
              obtain ⟨u422, q423⟩ : ∃ z, (h393 75 13) = 2147483648 + z := ⟨(h393 75 13) - 2147483648, by first | decide | omega⟩
              refine x_imul (np := 13) (x := 0) (i := 2) (j := u422) (v := (2147483648 + 2 * u422)) (by decide +kernel) (by first | decide | omega) (by first | decide | omega) (by first | decide | omega) (by first | decide | omega) (by decide) l421 ?_
              refine x_iadd (np := 14) (x := 0) (v := (2147484800 + 2 * u422)) (by decide +kernel) (by decide) (by first | decide | omega) (by first | decide | omega) (by first | decide | omega) ?_
              refine x_iload (np := 15) (x := 1) (by decide +kernel) rfl (by decide) ?_
              refine x_ast (np := 16) (x := 0) (kd := 1) (n := 1952) (i := (1152 + 2 * u422)) (by decide +kernel) (Or.inl rfl) (by decide +kernel) (by first | decide | omega) (by first | decide | omega) (by decide) (by decide) (fun z => absurd z (by decide)) ?_
              have j426 := jU (e := (1152 + 2 * u422)) (v := 2147483659) u422 j394 rg_76_1152_2_395 (by first | decide | omega) (by first | decide | omega) (by first | decide | omega)
              have f428 := jF (e := (1152 + 2 * u422)) (v := 2147483659) u422 f403 rg_76_1152_2_395 (by first | decide | omega) (by first | decide | omega) (by decide)
              generalize e427 : x_up h393 76 (1152 + 2 * u422) 2147483659 = h425 at j426 f428 ⊢
              refine x_aload (np := 17) (x := 0) (by decide +kernel) rfl (x_nc_le (by decide)) ?_
              have q429 : h425 75 1 = 76 := by have z := jB (e := 1) 0 j426 rg_75_1_0_1 (by decide) (by decide); omega
              refine x_getR (np := 20) (x := 705) (f := 1) (q := 76) (by decide +kernel) (by decide) (by decide +kernel) q429 ?_
              refine x_const (np := 23) (x := 9223376986804585600) (a := 2147484800) (by decide +kernel) (by decide) (by decide) ?_
              refine x_const (np := 24) (x := 9223372047592194050) (a := 2147483650) (by decide +kernel) (by decide) (by decide) ?_
              refine x_aload (np := 25) (x := 0) (by decide +kernel) rfl (x_nc_le (by decide)) ?_
              have q430 : h425 75 13 = h393 75 13 := by rw [← e427]; exact x_up_k (by decide)
              refine x_getC (np := 28) (x := 717) (f := 13) (q := (h393 75 13)) (by decide +kernel) (by decide) (by decide +kernel) q430 (fun l431 => ?_)
              refine x_imul (np := 29) (x := 0) (i := 2) (j := u422) (v := (2147483648 + 2 * u422)) (by decide +kernel) (by first | decide | omega) (by first | decide | omega) (by first | decide | omega) (by first | decide | omega) (by decide) l421 ?_
              refine x_iadd (np := 30) (x := 0) (v := (2147484800 + 2 * u422)) (by decide +kernel) (by decide) (by first | decide | omega) (by first | decide | omega) (by first | decide | omega) ?_
              refine x_const (np := 31) (x := 9223372043297226753) (a := 2147483649) (by decide +kernel) (by decide) (by decide) ?_
              refine x_iadd (np := 32) (x := 0) (v := (2147484801 + 2 * u422)) (by decide +kernel) (by first | decide | omega) (by decide) (by first | decide | omega) (by first | decide | omega) ?_
              refine x_iload (np := 33) (x := 2) (by decide +kernel) rfl (by decide) ?_
              refine x_ast (np := 34) (x := 0) (kd := 1) (n := 1952) (i := (1153 + 2 * u422)) (by decide +kernel) (Or.inl rfl) (by decide +kernel) (by first | decide | omega) (by first | decide | omega) (by decide) (by decide) (fun z => absurd z (by decide)) ?_
              have j434 := jU (e := (1153 + 2 * u422)) (v := 2147483648) u422 j426 rg_76_1153_2_395 (by first | decide | omega) (by first | decide | omega) (by first | decide | omega)
              have f436 := jF (e := (1153 + 2 * u422)) (v := 2147483648) u422 f428 rg_76_1153_2_395 (by first | decide | omega) (by first | decide | omega) (by decide)
              generalize e435 : x_up h425 76 (1153 + 2 * u422) 2147483648 = h433 at j434 f436 ⊢
              refine x_aload (np := 35) (x := 0) (by decide +kernel) rfl (x_nc_le (by decide)) ?_
              refine x_dup (np := 36) (x := 0) (by decide +kernel) (by have z := x_nc_le (k := 75) (by decide); unfold x_r; omega) ?_
              have q437 : h433 75 13 = h425 75 13 := by rw [← e435]; exact x_up_k (by decide)
              have q438 : h425 75 13 = h393 75 13 := by rw [← e427]; exact x_up_k (by decide)
              refine x_getC (np := 39) (x := 717) (f := 13) (q := (h393 75 13)) (by decide +kernel) (by decide) (by decide +kernel) (q437.trans q438) (fun l439 => ?_)
              refine x_const (np := 40) (x := 9223372043297226753) (a := 2147483649) (by decide +kernel) (by decide) (by decide) ?_
              refine x_iadd (np := 41) (x := 0) (v := (1 + (h393 75 13))) (by decide +kernel) l421 (by decide) (by first | decide | omega) (by first | decide | omega) ?_
              refine x_putI (np := 44) (x := 717) (f := 13) (by decide +kernel) (by decide +kernel) (by first | decide | omega) (Or.inl (by decide)) ?_
              have j441 := jU (e := 13) (v := (1 + (h393 75 13))) 0 j434 rg_75_13_0_1 (by first | decide | omega) (by first | decide | omega) (by first | decide | omega)
              have f443 := jF (e := 13) (v := (1 + (h393 75 13))) 0 f436 rg_75_13_0_1 (by first | decide | omega) (by first | decide | omega) (by decide)
              generalize e442 : x_up h433 75 13 (1 + (h393 75 13)) = h440 at j441 f443 ⊢
              refine x_retV (np := 45) (x := 0) (by decide +kernel) (by decide +kernel) ⟨rfl, ?_⟩
              have q444 : h440 75 13 = (1 + (h393 75 13)) := by rw [← e442]; exact x_up_at
              refine x_const (np := 207) (x := 9223372043297226753) (a := 2147483649) (by decide +kernel) (by decide) (by decide) ?_
              have q445 : h440 75 13 = (1 + (h393 75 13)) := by rw [← e442]; exact x_up_at
              have q446 : h440 75 7 = h433 75 7 := by rw [← e442]; exact x_up_i (by first | decide | omega)
              have q447 : h433 75 7 = h425 75 7 := by rw [← e435]; exact x_up_k (by decide)
              have q448 : h425 75 7 = h393 75 7 := by rw [← e427]; exact x_up_k (by decide)
              have q449 : h440 75 10 = h433 75 10 := by rw [← e442]; exact x_up_i (by first | decide | omega)
              have q450 : h433 75 10 = h425 75 10 := by rw [← e435]; exact x_up_k (by decide)
              have q451 : h425 75 10 = h393 75 10 := by rw [← e427]; exact x_up_k (by decide)
              have q452 : h393 75 10 = h340 75 10 := jK 0 f395 rg_75_10_0_1 (by first | decide | omega) (by first | decide | omega) (by decide)
              have q453 : h340 75 10 = h178 75 10 := jK 0 f342 rg_75_10_0_1 (by first | decide | omega) (by first | decide | omega) (by decide)
              have q454 : h178 75 10 = h143 75 10 := jK 0 f180 rg_75_10_0_1 (by first | decide | omega) (by first | decide | omega) (by decide)
              have q455 : h143 75 10 = h124 75 10 := jK 0 f145 rg_75_10_0_1 (by first | decide | omega) (by first | decide | omega) (by decide)
              have q456 : h124 75 10 = h37 75 10 := jK 0 f126 rg_75_10_0_1 (by first | decide | omega) (by first | decide | omega) (by decide)
              have q457 : h37 75 10 = h22 75 10 := jK 0 f39 rg_75_10_0_1 (by first | decide | omega) (by first | decide | omega) (by decide)
              have q458 : h22 75 10 = h7 75 10 := jK 0 f24 rg_75_10_0_1 (by first | decide | omega) (by first | decide | omega) (by decide)
              have q459 : h7 75 10 = h 75 10 := jK 0 f9 rg_75_10_0_1 (by first | decide | omega) (by first | decide | omega) (by decide)
              have q460 : h440 75 7 = h433 75 7 := by rw [← e442]; exact x_up_i (by first | decide | omega)
              have q461 : h433 75 7 = h425 75 7 := by rw [← e435]; exact x_up_k (by decide)
              have q462 : h425 75 7 = h393 75 7 := by rw [← e427]; exact x_up_k (by decide)
              have q463 : h440 75 13 = (1 + (h393 75 13)) := by rw [← e442]; exact x_up_at
              have k474 : Kp h h7 (h 75 13 - 2147483648) := Kp.fr Kp.refl f9 (by first | decide | omega) (by decide)
              have k473 : Kp h h22 (h 75 13 - 2147483648) := Kp.fr k474 f24 (by first | decide | omega) (by decide)
              have k472 : Kp h h37 (h 75 13 - 2147483648) := Kp.fr k473 f39 (by first | decide | omega) (by decide)
              have k471 : Kp h h124 (h 75 13 - 2147483648) := Kp.fr k472 f126 (by first | decide | omega) (by decide)
              have q475 : h124 75 13 = h37 75 13 := jK 0 f126 rg_75_13_0_1 (by first | decide | omega) (by first | decide | omega) (by decide)
              have q476 : h37 75 13 = h22 75 13 := jK 0 f39 rg_75_13_0_1 (by first | decide | omega) (by first | decide | omega) (by decide)
              have q477 : h22 75 13 = h7 75 13 := jK 0 f24 rg_75_13_0_1 (by first | decide | omega) (by first | decide | omega) (by decide)
              have q478 : h7 75 13 = h 75 13 := jK 0 f9 rg_75_13_0_1 (by first | decide | omega) (by first | decide | omega) (by decide)
              have k470 : Kp h h143 (h 75 13 - 2147483648) := Kp.trans k471 c150 (by first | decide | omega)
              have k469 : Kp h h178 (h 75 13 - 2147483648) := Kp.fr k470 f180 (by first | decide | omega) (by decide)
              have k468 : Kp h h340 (h 75 13 - 2147483648) := Kp.fr k469 f342 (by first | decide | omega) (by decide)
              have q479 : h340 75 13 = h178 75 13 := jK 0 f342 rg_75_13_0_1 (by first | decide | omega) (by first | decide | omega) (by decide)
              have q480 : h178 75 13 = h143 75 13 := jK 0 f180 rg_75_13_0_1 (by first | decide | omega) (by first | decide | omega) (by decide)
              have k467 : Kp h h393 (h 75 13 - 2147483648) := Kp.trans k468 c400 (by first | decide | omega)
              have k466 : Kp h h425 (h 75 13 - 2147483648) := by rw [← e427]; exact Kp.up k467 (by first | decide | omega) (fun i hi => by first | decide | omega)
              have k465 : Kp h h433 (h 75 13 - 2147483648) := by rw [← e435]; exact Kp.up k466 (by first | decide | omega) (fun i hi => by first | decide | omega)
              have k464 : Kp h h440 (h 75 13 - 2147483648) := by rw [← e442]; exact Kp.oth k465 (by decide)
              have q481 : h440 75 13 = (1 + (h393 75 13)) := by rw [← e442]; exact x_up_at
              have q483 : h440 76 (1152 + 2 * u422) = h433 76 (1152 + 2 * u422) := by rw [← e442]; exact x_up_k (by decide)
              have q484 : h433 76 (1152 + 2 * u422) = h425 76 (1152 + 2 * u422) := by rw [← e435]; exact x_up_i (by first | decide | omega)
              have q485 : h425 76 (1152 + 2 * u422) = 2147483659 := by rw [← e427]; exact x_up_at
              have k491 : Kp h143 h178 (h143 75 13 - 2147483648) := Kp.fr Kp.refl f180 (by first | decide | omega) (by decide)
              have k490 : Kp h143 h340 (h143 75 13 - 2147483648) := Kp.fr k491 f342 (by first | decide | omega) (by decide)
              have q492 : h340 75 13 = h178 75 13 := jK 0 f342 rg_75_13_0_1 (by first | decide | omega) (by first | decide | omega) (by decide)
              have q493 : h178 75 13 = h143 75 13 := jK 0 f180 rg_75_13_0_1 (by first | decide | omega) (by first | decide | omega) (by decide)
              have k489 : Kp h143 h393 (h143 75 13 - 2147483648) := Kp.trans k490 c400 (by first | decide | omega)
              have k488 : Kp h143 h425 (h143 75 13 - 2147483648) := by rw [← e427]; exact Kp.up k489 (by first | decide | omega) (fun i hi => by first | decide | omega)
              have k487 : Kp h143 h433 (h143 75 13 - 2147483648) := by rw [← e435]; exact Kp.up k488 (by first | decide | omega) (fun i hi => by first | decide | omega)
              have k486 : Kp h143 h440 (h143 75 13 - 2147483648) := by rw [← e442]; exact Kp.oth k487 (by decide)
              have k496 : Kp h393 h425 (h393 75 13 - 2147483648) := by rw [← e427]; exact Kp.up Kp.refl (by first | decide | omega) (fun i hi => by first | decide | omega)
              have k495 : Kp h393 h433 (h393 75 13 - 2147483648) := by rw [← e435]; exact Kp.up k496 (by first | decide | omega) (fun i hi => by first | decide | omega)
              have k494 : Kp h393 h440 (h393 75 13 - 2147483648) := by rw [← e442]; exact Kp.oth k495 (by decide)
              have s482 : Seg (sg h440) (h124 75 13 - 2147483648) (u422 + 1) := Seg.bin (Seg.kp s169 k486) (Seg.cast (a' := (h143 75 13 - 2147483648)) (b' := u422) (Seg.kp s415 k494) (by first | decide | omega) (by first | decide | omega)) (show 2147483656 < h440 76 (1152 + 2 * u422) by first | decide | omega) (show h440 76 (1152 + 2 * u422) ≠ 2147483660 by first | decide | omega)
              have s497 : Seg (sg h440) (h 75 13 - 2147483648) (h440 75 13 - 2147483648) := Seg.cast (Seg.kp s482 Kp.refl) (by first | decide | omega) (by first | decide | omega)
              obtain ⟨w498, e499⟩ := Tk.no c13 (by first | decide | omega)
              obtain ⟨w500, e501⟩ := Tk.no c28 (by first | decide | omega)
              obtain ⟨w502, e503⟩ := Tk.no c43 (by first | decide | omega)
              obtain ⟨w504, e505⟩ := Tk.no c130 (by first | decide | omega)
              have w506 : An tB tN (sk tB tN (h 75 7)) := gA_an w500 e499 w498 rfl w502 (Eq.trans e501 e499) w504 (Eq.trans e503 (Eq.trans e501 e499))
              obtain ⟨w507, e508⟩ := Tk.no c184 (by first | decide | omega)
              obtain ⟨w509, e510⟩ := Tk.yes c346 (by first | decide | omega)
              have q511 : h440 75 7 = h433 75 7 := by rw [← e442]; exact x_up_i (by first | decide | omega)
              have q512 : h433 75 7 = h425 75 7 := by rw [← e435]; exact x_up_k (by decide)
              have q513 : h425 75 7 = h393 75 7 := by rw [← e427]; exact x_up_k (by decide)
              refine x_retI (np := 208) (x := 0) (by decide +kernel) (by decide) (Or.inr ⟨by decide +kernel, by first | decide | omega, by first | decide | omega⟩) ⟨_, rfl, (by decide), ?_⟩
              exact ⟨j441, f443, (by first | decide | omega), (fun z => by first | decide | omega), (fun z => by first | decide | omega), (fun z => by first | decide | omega), (fun z => by first | decide | omega), k464, (fun _ => s497), (gA_c2 w506 (c152 4) (Eq.trans e505 (Eq.trans e503 (Eq.trans e501 e499))) (by first | decide | omega) (Or.inr w509) (Eq.trans rfl (Eq.trans e508 rfl)) e510 (c402 4) rfl (by first | decide | omega) (fun z => (congrArg (sk tB tN) (show h393 75 7 = h440 75 7 by first | decide | omega))))⟩
            have q419 : ¬ (v174 = 2147483648) := q419
            exfalso; omega
          have q411 : ¬ (v389 ≠ 2147483648) := q411
          refine x_const (np := 189) (x := 9223372039002259456) (a := 2147483648) (by decide +kernel) (by decide) (by decide) ?_
          have q514 : h393 75 10 = h340 75 10 := jK 0 f395 rg_75_10_0_1 (by first | decide | omega) (by first | decide | omega) (by decide)
          have q515 : h340 75 10 = h178 75 10 := jK 0 f342 rg_75_10_0_1 (by first | decide | omega) (by first | decide | omega) (by decide)
          have q516 : h178 75 10 = h143 75 10 := jK 0 f180 rg_75_10_0_1 (by first | decide | omega) (by first | decide | omega) (by decide)
          have q517 : h143 75 10 = h124 75 10 := jK 0 f145 rg_75_10_0_1 (by first | decide | omega) (by first | decide | omega) (by decide)
          have q518 : h124 75 10 = h37 75 10 := jK 0 f126 rg_75_10_0_1 (by first | decide | omega) (by first | decide | omega) (by decide)
          have q519 : h37 75 10 = h22 75 10 := jK 0 f39 rg_75_10_0_1 (by first | decide | omega) (by first | decide | omega) (by decide)
          have q520 : h22 75 10 = h7 75 10 := jK 0 f24 rg_75_10_0_1 (by first | decide | omega) (by first | decide | omega) (by decide)
          have q521 : h7 75 10 = h 75 10 := jK 0 f9 rg_75_10_0_1 (by first | decide | omega) (by first | decide | omega) (by decide)
          have k529 : Kp h h7 (h 75 13 - 2147483648) := Kp.fr Kp.refl f9 (by first | decide | omega) (by decide)
          have k528 : Kp h h22 (h 75 13 - 2147483648) := Kp.fr k529 f24 (by first | decide | omega) (by decide)
          have k527 : Kp h h37 (h 75 13 - 2147483648) := Kp.fr k528 f39 (by first | decide | omega) (by decide)
          have k526 : Kp h h124 (h 75 13 - 2147483648) := Kp.fr k527 f126 (by first | decide | omega) (by decide)
          have q530 : h124 75 13 = h37 75 13 := jK 0 f126 rg_75_13_0_1 (by first | decide | omega) (by first | decide | omega) (by decide)
          have q531 : h37 75 13 = h22 75 13 := jK 0 f39 rg_75_13_0_1 (by first | decide | omega) (by first | decide | omega) (by decide)
          have q532 : h22 75 13 = h7 75 13 := jK 0 f24 rg_75_13_0_1 (by first | decide | omega) (by first | decide | omega) (by decide)
          have q533 : h7 75 13 = h 75 13 := jK 0 f9 rg_75_13_0_1 (by first | decide | omega) (by first | decide | omega) (by decide)
          have k525 : Kp h h143 (h 75 13 - 2147483648) := Kp.trans k526 c150 (by first | decide | omega)
          have k524 : Kp h h178 (h 75 13 - 2147483648) := Kp.fr k525 f180 (by first | decide | omega) (by decide)
          have k523 : Kp h h340 (h 75 13 - 2147483648) := Kp.fr k524 f342 (by first | decide | omega) (by decide)
          have q534 : h340 75 13 = h178 75 13 := jK 0 f342 rg_75_13_0_1 (by first | decide | omega) (by first | decide | omega) (by decide)
          have q535 : h178 75 13 = h143 75 13 := jK 0 f180 rg_75_13_0_1 (by first | decide | omega) (by first | decide | omega) (by decide)
          have k522 : Kp h h393 (h 75 13 - 2147483648) := Kp.trans k523 c400 (by first | decide | omega)
          obtain ⟨w536, e537⟩ := Tk.no c13 (by first | decide | omega)
          obtain ⟨w538, e539⟩ := Tk.no c28 (by first | decide | omega)
          obtain ⟨w540, e541⟩ := Tk.no c43 (by first | decide | omega)
          obtain ⟨w542, e543⟩ := Tk.no c130 (by first | decide | omega)
          have w544 : An tB tN (sk tB tN (h 75 7)) := gA_an w538 e537 w536 rfl w540 (Eq.trans e539 e537) w542 (Eq.trans e541 (Eq.trans e539 e537))
          obtain ⟨w545, e546⟩ := Tk.no c184 (by first | decide | omega)
          obtain ⟨w547, e548⟩ := Tk.yes c346 (by first | decide | omega)
          refine x_retI (np := 190) (x := 0) (by decide +kernel) (by decide) (Or.inr ⟨by decide +kernel, by first | decide | omega, by first | decide | omega⟩) ⟨_, rfl, (by decide), ?_⟩
          exact ⟨j394, f403, (by first | decide | omega), (fun z => by first | decide | omega), (fun z => by first | decide | omega), (fun z => by first | decide | omega), (fun z => by first | decide | omega), k522, (fun z => absurd z (by first | decide | omega)), (gA_c2 w544 (c152 4) (Eq.trans e543 (Eq.trans e541 (Eq.trans e539 e537))) (by first | decide | omega) (Or.inr w547) (Eq.trans rfl (Eq.trans e546 rfl)) e548 (c402 4) rfl (by first | decide | omega) (fun z => absurd z (by first | decide | omega)))⟩
        have q165 : ¬ (v139 ≠ 2147483648) := q165
        refine x_const (np := 160) (x := 9223372039002259456) (a := 2147483648) (by decide +kernel) (by decide) (by decide) ?_
        have q549 : h143 75 10 = h124 75 10 := jK 0 f145 rg_75_10_0_1 (by first | decide | omega) (by first | decide | omega) (by decide)
        have q550 : h124 75 10 = h37 75 10 := jK 0 f126 rg_75_10_0_1 (by first | decide | omega) (by first | decide | omega) (by decide)
        have q551 : h37 75 10 = h22 75 10 := jK 0 f39 rg_75_10_0_1 (by first | decide | omega) (by first | decide | omega) (by decide)
        have q552 : h22 75 10 = h7 75 10 := jK 0 f24 rg_75_10_0_1 (by first | decide | omega) (by first | decide | omega) (by decide)
        have q553 : h7 75 10 = h 75 10 := jK 0 f9 rg_75_10_0_1 (by first | decide | omega) (by first | decide | omega) (by decide)
        have k558 : Kp h h7 (h 75 13 - 2147483648) := Kp.fr Kp.refl f9 (by first | decide | omega) (by decide)
        have k557 : Kp h h22 (h 75 13 - 2147483648) := Kp.fr k558 f24 (by first | decide | omega) (by decide)
        have k556 : Kp h h37 (h 75 13 - 2147483648) := Kp.fr k557 f39 (by first | decide | omega) (by decide)
        have k555 : Kp h h124 (h 75 13 - 2147483648) := Kp.fr k556 f126 (by first | decide | omega) (by decide)
        have q559 : h124 75 13 = h37 75 13 := jK 0 f126 rg_75_13_0_1 (by first | decide | omega) (by first | decide | omega) (by decide)
        have q560 : h37 75 13 = h22 75 13 := jK 0 f39 rg_75_13_0_1 (by first | decide | omega) (by first | decide | omega) (by decide)
        have q561 : h22 75 13 = h7 75 13 := jK 0 f24 rg_75_13_0_1 (by first | decide | omega) (by first | decide | omega) (by decide)
        have q562 : h7 75 13 = h 75 13 := jK 0 f9 rg_75_13_0_1 (by first | decide | omega) (by first | decide | omega) (by decide)
        have k554 : Kp h h143 (h 75 13 - 2147483648) := Kp.trans k555 c150 (by first | decide | omega)
        obtain ⟨w563, e564⟩ := Tk.no c13 (by first | decide | omega)
        obtain ⟨w565, e566⟩ := Tk.no c28 (by first | decide | omega)
        obtain ⟨w567, e568⟩ := Tk.no c43 (by first | decide | omega)
        obtain ⟨w569, e570⟩ := Tk.no c130 (by first | decide | omega)
        have w571 : An tB tN (sk tB tN (h 75 7)) := gA_an w565 e564 w563 rfl w567 (Eq.trans e566 e564) w569 (Eq.trans e568 (Eq.trans e566 e564))
        refine x_retI (np := 161) (x := 0) (by decide +kernel) (by decide) (Or.inr ⟨by decide +kernel, by first | decide | omega, by first | decide | omega⟩) ⟨_, rfl, (by decide), ?_⟩
        exact ⟨j144, f153, (by first | decide | omega), (fun z => by first | decide | omega), (fun z => by first | decide | omega), (fun z => by first | decide | omega), (fun z => by first | decide | omega), k554, (fun z => absurd z (by first | decide | omega)), (gA_c0 w571 (c152 4) (Eq.trans e570 (Eq.trans e568 (Eq.trans e566 e564))) (by first | decide | omega) (by first | decide | omega))⟩
      have q134 : ¬ (v120 = 2147483648) := q134
      have b572 := c129 (by first | decide | omega)
      refine x_aload (np := 135) (x := 0) (by decide +kernel) rfl (x_nc_le (by decide)) ?_
      refine x_iload (np := 136) (x := 1) (by decide +kernel) rfl l34 ?_
      refine x_ifz (k := 0) (tg := 144) (np := 139) (by decide +kernel) (by decide) l34 (fun q573 => ?_) (fun q574 => ?_)
      · have q573 : v33 = 2147483648 := q573
        refine x_const (np := 146) (x := 9223372069067030535) (a := 2147483655) (by decide +kernel) (by decide) (by decide) ?_
        refine x_const (np := 147) (x := 9223372039002259456) (a := 2147483648) (by decide +kernel) (by decide) (by decide) ?_
        refine x_nV (t := 6) (mj := 187) (n := 3) (rc := 12) (ml := 3) (nr := 0) (np := 150) (as := [x_r 75, iv_c 2147483655, iv_c 2147483648]) (rest := []) (lo1 := [x_r 75, iv_c 2147483655, iv_c 2147483648]) (by decide +kernel) (by decide) (by decide +kernel) (x_rb_of (by decide +kernel)) rfl rfl (x_wr (by decide) (x_wi (by decide) (x_wi (by decide) x_wn))) x_wn (by decide) rfl ?_
        refine x_aload (np := 1) (x := 0) (by decide +kernel) rfl (x_nc_le (by decide)) ?_
        have q575 : h124 75 1 = 76 := by have z := jB (e := 1) 0 j125 rg_75_1_0_1 (by decide) (by decide); omega
        refine x_getR (np := 4) (x := 705) (f := 1) (q := 76) (by decide +kernel) (by decide) (by decide +kernel) q575 ?_
        refine x_const (np := 7) (x := 9223376986804585600) (a := 2147484800) (by decide +kernel) (by decide) (by decide) ?_
        refine x_const (np := 8) (x := 9223372047592194050) (a := 2147483650) (by decide +kernel) (by decide) (by decide) ?_
        refine x_aload (np := 9) (x := 0) (by decide +kernel) rfl (x_nc_le (by decide)) ?_
        have q576 : h124 75 13 = h37 75 13 := jK 0 f126 rg_75_13_0_1 (by first | decide | omega) (by first | decide | omega) (by decide)
        have q577 : h37 75 13 = h22 75 13 := jK 0 f39 rg_75_13_0_1 (by first | decide | omega) (by first | decide | omega) (by decide)
        have q578 : h22 75 13 = h7 75 13 := jK 0 f24 rg_75_13_0_1 (by first | decide | omega) (by first | decide | omega) (by decide)
        have q579 : h7 75 13 = h 75 13 := jK 0 f9 rg_75_13_0_1 (by first | decide | omega) (by first | decide | omega) (by decide)
        refine x_getC (np := 12) (x := 717) (f := 13) (q := (h 75 13)) (by decide +kernel) (by decide) (by decide +kernel) (((q576.trans q577).trans q578).trans q579) (fun l580 => ?_)
        obtain ⟨u581, q582⟩ : ∃ z, (h 75 13) = 2147483648 + z := ⟨(h 75 13) - 2147483648, by first | decide | omega⟩
        refine x_imul (np := 13) (x := 0) (i := 2) (j := u581) (v := (2147483648 + 2 * u581)) (by decide +kernel) (by first | decide | omega) (by first | decide | omega) (by first | decide | omega) (by first | decide | omega) (by decide) l580 ?_
        refine x_iadd (np := 14) (x := 0) (v := (2147484800 + 2 * u581)) (by decide +kernel) (by decide) (by first | decide | omega) (by first | decide | omega) (by first | decide | omega) ?_
        refine x_iload (np := 15) (x := 1) (by decide +kernel) rfl (by decide) ?_
        refine x_ast (np := 16) (x := 0) (kd := 1) (n := 1952) (i := (1152 + 2 * u581)) (by decide +kernel) (Or.inl rfl) (by decide +kernel) (by first | decide | omega) (by first | decide | omega) (by decide) (by decide) (fun z => absurd z (by decide)) ?_
        have j585 := jU (e := (1152 + 2 * u581)) (v := 2147483655) u581 j125 rg_76_1152_2_394 (by first | decide | omega) (by first | decide | omega) (by first | decide | omega)
        have f587 := jF (e := (1152 + 2 * u581)) (v := 2147483655) u581 f131 rg_76_1152_2_394 (by first | decide | omega) (by first | decide | omega) (by decide)
        generalize e586 : x_up h124 76 (1152 + 2 * u581) 2147483655 = h584 at j585 f587 ⊢
        refine x_aload (np := 17) (x := 0) (by decide +kernel) rfl (x_nc_le (by decide)) ?_
        have q588 : h584 75 1 = 76 := by have z := jB (e := 1) 0 j585 rg_75_1_0_1 (by decide) (by decide); omega
        refine x_getR (np := 20) (x := 705) (f := 1) (q := 76) (by decide +kernel) (by decide) (by decide +kernel) q588 ?_
        refine x_const (np := 23) (x := 9223376986804585600) (a := 2147484800) (by decide +kernel) (by decide) (by decide) ?_
        refine x_const (np := 24) (x := 9223372047592194050) (a := 2147483650) (by decide +kernel) (by decide) (by decide) ?_
        refine x_aload (np := 25) (x := 0) (by decide +kernel) rfl (x_nc_le (by decide)) ?_
        have q589 : h584 75 13 = h124 75 13 := by rw [← e586]; exact x_up_k (by decide)
        have q590 : h124 75 13 = h37 75 13 := jK 0 f126 rg_75_13_0_1 (by first | decide | omega) (by first | decide | omega) (by decide)
        have q591 : h37 75 13 = h22 75 13 := jK 0 f39 rg_75_13_0_1 (by first | decide | omega) (by first | decide | omega) (by decide)
        have q592 : h22 75 13 = h7 75 13 := jK 0 f24 rg_75_13_0_1 (by first | decide | omega) (by first | decide | omega) (by decide)
        have q593 : h7 75 13 = h 75 13 := jK 0 f9 rg_75_13_0_1 (by first | decide | omega) (by first | decide | omega) (by decide)
        refine x_getC (np := 28) (x := 717) (f := 13) (q := (h 75 13)) (by decide +kernel) (by decide) (by decide +kernel) ((((q589.trans q590).trans q591).trans q592).trans q593) (fun l594 => ?_)
        refine x_imul (np := 29) (x := 0) (i := 2) (j := u581) (v := (2147483648 + 2 * u581)) (by decide +kernel) (by first | decide | omega) (by first | decide | omega) (by first | decide | omega) (by first | decide | omega) (by decide) l580 ?_
        refine x_iadd (np := 30) (x := 0) (v := (2147484800 + 2 * u581)) (by decide +kernel) (by decide) (by first | decide | omega) (by first | decide | omega) (by first | decide | omega) ?_
        refine x_const (np := 31) (x := 9223372043297226753) (a := 2147483649) (by decide +kernel) (by decide) (by decide) ?_
        refine x_iadd (np := 32) (x := 0) (v := (2147484801 + 2 * u581)) (by decide +kernel) (by first | decide | omega) (by decide) (by first | decide | omega) (by first | decide | omega) ?_
        refine x_iload (np := 33) (x := 2) (by decide +kernel) rfl (by decide) ?_
        refine x_ast (np := 34) (x := 0) (kd := 1) (n := 1952) (i := (1153 + 2 * u581)) (by decide +kernel) (Or.inl rfl) (by decide +kernel) (by first | decide | omega) (by first | decide | omega) (by decide) (by decide) (fun z => absurd z (by decide)) ?_
        have j597 := jU (e := (1153 + 2 * u581)) (v := 2147483648) u581 j585 rg_76_1153_2_394 (by first | decide | omega) (by first | decide | omega) (by first | decide | omega)
        have f599 := jF (e := (1153 + 2 * u581)) (v := 2147483648) u581 f587 rg_76_1153_2_394 (by first | decide | omega) (by first | decide | omega) (by decide)
        generalize e598 : x_up h584 76 (1153 + 2 * u581) 2147483648 = h596 at j597 f599 ⊢
        refine x_aload (np := 35) (x := 0) (by decide +kernel) rfl (x_nc_le (by decide)) ?_
        refine x_dup (np := 36) (x := 0) (by decide +kernel) (by have z := x_nc_le (k := 75) (by decide); unfold x_r; omega) ?_
        have q600 : h596 75 13 = h584 75 13 := by rw [← e598]; exact x_up_k (by decide)
        have q601 : h584 75 13 = h124 75 13 := by rw [← e586]; exact x_up_k (by decide)
        have q602 : h124 75 13 = h37 75 13 := jK 0 f126 rg_75_13_0_1 (by first | decide | omega) (by first | decide | omega) (by decide)
        have q603 : h37 75 13 = h22 75 13 := jK 0 f39 rg_75_13_0_1 (by first | decide | omega) (by first | decide | omega) (by decide)
        have q604 : h22 75 13 = h7 75 13 := jK 0 f24 rg_75_13_0_1 (by first | decide | omega) (by first | decide | omega) (by decide)
        have q605 : h7 75 13 = h 75 13 := jK 0 f9 rg_75_13_0_1 (by first | decide | omega) (by first | decide | omega) (by decide)
        refine x_getC (np := 39) (x := 717) (f := 13) (q := (h 75 13)) (by decide +kernel) (by decide) (by decide +kernel) (((((q600.trans q601).trans q602).trans q603).trans q604).trans q605) (fun l606 => ?_)
        refine x_const (np := 40) (x := 9223372043297226753) (a := 2147483649) (by decide +kernel) (by decide) (by decide) ?_
        refine x_iadd (np := 41) (x := 0) (v := (1 + (h 75 13))) (by decide +kernel) l580 (by decide) (by first | decide | omega) (by first | decide | omega) ?_
        refine x_putI (np := 44) (x := 717) (f := 13) (by decide +kernel) (by decide +kernel) (by first | decide | omega) (Or.inl (by decide)) ?_
        have j608 := jU (e := 13) (v := (1 + (h 75 13))) 0 j597 rg_75_13_0_1 (by first | decide | omega) (by first | decide | omega) (by first | decide | omega)
        have f610 := jF (e := 13) (v := (1 + (h 75 13))) 0 f599 rg_75_13_0_1 (by first | decide | omega) (by first | decide | omega) (by decide)
        generalize e609 : x_up h596 75 13 (1 + (h 75 13)) = h607 at j608 f610 ⊢
        refine x_retV (np := 45) (x := 0) (by decide +kernel) (by decide +kernel) ⟨rfl, ?_⟩
        have q611 : h607 75 13 = (1 + (h 75 13)) := by rw [← e609]; exact x_up_at
        refine x_const (np := 151) (x := 9223372043297226753) (a := 2147483649) (by decide +kernel) (by decide) (by decide) ?_
        have q612 : h607 75 13 = (1 + (h 75 13)) := by rw [← e609]; exact x_up_at
        have q613 : h607 75 7 = h596 75 7 := by rw [← e609]; exact x_up_i (by first | decide | omega)
        have q614 : h596 75 7 = h584 75 7 := by rw [← e598]; exact x_up_k (by decide)
        have q615 : h584 75 7 = h124 75 7 := by rw [← e586]; exact x_up_k (by decide)
        have q616 : h607 75 10 = h596 75 10 := by rw [← e609]; exact x_up_i (by first | decide | omega)
        have q617 : h596 75 10 = h584 75 10 := by rw [← e598]; exact x_up_k (by decide)
        have q618 : h584 75 10 = h124 75 10 := by rw [← e586]; exact x_up_k (by decide)
        have q619 : h124 75 10 = h37 75 10 := jK 0 f126 rg_75_10_0_1 (by first | decide | omega) (by first | decide | omega) (by decide)
        have q620 : h37 75 10 = h22 75 10 := jK 0 f39 rg_75_10_0_1 (by first | decide | omega) (by first | decide | omega) (by decide)
        have q621 : h22 75 10 = h7 75 10 := jK 0 f24 rg_75_10_0_1 (by first | decide | omega) (by first | decide | omega) (by decide)
        have q622 : h7 75 10 = h 75 10 := jK 0 f9 rg_75_10_0_1 (by first | decide | omega) (by first | decide | omega) (by decide)
        have q623 : h607 75 7 = h596 75 7 := by rw [← e609]; exact x_up_i (by first | decide | omega)
        have q624 : h596 75 7 = h584 75 7 := by rw [← e598]; exact x_up_k (by decide)
        have q625 : h584 75 7 = h124 75 7 := by rw [← e586]; exact x_up_k (by decide)
        have q626 : h607 75 13 = (1 + (h 75 13)) := by rw [← e609]; exact x_up_at
        have k633 : Kp h h7 (h 75 13 - 2147483648) := Kp.fr Kp.refl f9 (by first | decide | omega) (by decide)
        have k632 : Kp h h22 (h 75 13 - 2147483648) := Kp.fr k633 f24 (by first | decide | omega) (by decide)
        have k631 : Kp h h37 (h 75 13 - 2147483648) := Kp.fr k632 f39 (by first | decide | omega) (by decide)
        have k630 : Kp h h124 (h 75 13 - 2147483648) := Kp.fr k631 f126 (by first | decide | omega) (by decide)
        have k629 : Kp h h584 (h 75 13 - 2147483648) := by rw [← e586]; exact Kp.up k630 (by first | decide | omega) (fun i hi => by first | decide | omega)
        have k628 : Kp h h596 (h 75 13 - 2147483648) := by rw [← e598]; exact Kp.up k629 (by first | decide | omega) (fun i hi => by first | decide | omega)
        have k627 : Kp h h607 (h 75 13 - 2147483648) := by rw [← e609]; exact Kp.oth k628 (by decide)
        have q634 : h607 75 13 = (1 + (h 75 13)) := by rw [← e609]; exact x_up_at
        have q636 : h607 76 (1152 + 2 * u581) = h596 76 (1152 + 2 * u581) := by rw [← e609]; exact x_up_k (by decide)
        have q637 : h596 76 (1152 + 2 * u581) = h584 76 (1152 + 2 * u581) := by rw [← e598]; exact x_up_i (by first | decide | omega)
        have q638 : h584 76 (1152 + 2 * u581) = 2147483655 := by rw [← e586]; exact x_up_at
        have s635 : Seg (sg h607) u581 (u581 + 1) := Seg.push (show 2147483648 ≤ h607 76 (1152 + 2 * u581) by first | decide | omega) (show h607 76 (1152 + 2 * u581) ≤ 2147483656 by first | decide | omega)
        have s639 : Seg (sg h607) (h 75 13 - 2147483648) (h607 75 13 - 2147483648) := Seg.cast (Seg.kp s635 Kp.refl) (by first | decide | omega) (by first | decide | omega)
        obtain ⟨w640, e641⟩ := Tk.no c13 (by first | decide | omega)
        obtain ⟨w642, e643⟩ := Tk.no c28 (by first | decide | omega)
        obtain ⟨w644, e645⟩ := Tk.no c43 (by first | decide | omega)
        obtain ⟨w646, e647⟩ := Tk.yes c130 (by first | decide | omega)
        have q648 : h607 75 7 = h596 75 7 := by rw [← e609]; exact x_up_i (by first | decide | omega)
        have q649 : h596 75 7 = h584 75 7 := by rw [← e598]; exact x_up_k (by decide)
        have q650 : h584 75 7 = h124 75 7 := by rw [← e586]; exact x_up_k (by decide)
        refine x_retI (np := 152) (x := 0) (by decide +kernel) (by decide) (Or.inr ⟨by decide +kernel, by first | decide | omega, by first | decide | omega⟩) ⟨_, rfl, (by decide), ?_⟩
        exact ⟨j608, f610, (by first | decide | omega), (fun z => by first | decide | omega), (fun z => by first | decide | omega), (fun z => by first | decide | omega), (fun z => by first | decide | omega), k627, (fun _ => s639), (gA_mine w646 (Eq.trans e645 (Eq.trans e643 e641)) e647 (by first | decide | omega) (congrArg (sk tB tN) (show h124 75 7 = h607 75 7 by first | decide | omega)))⟩
      have q574 : ¬ (v33 = 2147483648) := q574
      exfalso; omega
    have q32 : ¬ (v18 = 2147483648) := q32
    have b651 := c27 (by first | decide | omega)
    refine x_aload (np := 66) (x := 0) (by decide +kernel) rfl (x_nc_le (by decide)) ?_
    have q652 : h22 75 10 = h7 75 10 := jK 0 f24 rg_75_10_0_1 (by first | decide | omega) (by first | decide | omega) (by decide)
    have q653 : h7 75 10 = h 75 10 := jK 0 f9 rg_75_10_0_1 (by first | decide | omega) (by first | decide | omega) (by decide)
    refine x_getC (np := 69) (x := 714) (f := 10) (q := (h 75 10)) (by decide +kernel) (by decide) (by decide +kernel) (q652.trans q653) (fun l654 => ?_)
    refine x_const (np := 71) (x := 9223372064772063238) (a := 2147483654) (by decide +kernel) (by decide) (by decide) ?_
    refine x_icmp (k := 1) (tg := 76) (np := 74) (by decide +kernel) (by decide) l654 (by decide) (fun q655 => ?_) (fun q656 => ?_)
    · have q655 : (h 75 10) ≠ 2147483654 := q655
      refine x_aload (np := 77) (x := 0) (by decide +kernel) rfl (x_nc_le (by decide)) ?_
      refine x_dup (np := 78) (x := 0) (by decide +kernel) (by have z := x_nc_le (k := 75) (by decide); unfold x_r; omega) ?_
      have q657 : h22 75 10 = h7 75 10 := jK 0 f24 rg_75_10_0_1 (by first | decide | omega) (by first | decide | omega) (by decide)
      have q658 : h7 75 10 = h 75 10 := jK 0 f9 rg_75_10_0_1 (by first | decide | omega) (by first | decide | omega) (by decide)
      refine x_getC (np := 81) (x := 714) (f := 10) (q := (h 75 10)) (by decide +kernel) (by decide) (by decide +kernel) (q657.trans q658) (fun l659 => ?_)
      refine x_const (np := 82) (x := 9223372043297226753) (a := 2147483649) (by decide +kernel) (by decide) (by decide) ?_
      refine x_iadd (np := 83) (x := 0) (v := (1 + (h 75 10))) (by decide +kernel) l654 (by decide) (by first | decide | omega) (by first | decide | omega) ?_
      refine x_putI (np := 86) (x := 714) (f := 10) (by decide +kernel) (by decide +kernel) (by first | decide | omega) (Or.inl (by decide)) ?_
      have j661 := jU (e := 10) (v := (1 + (h 75 10))) 0 j23 rg_75_10_0_1 (by first | decide | omega) (by first | decide | omega) (by first | decide | omega)
      have f663 := jF (e := 10) (v := (1 + (h 75 10))) 0 f29 rg_75_10_0_1 (by first | decide | omega) (by first | decide | omega) (by decide)
      generalize e662 : x_up h22 75 10 (1 + (h 75 10)) = h660 at j661 f663 ⊢
      refine x_aload (np := 87) (x := 0) (by decide +kernel) rfl (x_nc_le (by decide)) ?_
      have q664 : h660 75 10 = (1 + (h 75 10)) := by rw [← e662]; exact x_up_at
      have q665 : h660 75 13 = h22 75 13 := by rw [← e662]; exact x_up_i (by first | decide | omega)
      have q666 : h22 75 13 = h7 75 13 := jK 0 f24 rg_75_13_0_1 (by first | decide | omega) (by first | decide | omega) (by decide)
      have q667 : h7 75 13 = h 75 13 := jK 0 f9 rg_75_13_0_1 (by first | decide | omega) (by first | decide | omega) (by decide)
      have q668 : h660 75 7 = h22 75 7 := by rw [← e662]; exact x_up_i (by first | decide | omega)
      have q669 : h660 75 10 = (1 + (h 75 10)) := by rw [← e662]; exact x_up_at
      have m674 := Tq.fr m21 f24 (by decide) (by decide)
      have m673 : Tq tB tN h660 := by rw [← e662]; exact Tq.oth m674 (by decide) (by decide)
      refine x_cI (t := 6) (mj := 190) (n := 1) (rc := 12) (ml := 3) (nr := 0) (np := 90) (as := [x_r 75]) (rest := []) (lo1 := [x_r 75, 147573952589676412928, 147573952589676412928]) (by decide +kernel) (by decide) (by decide +kernel) (x_rb_of (by decide +kernel)) rfl rfl (x_wr (by decide) x_wn) x_wn (by decide) rfl (c190_75_D5 j661  (by first | decide | omega) (by first | decide | omega) m673) (fun v670 h675 l671 q672 => ?_)
      obtain ⟨j676, f677, b678, c679, c680, c681, c682, c683, c684, c685⟩ := q672
      have f686 := Fr.trans f663 f677 (by decide)
      have q687 : h660 75 13 = h22 75 13 := by rw [← e662]; exact x_up_i (by first | decide | omega)
      have q688 : h22 75 13 = h7 75 13 := jK 0 f24 rg_75_13_0_1 (by first | decide | omega) (by first | decide | omega) (by decide)
      have q689 : h7 75 13 = h 75 13 := jK 0 f9 rg_75_13_0_1 (by first | decide | omega) (by first | decide | omega) (by decide)
      have b690 := jB (e := 13) 0 j676 rg_75_13_0_1 (by first | decide | omega) (by first | decide | omega)
      have q691 : h660 75 7 = h22 75 7 := by rw [← e662]; exact x_up_i (by first | decide | omega)
      have b692 := jB (e := 7) 0 j676 rg_75_7_0_1 (by first | decide | omega) (by first | decide | omega)
      have q693 : h660 75 10 = (1 + (h 75 10)) := by rw [← e662]; exact x_up_at
      have b694 := jB (e := 10) 0 j676 rg_75_10_0_1 (by first | decide | omega) (by first | decide | omega)
      have q695 : h660 75 7 = h22 75 7 := by rw [← e662]; exact x_up_i (by first | decide | omega)
      have q696 : h660 75 13 = h22 75 13 := by rw [← e662]; exact x_up_i (by first | decide | omega)
      have q697 : h22 75 13 = h7 75 13 := jK 0 f24 rg_75_13_0_1 (by first | decide | omega) (by first | decide | omega) (by decide)
      have q698 : h7 75 13 = h 75 13 := jK 0 f9 rg_75_13_0_1 (by first | decide | omega) (by first | decide | omega) (by decide)
      refine x_ifz (k := 1) (tg := 95) (np := 93) (by decide +kernel) (by decide) l671 (fun q699 => ?_) (fun q700 => ?_)
      · have q699 : v670 ≠ 2147483648 := q699
        have b701 := c679 (by first | decide | omega)
        have b702 := c680 (by first | decide | omega)
        have b703 := c681 (by first | decide | omega)
        have b704 := c682 (by first | decide | omega)
        have s705 := c684 (by first | decide | omega)
        have q706 : h660 75 13 = h22 75 13 := by rw [← e662]; exact x_up_i (by first | decide | omega)
        have q707 : h22 75 13 = h7 75 13 := jK 0 f24 rg_75_13_0_1 (by first | decide | omega) (by first | decide | omega) (by decide)
        have q708 : h7 75 13 = h 75 13 := jK 0 f9 rg_75_13_0_1 (by first | decide | omega) (by first | decide | omega) (by decide)
        refine x_aload (np := 96) (x := 0) (by decide +kernel) rfl (x_nc_le (by decide)) ?_
        refine x_dup (np := 97) (x := 0) (by decide +kernel) (by have z := x_nc_le (k := 75) (by decide); unfold x_r; omega) ?_
        refine x_getC (np := 100) (x := 714) (f := 10) (q := (h675 75 10)) (by decide +kernel) (by decide) (by decide +kernel) rfl (fun l709 => ?_)
        refine x_const (np := 101) (x := 9223372043297226753) (a := 2147483649) (by decide +kernel) (by decide) (by decide) ?_
        obtain ⟨v710, q711⟩ : ∃ z, z + 2147483649 = (h675 75 10) + 2147483648 := ⟨(h675 75 10) + 2147483648 - 2147483649, by first | decide | omega⟩
        refine x_isub (np := 102) (x := 0) (v := v710) (by decide +kernel) l709 (by decide) (by first | decide | omega) (by first | decide | omega) ?_
        refine x_putI (np := 105) (x := 714) (f := 10) (by decide +kernel) (by decide +kernel) (by first | decide | omega) (Or.inl (by decide)) ?_
        have j713 := jU (e := 10) (v := v710) 0 j676 rg_75_10_0_1 (by first | decide | omega) (by first | decide | omega) (by first | decide | omega)
        have f715 := jF (e := 10) (v := v710) 0 f686 rg_75_10_0_1 (by first | decide | omega) (by first | decide | omega) (by decide)
        generalize e714 : x_up h675 75 10 v710 = h712 at j713 f715 ⊢
        refine x_aload (np := 106) (x := 0) (by decide +kernel) rfl (x_nc_le (by decide)) ?_
        refine x_const (np := 108) (x := 9223372090541867020) (a := 2147483660) (by decide +kernel) (by decide) (by decide) ?_
        refine x_const (np := 109) (x := 9223372039002259456) (a := 2147483648) (by decide +kernel) (by decide) (by decide) ?_
        refine x_nV (t := 6) (mj := 187) (n := 3) (rc := 12) (ml := 3) (nr := 0) (np := 112) (as := [x_r 75, iv_c 2147483660, iv_c 2147483648]) (rest := []) (lo1 := [x_r 75, iv_c 2147483660, iv_c 2147483648]) (by decide +kernel) (by decide) (by decide +kernel) (x_rb_of (by decide +kernel)) rfl rfl (x_wr (by decide) (x_wi (by decide) (x_wi (by decide) x_wn))) x_wn (by decide) rfl ?_
        refine x_aload (np := 1) (x := 0) (by decide +kernel) rfl (x_nc_le (by decide)) ?_
        have q716 : h712 75 1 = 76 := by have z := jB (e := 1) 0 j713 rg_75_1_0_1 (by decide) (by decide); omega
        refine x_getR (np := 4) (x := 705) (f := 1) (q := 76) (by decide +kernel) (by decide) (by decide +kernel) q716 ?_
        refine x_const (np := 7) (x := 9223376986804585600) (a := 2147484800) (by decide +kernel) (by decide) (by decide) ?_
        refine x_const (np := 8) (x := 9223372047592194050) (a := 2147483650) (by decide +kernel) (by decide) (by decide) ?_
        refine x_aload (np := 9) (x := 0) (by decide +kernel) rfl (x_nc_le (by decide)) ?_
        have q717 : h712 75 13 = h675 75 13 := by rw [← e714]; exact x_up_i (by first | decide | omega)
        refine x_getC (np := 12) (x := 717) (f := 13) (q := (h675 75 13)) (by decide +kernel) (by decide) (by decide +kernel) q717 (fun l718 => ?_)
        obtain ⟨u719, q720⟩ : ∃ z, (h675 75 13) = 2147483648 + z := ⟨(h675 75 13) - 2147483648, by first | decide | omega⟩
        refine x_imul (np := 13) (x := 0) (i := 2) (j := u719) (v := (2147483648 + 2 * u719)) (by decide +kernel) (by first | decide | omega) (by first | decide | omega) (by first | decide | omega) (by first | decide | omega) (by decide) l718 ?_
        refine x_iadd (np := 14) (x := 0) (v := (2147484800 + 2 * u719)) (by decide +kernel) (by decide) (by first | decide | omega) (by first | decide | omega) (by first | decide | omega) ?_
        refine x_iload (np := 15) (x := 1) (by decide +kernel) rfl (by decide) ?_
        refine x_ast (np := 16) (x := 0) (kd := 1) (n := 1952) (i := (1152 + 2 * u719)) (by decide +kernel) (Or.inl rfl) (by decide +kernel) (by first | decide | omega) (by first | decide | omega) (by decide) (by decide) (fun z => absurd z (by decide)) ?_
        have j723 := jU (e := (1152 + 2 * u719)) (v := 2147483660) u719 j713 rg_76_1152_2_394 (by first | decide | omega) (by first | decide | omega) (by first | decide | omega)
        have f725 := jF (e := (1152 + 2 * u719)) (v := 2147483660) u719 f715 rg_76_1152_2_394 (by first | decide | omega) (by first | decide | omega) (by decide)
        generalize e724 : x_up h712 76 (1152 + 2 * u719) 2147483660 = h722 at j723 f725 ⊢
        refine x_aload (np := 17) (x := 0) (by decide +kernel) rfl (x_nc_le (by decide)) ?_
        have q726 : h722 75 1 = 76 := by have z := jB (e := 1) 0 j723 rg_75_1_0_1 (by decide) (by decide); omega
        refine x_getR (np := 20) (x := 705) (f := 1) (q := 76) (by decide +kernel) (by decide) (by decide +kernel) q726 ?_
        refine x_const (np := 23) (x := 9223376986804585600) (a := 2147484800) (by decide +kernel) (by decide) (by decide) ?_
        refine x_const (np := 24) (x := 9223372047592194050) (a := 2147483650) (by decide +kernel) (by decide) (by decide) ?_
        refine x_aload (np := 25) (x := 0) (by decide +kernel) rfl (x_nc_le (by decide)) ?_
        have q727 : h722 75 13 = h712 75 13 := by rw [← e724]; exact x_up_k (by decide)
        have q728 : h712 75 13 = h675 75 13 := by rw [← e714]; exact x_up_i (by first | decide | omega)
        refine x_getC (np := 28) (x := 717) (f := 13) (q := (h675 75 13)) (by decide +kernel) (by decide) (by decide +kernel) (q727.trans q728) (fun l729 => ?_)
        refine x_imul (np := 29) (x := 0) (i := 2) (j := u719) (v := (2147483648 + 2 * u719)) (by decide +kernel) (by first | decide | omega) (by first | decide | omega) (by first | decide | omega) (by first | decide | omega) (by decide) l718 ?_
        refine x_iadd (np := 30) (x := 0) (v := (2147484800 + 2 * u719)) (by decide +kernel) (by decide) (by first | decide | omega) (by first | decide | omega) (by first | decide | omega) ?_
        refine x_const (np := 31) (x := 9223372043297226753) (a := 2147483649) (by decide +kernel) (by decide) (by decide) ?_
        refine x_iadd (np := 32) (x := 0) (v := (2147484801 + 2 * u719)) (by decide +kernel) (by first | decide | omega) (by decide) (by first | decide | omega) (by first | decide | omega) ?_
        refine x_iload (np := 33) (x := 2) (by decide +kernel) rfl (by decide) ?_
        refine x_ast (np := 34) (x := 0) (kd := 1) (n := 1952) (i := (1153 + 2 * u719)) (by decide +kernel) (Or.inl rfl) (by decide +kernel) (by first | decide | omega) (by first | decide | omega) (by decide) (by decide) (fun z => absurd z (by decide)) ?_
        have j732 := jU (e := (1153 + 2 * u719)) (v := 2147483648) u719 j723 rg_76_1153_2_394 (by first | decide | omega) (by first | decide | omega) (by first | decide | omega)
        have f734 := jF (e := (1153 + 2 * u719)) (v := 2147483648) u719 f725 rg_76_1153_2_394 (by first | decide | omega) (by first | decide | omega) (by decide)
        generalize e733 : x_up h722 76 (1153 + 2 * u719) 2147483648 = h731 at j732 f734 ⊢
        refine x_aload (np := 35) (x := 0) (by decide +kernel) rfl (x_nc_le (by decide)) ?_
        refine x_dup (np := 36) (x := 0) (by decide +kernel) (by have z := x_nc_le (k := 75) (by decide); unfold x_r; omega) ?_
        have q735 : h731 75 13 = h722 75 13 := by rw [← e733]; exact x_up_k (by decide)
        have q736 : h722 75 13 = h712 75 13 := by rw [← e724]; exact x_up_k (by decide)
        have q737 : h712 75 13 = h675 75 13 := by rw [← e714]; exact x_up_i (by first | decide | omega)
        refine x_getC (np := 39) (x := 717) (f := 13) (q := (h675 75 13)) (by decide +kernel) (by decide) (by decide +kernel) ((q735.trans q736).trans q737) (fun l738 => ?_)
        refine x_const (np := 40) (x := 9223372043297226753) (a := 2147483649) (by decide +kernel) (by decide) (by decide) ?_
        refine x_iadd (np := 41) (x := 0) (v := (1 + (h675 75 13))) (by decide +kernel) l718 (by decide) (by first | decide | omega) (by first | decide | omega) ?_
        refine x_putI (np := 44) (x := 717) (f := 13) (by decide +kernel) (by decide +kernel) (by first | decide | omega) (Or.inl (by decide)) ?_
        have j740 := jU (e := 13) (v := (1 + (h675 75 13))) 0 j732 rg_75_13_0_1 (by first | decide | omega) (by first | decide | omega) (by first | decide | omega)
        have f742 := jF (e := 13) (v := (1 + (h675 75 13))) 0 f734 rg_75_13_0_1 (by first | decide | omega) (by first | decide | omega) (by decide)
        generalize e741 : x_up h731 75 13 (1 + (h675 75 13)) = h739 at j740 f742 ⊢
        refine x_retV (np := 45) (x := 0) (by decide +kernel) (by decide +kernel) ⟨rfl, ?_⟩
        have q743 : h739 75 13 = (1 + (h675 75 13)) := by rw [← e741]; exact x_up_at
        refine x_const (np := 113) (x := 9223372043297226753) (a := 2147483649) (by decide +kernel) (by decide) (by decide) ?_
        have q744 : h739 75 13 = (1 + (h675 75 13)) := by rw [← e741]; exact x_up_at
        have q745 : h739 75 7 = h731 75 7 := by rw [← e741]; exact x_up_i (by first | decide | omega)
        have q746 : h731 75 7 = h722 75 7 := by rw [← e733]; exact x_up_k (by decide)
        have q747 : h722 75 7 = h712 75 7 := by rw [← e724]; exact x_up_k (by decide)
        have q748 : h712 75 7 = h675 75 7 := by rw [← e714]; exact x_up_i (by first | decide | omega)
        have q749 : h739 75 10 = h731 75 10 := by rw [← e741]; exact x_up_i (by first | decide | omega)
        have q750 : h731 75 10 = h722 75 10 := by rw [← e733]; exact x_up_k (by decide)
        have q751 : h722 75 10 = h712 75 10 := by rw [← e724]; exact x_up_k (by decide)
        have q752 : h712 75 10 = v710 := by rw [← e714]; exact x_up_at
        have q753 : h739 75 7 = h731 75 7 := by rw [← e741]; exact x_up_i (by first | decide | omega)
        have q754 : h731 75 7 = h722 75 7 := by rw [← e733]; exact x_up_k (by decide)
        have q755 : h722 75 7 = h712 75 7 := by rw [← e724]; exact x_up_k (by decide)
        have q756 : h712 75 7 = h675 75 7 := by rw [← e714]; exact x_up_i (by first | decide | omega)
        have q757 : h739 75 13 = (1 + (h675 75 13)) := by rw [← e741]; exact x_up_at
        have k765 : Kp h h7 (h 75 13 - 2147483648) := Kp.fr Kp.refl f9 (by first | decide | omega) (by decide)
        have k764 : Kp h h22 (h 75 13 - 2147483648) := Kp.fr k765 f24 (by first | decide | omega) (by decide)
        have k763 : Kp h h660 (h 75 13 - 2147483648) := by rw [← e662]; exact Kp.oth k764 (by decide)
        have q766 : h660 75 13 = h22 75 13 := by rw [← e662]; exact x_up_i (by first | decide | omega)
        have q767 : h22 75 13 = h7 75 13 := jK 0 f24 rg_75_13_0_1 (by first | decide | omega) (by first | decide | omega) (by decide)
        have q768 : h7 75 13 = h 75 13 := jK 0 f9 rg_75_13_0_1 (by first | decide | omega) (by first | decide | omega) (by decide)
        have k762 : Kp h h675 (h 75 13 - 2147483648) := Kp.trans k763 c683 (by first | decide | omega)
        have k761 : Kp h h712 (h 75 13 - 2147483648) := by rw [← e714]; exact Kp.oth k762 (by decide)
        have k760 : Kp h h722 (h 75 13 - 2147483648) := by rw [← e724]; exact Kp.up k761 (by first | decide | omega) (fun i hi => by first | decide | omega)
        have k759 : Kp h h731 (h 75 13 - 2147483648) := by rw [← e733]; exact Kp.up k760 (by first | decide | omega) (fun i hi => by first | decide | omega)
        have k758 : Kp h h739 (h 75 13 - 2147483648) := by rw [← e741]; exact Kp.oth k759 (by decide)
        have q769 : h739 75 13 = (1 + (h675 75 13)) := by rw [← e741]; exact x_up_at
        have q771 : h739 76 (1152 + 2 * u719) = h731 76 (1152 + 2 * u719) := by rw [← e741]; exact x_up_k (by decide)
        have q772 : h731 76 (1152 + 2 * u719) = h722 76 (1152 + 2 * u719) := by rw [← e733]; exact x_up_i (by first | decide | omega)
        have q773 : h722 76 (1152 + 2 * u719) = 2147483660 := by rw [← e724]; exact x_up_at
        have k777 : Kp h675 h712 (h675 75 13 - 2147483648) := by rw [← e714]; exact Kp.oth Kp.refl (by decide)
        have k776 : Kp h675 h722 (h675 75 13 - 2147483648) := by rw [← e724]; exact Kp.up k777 (by first | decide | omega) (fun i hi => by first | decide | omega)
        have k775 : Kp h675 h731 (h675 75 13 - 2147483648) := by rw [← e733]; exact Kp.up k776 (by first | decide | omega) (fun i hi => by first | decide | omega)
        have k774 : Kp h675 h739 (h675 75 13 - 2147483648) := by rw [← e741]; exact Kp.oth k775 (by decide)
        have s770 : Seg (sg h739) (h660 75 13 - 2147483648) (u719 + 1) := Seg.not (Seg.cast (a' := (h660 75 13 - 2147483648)) (b' := u719) (Seg.kp s705 k774) rfl (by first | decide | omega)) (show h739 76 (1152 + 2 * u719) = 2147483660 by first | decide | omega)
        have s778 : Seg (sg h739) (h 75 13 - 2147483648) (h739 75 13 - 2147483648) := Seg.cast (Seg.kp s770 Kp.refl) (by first | decide | omega) (by first | decide | omega)
        obtain ⟨w779, e780⟩ := Tk.no c13 (by first | decide | omega)
        obtain ⟨w781, e782⟩ := Tk.yes c28 (by first | decide | omega)
        have q783 : h660 75 7 = h22 75 7 := by rw [← e662]; exact x_up_i (by first | decide | omega)
        have q784 : h739 75 7 = h731 75 7 := by rw [← e741]; exact x_up_i (by first | decide | omega)
        have q785 : h731 75 7 = h722 75 7 := by rw [← e733]; exact x_up_k (by decide)
        have q786 : h722 75 7 = h712 75 7 := by rw [← e724]; exact x_up_k (by decide)
        have q787 : h712 75 7 = h675 75 7 := by rw [← e714]; exact x_up_i (by first | decide | omega)
        refine x_retI (np := 114) (x := 0) (by decide +kernel) (by decide) (Or.inr ⟨by decide +kernel, by first | decide | omega, by first | decide | omega⟩) ⟨_, rfl, (by decide), ?_⟩
        exact ⟨j740, f742, (by first | decide | omega), (fun z => by first | decide | omega), (fun z => by first | decide | omega), (fun z => by first | decide | omega), (fun z => by first | decide | omega), k758, (fun _ => s778), (gA_not w781 e780 e782 (by decide) c685 (congrArg (sk tB tN) (show h660 75 7 = h22 75 7 by first | decide | omega)) (by first | decide | omega) (fun z => (congrArg (sk tB tN) (show h675 75 7 = h739 75 7 by first | decide | omega))))⟩
      have q700 : ¬ (v670 ≠ 2147483648) := q700
      refine x_const (np := 94) (x := 9223372039002259456) (a := 2147483648) (by decide +kernel) (by decide) (by decide) ?_
      have k791 : Kp h h7 (h 75 13 - 2147483648) := Kp.fr Kp.refl f9 (by first | decide | omega) (by decide)
      have k790 : Kp h h22 (h 75 13 - 2147483648) := Kp.fr k791 f24 (by first | decide | omega) (by decide)
      have k789 : Kp h h660 (h 75 13 - 2147483648) := by rw [← e662]; exact Kp.oth k790 (by decide)
      have q792 : h660 75 13 = h22 75 13 := by rw [← e662]; exact x_up_i (by first | decide | omega)
      have q793 : h22 75 13 = h7 75 13 := jK 0 f24 rg_75_13_0_1 (by first | decide | omega) (by first | decide | omega) (by decide)
      have q794 : h7 75 13 = h 75 13 := jK 0 f9 rg_75_13_0_1 (by first | decide | omega) (by first | decide | omega) (by decide)
      have k788 : Kp h h675 (h 75 13 - 2147483648) := Kp.trans k789 c683 (by first | decide | omega)
      obtain ⟨w795, e796⟩ := Tk.no c13 (by first | decide | omega)
      obtain ⟨w797, e798⟩ := Tk.yes c28 (by first | decide | omega)
      have q799 : h660 75 7 = h22 75 7 := by rw [← e662]; exact x_up_i (by first | decide | omega)
      refine x_retI (np := 95) (x := 0) (by decide +kernel) (by decide) (Or.inr ⟨by decide +kernel, by first | decide | omega, by first | decide | omega⟩) ⟨_, rfl, (by decide), ?_⟩
      exact ⟨j676, f686, (by first | decide | omega), (fun z => by first | decide | omega), (fun z => by first | decide | omega), (fun z => by first | decide | omega), (fun z => by first | decide | omega), k788, (fun z => absurd z (by first | decide | omega)), (gA_not w797 e796 e798 (by decide) c685 (congrArg (sk tB tN) (show h660 75 7 = h22 75 7 by first | decide | omega)) (by first | decide | omega) (fun z => absurd z (by first | decide | omega)))⟩
    have q656 : ¬ ((h 75 10) ≠ 2147483654) := q656
    exfalso; omega
  have q17 : ¬ (v4 = 2147483648) := q17
  have b800 := c12 (by first | decide | omega)
  refine x_aload (np := 10) (x := 0) (by decide +kernel) rfl (x_nc_le (by decide)) ?_
  have q801 : h7 75 10 = h 75 10 := jK 0 f9 rg_75_10_0_1 (by first | decide | omega) (by first | decide | omega) (by decide)
  refine x_getC (np := 13) (x := 714) (f := 10) (q := (h 75 10)) (by decide +kernel) (by decide) (by decide +kernel) q801 (fun l802 => ?_)
  refine x_const (np := 15) (x := 9223372064772063238) (a := 2147483654) (by decide +kernel) (by decide) (by decide) ?_
  refine x_icmp (k := 1) (tg := 20) (np := 18) (by decide +kernel) (by decide) l802 (by decide) (fun q803 => ?_) (fun q804 => ?_)
  · have q803 : (h 75 10) ≠ 2147483654 := q803
    refine x_aload (np := 21) (x := 0) (by decide +kernel) rfl (x_nc_le (by decide)) ?_
    refine x_dup (np := 22) (x := 0) (by decide +kernel) (by have z := x_nc_le (k := 75) (by decide); unfold x_r; omega) ?_
    have q805 : h7 75 10 = h 75 10 := jK 0 f9 rg_75_10_0_1 (by first | decide | omega) (by first | decide | omega) (by decide)
    refine x_getC (np := 25) (x := 714) (f := 10) (q := (h 75 10)) (by decide +kernel) (by decide) (by decide +kernel) q805 (fun l806 => ?_)
    refine x_const (np := 26) (x := 9223372043297226753) (a := 2147483649) (by decide +kernel) (by decide) (by decide) ?_
    refine x_iadd (np := 27) (x := 0) (v := (1 + (h 75 10))) (by decide +kernel) l802 (by decide) (by first | decide | omega) (by first | decide | omega) ?_
    refine x_putI (np := 30) (x := 714) (f := 10) (by decide +kernel) (by decide +kernel) (by first | decide | omega) (Or.inl (by decide)) ?_
    have j808 := jU (e := 10) (v := (1 + (h 75 10))) 0 j8 rg_75_10_0_1 (by first | decide | omega) (by first | decide | omega) (by first | decide | omega)
    have f810 := jF (e := 10) (v := (1 + (h 75 10))) 0 f14 rg_75_10_0_1 (by first | decide | omega) (by first | decide | omega) (by decide)
    generalize e809 : x_up h7 75 10 (1 + (h 75 10)) = h807 at j808 f810 ⊢
    refine x_aload (np := 31) (x := 0) (by decide +kernel) rfl (x_nc_le (by decide)) ?_
    have q811 : h807 75 10 = (1 + (h 75 10)) := by rw [← e809]; exact x_up_at
    have q812 : h807 75 13 = h7 75 13 := by rw [← e809]; exact x_up_i (by first | decide | omega)
    have q813 : h7 75 13 = h 75 13 := jK 0 f9 rg_75_13_0_1 (by first | decide | omega) (by first | decide | omega) (by decide)
    have q814 : h807 75 7 = h7 75 7 := by rw [← e809]; exact x_up_i (by first | decide | omega)
    have q815 : h807 75 10 = (1 + (h 75 10)) := by rw [← e809]; exact x_up_at
    have m820 := Tq.fr hT f9 (by decide) (by decide)
    have m819 : Tq tB tN h807 := by rw [← e809]; exact Tq.oth m820 (by decide) (by decide)
    refine x_cI (t := 6) (mj := 192) (n := 1) (rc := 12) (ml := 1) (nr := 0) (np := 34) (as := [x_r 75]) (rest := []) (lo1 := [x_r 75]) (by decide +kernel) (by decide) (by decide +kernel) (x_rb_of (by decide +kernel)) rfl rfl (x_wr (by decide) x_wn) x_wn (by decide) rfl (c192_75_D5 j808  (by first | decide | omega) (by first | decide | omega) m819) (fun v816 h821 l817 q818 => ?_)
    obtain ⟨j822, f823, b824, c825, c826, c827, c828, c829, c830, c831⟩ := q818
    have f832 := Fr.trans f810 f823 (by decide)
    have q833 : h807 75 13 = h7 75 13 := by rw [← e809]; exact x_up_i (by first | decide | omega)
    have q834 : h7 75 13 = h 75 13 := jK 0 f9 rg_75_13_0_1 (by first | decide | omega) (by first | decide | omega) (by decide)
    have b835 := jB (e := 13) 0 j822 rg_75_13_0_1 (by first | decide | omega) (by first | decide | omega)
    have q836 : h807 75 7 = h7 75 7 := by rw [← e809]; exact x_up_i (by first | decide | omega)
    have b837 := jB (e := 7) 0 j822 rg_75_7_0_1 (by first | decide | omega) (by first | decide | omega)
    have q838 : h807 75 10 = (1 + (h 75 10)) := by rw [← e809]; exact x_up_at
    have b839 := jB (e := 10) 0 j822 rg_75_10_0_1 (by first | decide | omega) (by first | decide | omega)
    have q840 : h807 75 7 = h7 75 7 := by rw [← e809]; exact x_up_i (by first | decide | omega)
    have q841 : h807 75 13 = h7 75 13 := by rw [← e809]; exact x_up_i (by first | decide | omega)
    have q842 : h7 75 13 = h 75 13 := jK 0 f9 rg_75_13_0_1 (by first | decide | omega) (by first | decide | omega) (by decide)
    refine x_ifz (k := 1) (tg := 39) (np := 37) (by decide +kernel) (by decide) l817 (fun q843 => ?_) (fun q844 => ?_)
    · have q843 : v816 ≠ 2147483648 := q843
      have b845 := c825 (by first | decide | omega)
      have b846 := c826 (by first | decide | omega)
      have b847 := c827 (by first | decide | omega)
      have b848 := c828 (by first | decide | omega)
      have s849 := c830 (by first | decide | omega)
      have q850 : h807 75 13 = h7 75 13 := by rw [← e809]; exact x_up_i (by first | decide | omega)
      have q851 : h7 75 13 = h 75 13 := jK 0 f9 rg_75_13_0_1 (by first | decide | omega) (by first | decide | omega) (by decide)
      refine x_aload (np := 40) (x := 0) (by decide +kernel) rfl (x_nc_le (by decide)) ?_
      refine x_dup (np := 41) (x := 0) (by decide +kernel) (by have z := x_nc_le (k := 75) (by decide); unfold x_r; omega) ?_
      refine x_getC (np := 44) (x := 714) (f := 10) (q := (h821 75 10)) (by decide +kernel) (by decide) (by decide +kernel) rfl (fun l852 => ?_)
      refine x_const (np := 45) (x := 9223372043297226753) (a := 2147483649) (by decide +kernel) (by decide) (by decide) ?_
      obtain ⟨v853, q854⟩ : ∃ z, z + 2147483649 = (h821 75 10) + 2147483648 := ⟨(h821 75 10) + 2147483648 - 2147483649, by first | decide | omega⟩
      refine x_isub (np := 46) (x := 0) (v := v853) (by decide +kernel) l852 (by decide) (by first | decide | omega) (by first | decide | omega) ?_
      refine x_putI (np := 49) (x := 714) (f := 10) (by decide +kernel) (by decide +kernel) (by first | decide | omega) (Or.inl (by decide)) ?_
      have j856 := jU (e := 10) (v := v853) 0 j822 rg_75_10_0_1 (by first | decide | omega) (by first | decide | omega) (by first | decide | omega)
      have f858 := jF (e := 10) (v := v853) 0 f832 rg_75_10_0_1 (by first | decide | omega) (by first | decide | omega) (by decide)
      generalize e857 : x_up h821 75 10 v853 = h855 at j856 f858 ⊢
      refine x_aload (np := 50) (x := 0) (by decide +kernel) rfl (x_nc_le (by decide)) ?_
      refine x_const (np := 52) (x := 9223372215095918633) (a := 2147483689) (by decide +kernel) (by decide) (by decide) ?_
      have m863 := Tq.fr m819 f823 (by decide) (by decide)
      have m862 : Tq tB tN h855 := by rw [← e857]; exact Tq.oth m863 (by decide) (by decide)
      refine x_cI (t := 6) (mj := 173) (n := 2) (rc := 12) (ml := 2) (nr := 0) (np := 55) (as := [x_r 75, iv_c 2147483689]) (rest := []) (lo1 := [x_r 75, iv_c 2147483689]) (by decide +kernel) (by decide) (by decide +kernel) (x_rb_of (by decide +kernel)) rfl rfl (x_wr (by decide) (x_wi (by decide) x_wn)) x_wn (by decide) rfl (c173_75 j856  (by first | decide | omega) m862) (fun v859 h864 l860 q861 => ?_)
      obtain ⟨j865, f866, b867, c868, c869, c870⟩ := q861
      have f871 := Fr.trans f858 f866 (by decide)
      have q872 : h855 75 7 = h821 75 7 := by rw [← e857]; exact x_up_i (by first | decide | omega)
      have b873 := jB (e := 7) 0 j865 rg_75_7_0_1 (by first | decide | omega) (by first | decide | omega)
      have q874 : h855 75 7 = h821 75 7 := by rw [← e857]; exact x_up_i (by first | decide | omega)
      have q875 : h864 75 13 = h855 75 13 := jK 0 f866 rg_75_13_0_1 (by first | decide | omega) (by first | decide | omega) (by decide)
      have q876 : h855 75 13 = h821 75 13 := by rw [← e857]; exact x_up_i (by first | decide | omega)
      have q877 : h864 75 10 = h855 75 10 := jK 0 f866 rg_75_10_0_1 (by first | decide | omega) (by first | decide | omega) (by decide)
      have q878 : h855 75 10 = v853 := by rw [← e857]; exact x_up_at
      have q879 : h864 75 13 = h855 75 13 := jK 0 f866 rg_75_13_0_1 (by first | decide | omega) (by first | decide | omega) (by decide)
      have q880 : h855 75 13 = h821 75 13 := by rw [← e857]; exact x_up_i (by first | decide | omega)
      have k885 : Kp h h7 (h 75 13 - 2147483648) := Kp.fr Kp.refl f9 (by first | decide | omega) (by decide)
      have k884 : Kp h h807 (h 75 13 - 2147483648) := by rw [← e809]; exact Kp.oth k885 (by decide)
      have q886 : h807 75 13 = h7 75 13 := by rw [← e809]; exact x_up_i (by first | decide | omega)
      have q887 : h7 75 13 = h 75 13 := jK 0 f9 rg_75_13_0_1 (by first | decide | omega) (by first | decide | omega) (by decide)
      have k883 : Kp h h821 (h 75 13 - 2147483648) := Kp.trans k884 c829 (by first | decide | omega)
      have k882 : Kp h h855 (h 75 13 - 2147483648) := by rw [← e857]; exact Kp.oth k883 (by decide)
      have k881 : Kp h h864 (h 75 13 - 2147483648) := Kp.fr k882 f866 (by first | decide | omega) (by decide)
      have q888 : h864 75 13 = h855 75 13 := jK 0 f866 rg_75_13_0_1 (by first | decide | omega) (by first | decide | omega) (by decide)
      have q889 : h855 75 13 = h821 75 13 := by rw [← e857]; exact x_up_i (by first | decide | omega)
      have k891 : Kp h821 h855 (h821 75 13 - 2147483648) := by rw [← e857]; exact Kp.oth Kp.refl (by decide)
      have k890 : Kp h821 h864 (h821 75 13 - 2147483648) := Kp.fr k891 f866 (by first | decide | omega) (by decide)
      have s892 : Seg (sg h864) (h 75 13 - 2147483648) (h864 75 13 - 2147483648) := Seg.cast (Seg.kp s849 k890) (by first | decide | omega) (by first | decide | omega)
      obtain ⟨w893, e894⟩ := Tk.yes c13 (by first | decide | omega)
      have q895 : h807 75 7 = h7 75 7 := by rw [← e809]; exact x_up_i (by first | decide | omega)
      have q896 : h855 75 7 = h821 75 7 := by rw [← e857]; exact x_up_i (by first | decide | omega)
      refine x_retI (np := 56) (x := 0) (by decide +kernel) l860 (Or.inr ⟨by decide +kernel, by first | decide | omega, by first | decide | omega⟩) ⟨_, rfl, l860, ?_⟩
      exact ⟨j865, f871, (by first | decide | omega), (fun z => by first | decide | omega), (fun z => by first | decide | omega), (fun z => by first | decide | omega), (fun z => by first | decide | omega), k881, (fun _ => s892), (gA_parT w893 rfl e894 (by decide) c831 (congrArg (sk tB tN) (show h807 75 7 = h7 75 7 by first | decide | omega)) (by first | decide | omega) c870 (congrArg (sk tB tN) (show h855 75 7 = h821 75 7 by first | decide | omega)) (by first | decide | omega) (fun z => rfl))⟩
    have q844 : ¬ (v816 ≠ 2147483648) := q844
    refine x_const (np := 38) (x := 9223372039002259456) (a := 2147483648) (by decide +kernel) (by decide) (by decide) ?_
    have k899 : Kp h h7 (h 75 13 - 2147483648) := Kp.fr Kp.refl f9 (by first | decide | omega) (by decide)
    have k898 : Kp h h807 (h 75 13 - 2147483648) := by rw [← e809]; exact Kp.oth k899 (by decide)
    have q900 : h807 75 13 = h7 75 13 := by rw [← e809]; exact x_up_i (by first | decide | omega)
    have q901 : h7 75 13 = h 75 13 := jK 0 f9 rg_75_13_0_1 (by first | decide | omega) (by first | decide | omega) (by decide)
    have k897 : Kp h h821 (h 75 13 - 2147483648) := Kp.trans k898 c829 (by first | decide | omega)
    obtain ⟨w902, e903⟩ := Tk.yes c13 (by first | decide | omega)
    have q904 : h807 75 7 = h7 75 7 := by rw [← e809]; exact x_up_i (by first | decide | omega)
    refine x_retI (np := 39) (x := 0) (by decide +kernel) (by decide) (Or.inr ⟨by decide +kernel, by first | decide | omega, by first | decide | omega⟩) ⟨_, rfl, (by decide), ?_⟩
    exact ⟨j822, f832, (by first | decide | omega), (fun z => by first | decide | omega), (fun z => by first | decide | omega), (fun z => by first | decide | omega), (fun z => by first | decide | omega), k897, (fun z => absurd z (by first | decide | omega)), (gA_par0 w902 rfl e903 (by decide) c831 (congrArg (sk tB tN) (show h807 75 7 = h7 75 7 by first | decide | omega)) (by first | decide | omega) (by first | decide | omega))⟩
  have q804 : ¬ ((h 75 10) ≠ 2147483654) := q804
  exfalso; omega
