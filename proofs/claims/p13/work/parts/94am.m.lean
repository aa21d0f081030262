/-! ===== methods ===== -/
set_option maxHeartbeats 0 in
/-- LentNamesModel.readAllOf()Z -/
theorem c191_75_D0 {sc : Nat × Nat} {d  : Nat} {h : xh} {tB : Nat → Nat} {tN : Nat} (hJ : J h) (hr0 : (h 75 13) + 5 ≤ (h 75 7)) (hr1 : (h 75 10) = 2147483648) (hT : Tq tB tN h) : X sc 191 (d + 26) (xI fun r h' => J h' ∧ Fr 97517569 h h' ∧ (2147483648 ≤ r ∧ r ≤ 2147483649) ∧ (r = 2147483649 → h' 75 13 + h 75 7 ≤ h' 75 7 + h 75 13) ∧ (r = 2147483649 → h' 75 10 = h 75 10) ∧ (r = 2147483649 → h 75 7 + 0 ≤ h' 75 7) ∧ (r = 2147483649 → h 75 13 ≤ h' 75 13) ∧ Kp h h' (h 75 13 - 2147483648) ∧ (r = 2147483649 → Seg (sg h') (h 75 13 - 2147483648) (h' 75 13 - 2147483648)) ∧ G tB tN (Kd.seq 1) 0 (sk tB tN (h 75 7)) (rs r (sk tB tN (h' 75 7)))) 0 0 0 [x_r 75] [] h := by
  have hF := Fr.refl 97517569 h
  have b1 := jB (e := 13) 0 hJ rg_75_13_0_1 (by first | decide | omega) (by first | decide | omega)
  have b2 := jB (e := 7) 0 hJ rg_75_7_0_1 (by first | decide | omega) (by first | decide | omega)
  have b3 := jB (e := 10) 0 hJ rg_75_10_0_1 (by first | decide | omega) (by first | decide | omega)
  refine x_aload (np := 1) (x := 0) (by decide +kernel) rfl (x_nc_le (by decide)) ?_
  refine x_cI (t := 6) (mj := 190) (n := 1) (rc := 12) (ml := 3) (nr := 0) (np := 4) (as := [x_r 75]) (rest := []) (lo1 := [x_r 75, 147573952589676412928, 147573952589676412928]) (by decide +kernel) (by decide) (by decide +kernel) (x_rb_of (by decide +kernel)) rfl rfl (x_wr (by decide) x_wn) x_wn (by decide) rfl (c190_75_D0 hJ  (by first | decide | omega) (by first | decide | omega) hT) (fun v4 h7 l5 q6 => ?_)
  obtain ⟨j8, f9, b10, c11, c12, c13, c14, c15, c16, c17⟩ := q6
  have f18 := Fr.trans hF f9 (by decide)
  have b19 := jB (e := 13) 0 j8 rg_75_13_0_1 (by first | decide | omega) (by first | decide | omega)
  have b20 := jB (e := 7) 0 j8 rg_75_7_0_1 (by first | decide | omega) (by first | decide | omega)
  have b21 := jB (e := 10) 0 j8 rg_75_10_0_1 (by first | decide | omega) (by first | decide | omega)
  refine x_ifz (k := 1) (tg := 9) (np := 7) (by decide +kernel) (by decide) l5 (fun q22 => ?_) (fun q23 => ?_)
  · have q22 : v4 ≠ 2147483648 := q22
    have b24 := c11 (by first | decide | omega)
    have b25 := c12 (by first | decide | omega)
    have b26 := c13 (by first | decide | omega)
    have b27 := c14 (by first | decide | omega)
    have s28 := c16 (by first | decide | omega)
    have p197 : ∀ (n : Nat) (h194 : xh), 4294967296 - h194 75 7 < n → h194 75 13 + h 75 7 ≤ h194 75 7 + h 75 13 → h194 75 10 = h 75 10 → h 75 7 ≤ h194 75 7 → h 75 13 ≤ h194 75 13 → J h194 → Fr 97517569 h7 h194 → Res tB tN (Kd.lp 1) 0 (sk tB tN (h194 75 7)) (Kd.seq 1) 0 (sk tB tN (h 75 7)) → Kp h h194 (h 75 13 - 2147483648) → Seg (sg h194) (h 75 13 - 2147483648) (h194 75 13 - 2147483648) → X sc 191 (d + 26) (xI fun r h' => J h' ∧ Fr 97517569 h h' ∧ (2147483648 ≤ r ∧ r ≤ 2147483649) ∧ (r = 2147483649 → h' 75 13 + h 75 7 ≤ h' 75 7 + h 75 13) ∧ (r = 2147483649 → h' 75 10 = h 75 10) ∧ (r = 2147483649 → h 75 7 + 0 ≤ h' 75 7) ∧ (r = 2147483649 → h 75 13 ≤ h' 75 13) ∧ Kp h h' (h 75 13 - 2147483648) ∧ (r = 2147483649 → Seg (sg h') (h 75 13 - 2147483648) (h' 75 13 - 2147483648)) ∧ G tB tN (Kd.seq 1) 0 (sk tB tN (h 75 7)) (rs r (sk tB tN (h' 75 7)))) 0 0 9 [x_r 75] [] h194 := by
      intro n
      induction n with
      | zero => intro h194 q205; exact absurd q205 (Nat.not_lt_zero _)
      | succ n i206 =>
        intro h194 q205 b198 b199 b200 b201 j196 f195 m202 m203 m204
        have f207 := Fr.trans f18 f195 (by decide)
        refine x_aload (np := 10) (x := 0) (by decide +kernel) rfl (x_nc_le (by decide)) ?_
        refine x_ldcwB (i := 31) (idx := 257) (tx := "and") (by rw [tb_y191]; exact List.mem_of_getElem? (i := 66) rfl) (by decide) (by rw [tb_b191]; decide +kernel) ?_
        have m212 := Tq.fr hT f9 (by decide) (by decide)
        have m211 := Tq.fr m212 f195 (by decide) (by decide)
        refine x_cI (t := 6) (mj := 171) (n := 2) (rc := 12) (ml := 2) (nr := 0) (np := 16) (as := [x_r 75, x_b (31 + 1)]) (rest := []) (lo1 := [x_r 75, x_b (31 + 1)]) (by decide +kernel) (by decide) (by decide +kernel) (x_rb_of (by decide +kernel)) rfl rfl (x_wr (by decide) (x_wB (by decide) x_wn)) x_wn (by decide) rfl (c171_75_S0 j196  (by decide) m211) (fun v208 h213 l209 q210 => ?_)
        obtain ⟨j214, f215, b216, c217, c218, c219⟩ := q210
        have f220 := Fr.trans f207 f215 (by decide)
        have f221 := Fr.trans f195 f215 (by decide)
        have b222 := jB (e := 7) 0 j196 rg_75_7_0_1 (by first | decide | omega) (by first | decide | omega)
        have b223 := jB (e := 7) 0 j214 rg_75_7_0_1 (by first | decide | omega) (by first | decide | omega)
        refine x_ifz (k := 0) (tg := 38) (np := 19) (by decide +kernel) (by decide) l209 (fun q224 => ?_) (fun q225 => ?_)
        · have q224 : v208 = 2147483648 := q224
          refine x_const (np := 39) (x := 9223372043297226753) (a := 2147483649) (by decide +kernel) (by decide) (by decide) ?_
          have q226 : h213 75 13 = h194 75 13 := jK 0 f215 rg_75_13_0_1 (by first | decide | omega) (by first | decide | omega) (by decide)
          have b227 := jB (e := 13) 0 j196 rg_75_13_0_1 (by first | decide | omega) (by first | decide | omega)
          have q228 : h213 75 10 = h194 75 10 := jK 0 f215 rg_75_10_0_1 (by first | decide | omega) (by first | decide | omega) (by decide)
          have b229 := jB (e := 10) 0 j196 rg_75_10_0_1 (by first | decide | omega) (by first | decide | omega)
          have q230 : h213 75 13 = h194 75 13 := jK 0 f215 rg_75_13_0_1 (by first | decide | omega) (by first | decide | omega) (by decide)
          have k232 : Kp h h194 (h 75 13 - 2147483648) := Kp.less m203 (by first | decide | omega)
          have k231 : Kp h h213 (h 75 13 - 2147483648) := Kp.fr k232 f215 (by first | decide | omega) (by decide)
          have q233 : h213 75 13 = h194 75 13 := jK 0 f215 rg_75_13_0_1 (by first | decide | omega) (by first | decide | omega) (by decide)
          have k234 : Kp h194 h213 (h194 75 13 - 2147483648) := Kp.fr Kp.refl f215 (by first | decide | omega) (by decide)
          have s235 : Seg (sg h213) (h 75 13 - 2147483648) (h213 75 13 - 2147483648) := Seg.cast (Seg.kp m204 k234) (by first | decide | omega) (by first | decide | omega)
          obtain ⟨w236, e237⟩ := Tk.no c219 (by first | decide | omega)
          refine x_retI (np := 40) (x := 0) (by decide +kernel) (by decide) (Or.inr ⟨by decide +kernel, by first | decide | omega, by first | decide | omega⟩) ⟨_, rfl, (by decide), ?_⟩
          exact ⟨j214, f220, (by first | decide | omega), (fun z => by first | decide | omega), (fun z => by first | decide | omega), (fun z => by first | decide | omega), (fun z => by first | decide | omega), k231, (fun _ => s235), (gQ_e (t := 1) m202 w236 rfl (by first | decide | omega) ((Eq.symm e237)))⟩
        have q225 : ¬ (v208 = 2147483648) := q225
        have b238 := c218 (by first | decide | omega)
        refine x_aload (np := 20) (x := 0) (by decide +kernel) rfl (x_nc_le (by decide)) ?_
        have q239 : h213 75 10 = h194 75 10 := jK 0 f215 rg_75_10_0_1 (by first | decide | omega) (by first | decide | omega) (by decide)
        have b240 := jB (e := 10) 0 j196 rg_75_10_0_1 (by first | decide | omega) (by first | decide | omega)
        have q241 : h213 75 13 = h194 75 13 := jK 0 f215 rg_75_13_0_1 (by first | decide | omega) (by first | decide | omega) (by decide)
        have b242 := jB (e := 13) 0 j196 rg_75_13_0_1 (by first | decide | omega) (by first | decide | omega)
        have q243 : h213 75 10 = h194 75 10 := jK 0 f215 rg_75_10_0_1 (by first | decide | omega) (by first | decide | omega) (by decide)
        have m247 := Tq.fr m211 f215 (by decide) (by decide)
        refine x_cI (t := 6) (mj := 190) (n := 1) (rc := 12) (ml := 3) (nr := 0) (np := 23) (as := [x_r 75]) (rest := []) (lo1 := [x_r 75, 147573952589676412928, 147573952589676412928]) (by decide +kernel) (by decide) (by decide +kernel) (x_rb_of (by decide +kernel)) rfl rfl (x_wr (by decide) x_wn) x_wn (by decide) rfl (c190_75_D0 j214  (by first | decide | omega) (by first | decide | omega) m247) (fun v244 h248 l245 q246 => ?_)
        obtain ⟨j249, f250, b251, c252, c253, c254, c255, c256, c257, c258⟩ := q246
        have f259 := Fr.trans f220 f250 (by decide)
        have f260 := Fr.trans f221 f250 (by decide)
        have q261 : h213 75 13 = h194 75 13 := jK 0 f215 rg_75_13_0_1 (by first | decide | omega) (by first | decide | omega) (by decide)
        have b262 := jB (e := 13) 0 j249 rg_75_13_0_1 (by first | decide | omega) (by first | decide | omega)
        have b263 := jB (e := 7) 0 j249 rg_75_7_0_1 (by first | decide | omega) (by first | decide | omega)
        have q264 : h213 75 10 = h194 75 10 := jK 0 f215 rg_75_10_0_1 (by first | decide | omega) (by first | decide | omega) (by decide)
        have b265 := jB (e := 10) 0 j249 rg_75_10_0_1 (by first | decide | omega) (by first | decide | omega)
        have q266 : h213 75 13 = h194 75 13 := jK 0 f215 rg_75_13_0_1 (by first | decide | omega) (by first | decide | omega) (by decide)
        refine x_ifz (k := 1) (tg := 28) (np := 26) (by decide +kernel) (by decide) l245 (fun q267 => ?_) (fun q268 => ?_)
        · have q267 : v244 ≠ 2147483648 := q267
          have b269 := c252 (by first | decide | omega)
          have b270 := c253 (by first | decide | omega)
          have b271 := c254 (by first | decide | omega)
          have b272 := c255 (by first | decide | omega)
          have s273 := c257 (by first | decide | omega)
          have q274 : h213 75 13 = h194 75 13 := jK 0 f215 rg_75_13_0_1 (by first | decide | omega) (by first | decide | omega) (by decide)
          refine x_aload (np := 29) (x := 0) (by decide +kernel) rfl (x_nc_le (by decide)) ?_
          refine x_const (np := 31) (x := 9223372094836834317) (a := 2147483661) (by decide +kernel) (by decide) (by decide) ?_
          refine x_const (np := 32) (x := 9223372039002259456) (a := 2147483648) (by decide +kernel) (by decide) (by decide) ?_
          refine x_nV (t := 6) (mj := 187) (n := 3) (rc := 12) (ml := 3) (nr := 0) (np := 35) (as := [x_r 75, iv_c 2147483661, iv_c 2147483648]) (rest := []) (lo1 := [x_r 75, iv_c 2147483661, iv_c 2147483648]) (by decide +kernel) (by decide) (by decide +kernel) (x_rb_of (by decide +kernel)) rfl rfl (x_wr (by decide) (x_wi (by decide) (x_wi (by decide) x_wn))) x_wn (by decide) rfl ?_
          refine x_aload (np := 1) (x := 0) (by decide +kernel) rfl (x_nc_le (by decide)) ?_
          have q275 : h248 75 1 = 76 := by have z := jB (e := 1) 0 j249 rg_75_1_0_1 (by decide) (by decide); omega
          refine x_getR (np := 4) (x := 705) (f := 1) (q := 76) (by decide +kernel) (by decide) (by decide +kernel) q275 ?_
          refine x_const (np := 7) (x := 9223376986804585600) (a := 2147484800) (by decide +kernel) (by decide) (by decide) ?_
          refine x_const (np := 8) (x := 9223372047592194050) (a := 2147483650) (by decide +kernel) (by decide) (by decide) ?_
          refine x_aload (np := 9) (x := 0) (by decide +kernel) rfl (x_nc_le (by decide)) ?_
          refine x_getC (np := 12) (x := 717) (f := 13) (q := (h248 75 13)) (by decide +kernel) (by decide) (by decide +kernel) rfl (fun l276 => ?_)
          obtain ⟨u277, q278⟩ : ∃ z, (h248 75 13) = 2147483648 + z := ⟨(h248 75 13) - 2147483648, by first | decide | omega⟩
          refine x_imul (np := 13) (x := 0) (i := 2) (j := u277) (v := (2147483648 + 2 * u277)) (by decide +kernel) (by first | decide | omega) (by first | decide | omega) (by first | decide | omega) (by first | decide | omega) (by decide) l276 ?_
          refine x_iadd (np := 14) (x := 0) (v := (2147484800 + 2 * u277)) (by decide +kernel) (by decide) (by first | decide | omega) (by first | decide | omega) (by first | decide | omega) ?_
          refine x_iload (np := 15) (x := 1) (by decide +kernel) rfl (by decide) ?_
          refine x_ast (np := 16) (x := 0) (kd := 1) (n := 1952) (i := (1152 + 2 * u277)) (by decide +kernel) (Or.inl rfl) (by decide +kernel) (by first | decide | omega) (by first | decide | omega) (by decide) (by decide) (fun z => absurd z (by decide)) ?_
          have j281 := jU (e := (1152 + 2 * u277)) (v := 2147483661) u277 j249 rg_76_1152_2_394 (by first | decide | omega) (by first | decide | omega) (by first | decide | omega)
          have f283 := jF (e := (1152 + 2 * u277)) (v := 2147483661) u277 f259 rg_76_1152_2_394 (by first | decide | omega) (by first | decide | omega) (by decide)
          have f284 := jF (e := (1152 + 2 * u277)) (v := 2147483661) u277 f260 rg_76_1152_2_394 (by first | decide | omega) (by first | decide | omega) (by decide)
          generalize e282 : x_up h248 76 (1152 + 2 * u277) 2147483661 = h280 at j281 f283 f284 ⊢
          refine x_aload (np := 17) (x := 0) (by decide +kernel) rfl (x_nc_le (by decide)) ?_
          have q285 : h280 75 1 = 76 := by have z := jB (e := 1) 0 j281 rg_75_1_0_1 (by decide) (by decide); omega
          refine x_getR (np := 20) (x := 705) (f := 1) (q := 76) (by decide +kernel) (by decide) (by decide +kernel) q285 ?_
          refine x_const (np := 23) (x := 9223376986804585600) (a := 2147484800) (by decide +kernel) (by decide) (by decide) ?_
          refine x_const (np := 24) (x := 9223372047592194050) (a := 2147483650) (by decide +kernel) (by decide) (by decide) ?_
          refine x_aload (np := 25) (x := 0) (by decide +kernel) rfl (x_nc_le (by decide)) ?_
          have q286 : h280 75 13 = h248 75 13 := by rw [← e282]; exact x_up_k (by decide)
          refine x_getC (np := 28) (x := 717) (f := 13) (q := (h248 75 13)) (by decide +kernel) (by decide) (by decide +kernel) q286 (fun l287 => ?_)
          refine x_imul (np := 29) (x := 0) (i := 2) (j := u277) (v := (2147483648 + 2 * u277)) (by decide +kernel) (by first | decide | omega) (by first | decide | omega) (by first | decide | omega) (by first | decide | omega) (by decide) l276 ?_
          refine x_iadd (np := 30) (x := 0) (v := (2147484800 + 2 * u277)) (by decide +kernel) (by decide) (by first | decide | omega) (by first | decide | omega) (by first | decide | omega) ?_
          refine x_const (np := 31) (x := 9223372043297226753) (a := 2147483649) (by decide +kernel) (by decide) (by decide) ?_
          refine x_iadd (np := 32) (x := 0) (v := (2147484801 + 2 * u277)) (by decide +kernel) (by first | decide | omega) (by decide) (by first | decide | omega) (by first | decide | omega) ?_
          refine x_iload (np := 33) (x := 2) (by decide +kernel) rfl (by decide) ?_
          refine x_ast (np := 34) (x := 0) (kd := 1) (n := 1952) (i := (1153 + 2 * u277)) (by decide +kernel) (Or.inl rfl) (by decide +kernel) (by first | decide | omega) (by first | decide | omega) (by decide) (by decide) (fun z => absurd z (by decide)) ?_
          have j290 := jU (e := (1153 + 2 * u277)) (v := 2147483648) u277 j281 rg_76_1153_2_394 (by first | decide | omega) (by first | decide | omega) (by first | decide | omega)
          have f292 := jF (e := (1153 + 2 * u277)) (v := 2147483648) u277 f283 rg_76_1153_2_394 (by first | decide | omega) (by first | decide | omega) (by decide)
          have f293 := jF (e := (1153 + 2 * u277)) (v := 2147483648) u277 f284 rg_76_1153_2_394 (by first | decide | omega) (by first | decide | omega) (by decide)
          generalize e291 : x_up h280 76 (1153 + 2 * u277) 2147483648 = h289 at j290 f292 f293 ⊢
          refine x_aload (np := 35) (x := 0) (by decide +kernel) rfl (x_nc_le (by decide)) ?_
          refine x_dup (np := 36) (x := 0) (by decide +kernel) (by have z := x_nc_le (k := 75) (by decide); unfold x_r; omega) ?_
          have q294 : h289 75 13 = h280 75 13 := by rw [← e291]; exact x_up_k (by decide)
          have q295 : h280 75 13 = h248 75 13 := by rw [← e282]; exact x_up_k (by decide)
          refine x_getC (np := 39) (x := 717) (f := 13) (q := (h248 75 13)) (by decide +kernel) (by decide) (by decide +kernel) (q294.trans q295) (fun l296 => ?_)
          refine x_const (np := 40) (x := 9223372043297226753) (a := 2147483649) (by decide +kernel) (by decide) (by decide) ?_
          refine x_iadd (np := 41) (x := 0) (v := (1 + (h248 75 13))) (by decide +kernel) l276 (by decide) (by first | decide | omega) (by first | decide | omega) ?_
          refine x_putI (np := 44) (x := 717) (f := 13) (by decide +kernel) (by decide +kernel) (by first | decide | omega) (Or.inl (by decide)) ?_
          have j298 := jU (e := 13) (v := (1 + (h248 75 13))) 0 j290 rg_75_13_0_1 (by first | decide | omega) (by first | decide | omega) (by first | decide | omega)
          have f300 := jF (e := 13) (v := (1 + (h248 75 13))) 0 f292 rg_75_13_0_1 (by first | decide | omega) (by first | decide | omega) (by decide)
          have f301 := jF (e := 13) (v := (1 + (h248 75 13))) 0 f293 rg_75_13_0_1 (by first | decide | omega) (by first | decide | omega) (by decide)
          generalize e299 : x_up h289 75 13 (1 + (h248 75 13)) = h297 at j298 f300 f301 ⊢
          refine x_retV (np := 45) (x := 0) (by decide +kernel) (by decide +kernel) ⟨rfl, ?_⟩
          have q302 : h297 75 13 = (1 + (h248 75 13)) := by rw [← e299]; exact x_up_at
          refine x_goto (np := 38) (x := 9) (by decide +kernel) ?_
          have q303 : h297 75 7 = h289 75 7 := by rw [← e299]; exact x_up_i (by first | decide | omega)
          have q304 : h289 75 7 = h280 75 7 := by rw [← e291]; exact x_up_k (by decide)
          have q305 : h280 75 7 = h248 75 7 := by rw [← e282]; exact x_up_k (by decide)
          have q306 : h297 75 7 = h289 75 7 := by rw [← e299]; exact x_up_i (by first | decide | omega)
          have q307 : h289 75 7 = h280 75 7 := by rw [← e291]; exact x_up_k (by decide)
          have q308 : h280 75 7 = h248 75 7 := by rw [← e282]; exact x_up_k (by decide)
          have q309 : h297 75 13 = (1 + (h248 75 13)) := by rw [← e299]; exact x_up_at
          have q310 : h297 75 10 = h289 75 10 := by rw [← e299]; exact x_up_i (by first | decide | omega)
          have q311 : h289 75 10 = h280 75 10 := by rw [← e291]; exact x_up_k (by decide)
          have q312 : h280 75 10 = h248 75 10 := by rw [← e282]; exact x_up_k (by decide)
          obtain ⟨w313, e314⟩ := Tk.yes c219 (by first | decide | omega)
          have q315 : h297 75 7 = h289 75 7 := by rw [← e299]; exact x_up_i (by first | decide | omega)
          have q316 : h289 75 7 = h280 75 7 := by rw [← e291]; exact x_up_k (by decide)
          have q317 : h280 75 7 = h248 75 7 := by rw [← e282]; exact x_up_k (by decide)
          have k323 : Kp h h194 (h 75 13 - 2147483648) := Kp.less m203 (by first | decide | omega)
          have k322 : Kp h h213 (h 75 13 - 2147483648) := Kp.fr k323 f215 (by first | decide | omega) (by decide)
          have q324 : h213 75 13 = h194 75 13 := jK 0 f215 rg_75_13_0_1 (by first | decide | omega) (by first | decide | omega) (by decide)
          have k321 : Kp h h248 (h 75 13 - 2147483648) := Kp.trans k322 c256 (by first | decide | omega)
          have k320 : Kp h h280 (h 75 13 - 2147483648) := by rw [← e282]; exact Kp.up k321 (by first | decide | omega) (fun i hi => by first | decide | omega)
          have k319 : Kp h h289 (h 75 13 - 2147483648) := by rw [← e291]; exact Kp.up k320 (by first | decide | omega) (fun i hi => by first | decide | omega)
          have k318 : Kp h h297 (h 75 13 - 2147483648) := by rw [← e299]; exact Kp.oth k319 (by decide)
          have q325 : h297 75 13 = (1 + (h248 75 13)) := by rw [← e299]; exact x_up_at
          have q327 : h297 76 (1152 + 2 * u277) = h289 76 (1152 + 2 * u277) := by rw [← e299]; exact x_up_k (by decide)
          have q328 : h289 76 (1152 + 2 * u277) = h280 76 (1152 + 2 * u277) := by rw [← e291]; exact x_up_i (by first | decide | omega)
          have q329 : h280 76 (1152 + 2 * u277) = 2147483661 := by rw [← e282]; exact x_up_at
          have k334 : Kp h194 h213 (h194 75 13 - 2147483648) := Kp.fr Kp.refl f215 (by first | decide | omega) (by decide)
          have q335 : h213 75 13 = h194 75 13 := jK 0 f215 rg_75_13_0_1 (by first | decide | omega) (by first | decide | omega) (by decide)
          have k333 : Kp h194 h248 (h194 75 13 - 2147483648) := Kp.trans k334 c256 (by first | decide | omega)
          have k332 : Kp h194 h280 (h194 75 13 - 2147483648) := by rw [← e282]; exact Kp.up k333 (by first | decide | omega) (fun i hi => by first | decide | omega)
          have k331 : Kp h194 h289 (h194 75 13 - 2147483648) := by rw [← e291]; exact Kp.up k332 (by first | decide | omega) (fun i hi => by first | decide | omega)
          have k330 : Kp h194 h297 (h194 75 13 - 2147483648) := by rw [← e299]; exact Kp.oth k331 (by decide)
          have k338 : Kp h248 h280 (h248 75 13 - 2147483648) := by rw [← e282]; exact Kp.up Kp.refl (by first | decide | omega) (fun i hi => by first | decide | omega)
          have k337 : Kp h248 h289 (h248 75 13 - 2147483648) := by rw [← e291]; exact Kp.up k338 (by first | decide | omega) (fun i hi => by first | decide | omega)
          have k336 : Kp h248 h297 (h248 75 13 - 2147483648) := by rw [← e299]; exact Kp.oth k337 (by decide)
          have s326 : Seg (sg h297) (h 75 13 - 2147483648) (u277 + 1) := Seg.bin (Seg.kp m204 k330) (Seg.cast (a' := (h194 75 13 - 2147483648)) (b' := u277) (Seg.kp s273 k336) (by first | decide | omega) (by first | decide | omega)) (show 2147483656 < h297 76 (1152 + 2 * u277) by first | decide | omega) (show h297 76 (1152 + 2 * u277) ≠ 2147483660 by first | decide | omega)
          have s339 : Seg (sg h297) (h 75 13 - 2147483648) (h297 75 13 - 2147483648) := Seg.cast (Seg.kp s326 Kp.refl) (by first | decide | omega) (by first | decide | omega)
          exact i206  h297 (by first | decide | omega) (by first | decide | omega) (by first | decide | omega) (by first | decide | omega) (by first | decide | omega) j298 f301 (gQ_st (t := 1) m202 w313 rfl e314 c258 rfl (by first | decide | omega) (congrArg (sk tB tN) (show h248 75 7 = h297 75 7 by first | decide | omega))) k318 s339
        have q268 : ¬ (v244 ≠ 2147483648) := q268
        refine x_const (np := 27) (x := 9223372039002259456) (a := 2147483648) (by decide +kernel) (by decide) (by decide) ?_
        have k342 : Kp h h194 (h 75 13 - 2147483648) := Kp.less m203 (by first | decide | omega)
        have k341 : Kp h h213 (h 75 13 - 2147483648) := Kp.fr k342 f215 (by first | decide | omega) (by decide)
        have q343 : h213 75 13 = h194 75 13 := jK 0 f215 rg_75_13_0_1 (by first | decide | omega) (by first | decide | omega) (by decide)
        have k340 : Kp h h248 (h 75 13 - 2147483648) := Kp.trans k341 c256 (by first | decide | omega)
        obtain ⟨w344, e345⟩ := Tk.yes c219 (by first | decide | omega)
        refine x_retI (np := 28) (x := 0) (by decide +kernel) (by decide) (Or.inr ⟨by decide +kernel, by first | decide | omega, by first | decide | omega⟩) ⟨_, rfl, (by decide), ?_⟩
        exact ⟨j249, f259, (by first | decide | omega), (fun z => by first | decide | omega), (fun z => by first | decide | omega), (fun z => by first | decide | omega), (fun z => by first | decide | omega), k340, (fun z => absurd z (by first | decide | omega)), (gQ_f (t := 1) m202 w344 rfl e345 c258 rfl (by first | decide | omega) (by first | decide | omega))⟩
    have k346 : Kp h h7 (h 75 13 - 2147483648) := Kp.less c15 (by first | decide | omega)
    have s347 : Seg (sg h7) (h 75 13 - 2147483648) (h7 75 13 - 2147483648) := Seg.cast (Seg.kp s28 Kp.refl) (by first | decide | omega) (by first | decide | omega)
    exact p197 _  h7 (Nat.lt_succ_self _) (by first | decide | omega) (by first | decide | omega) (by first | decide | omega) (by first | decide | omega) j8 (Fr.refl _ _) (gQ_in (t := 1) c17 rfl (by first | decide | omega) rfl) k346 s347
  have q23 : ¬ (v4 ≠ 2147483648) := q23
  refine x_const (np := 8) (x := 9223372039002259456) (a := 2147483648) (by decide +kernel) (by decide) (by decide) ?_
  have k348 : Kp h h7 (h 75 13 - 2147483648) := Kp.less c15 (by first | decide | omega)
  refine x_retI (np := 9) (x := 0) (by decide +kernel) (by decide) (Or.inr ⟨by decide +kernel, by first | decide | omega, by first | decide | omega⟩) ⟨_, rfl, (by decide), ?_⟩
  exact ⟨j8, f18, (by first | decide | omega), (fun z => by first | decide | omega), (fun z => by first | decide | omega), (fun z => by first | decide | omega), (fun z => by first | decide | omega), k348, (fun z => absurd z (by first | decide | omega)), (gQ_no (t := 1) c17 rfl (by first | decide | omega) (by first | decide | omega))⟩
set_option maxHeartbeats 0 in
/-- LentNamesModel.readCond()Z -/
theorem c192_75_D0 {sc : Nat × Nat} {d  : Nat} {h : xh} {tB : Nat → Nat} {tN : Nat} (hJ : J h) (hr0 : (h 75 13) + 5 ≤ (h 75 7)) (hr1 : (h 75 10) = 2147483648) (hT : Tq tB tN h) : X sc 192 (d + 27) (xI fun r h' => J h' ∧ Fr 97517569 h h' ∧ (2147483648 ≤ r ∧ r ≤ 2147483649) ∧ (r = 2147483649 → h' 75 13 + h 75 7 ≤ h' 75 7 + h 75 13) ∧ (r = 2147483649 → h' 75 10 = h 75 10) ∧ (r = 2147483649 → h 75 7 + 0 ≤ h' 75 7) ∧ (r = 2147483649 → h 75 13 ≤ h' 75 13) ∧ Kp h h' (h 75 13 - 2147483648) ∧ (r = 2147483649 → Seg (sg h') (h 75 13 - 2147483648) (h' 75 13 - 2147483648)) ∧ G tB tN (Kd.seq 2) 0 (sk tB tN (h 75 7)) (rs r (sk tB tN (h' 75 7)))) 0 0 0 [x_r 75] [] h := by
  have hF := Fr.refl 97517569 h
  have b1 := jB (e := 13) 0 hJ rg_75_13_0_1 (by first | decide | omega) (by first | decide | omega)
  have b2 := jB (e := 7) 0 hJ rg_75_7_0_1 (by first | decide | omega) (by first | decide | omega)
  have b3 := jB (e := 10) 0 hJ rg_75_10_0_1 (by first | decide | omega) (by first | decide | omega)
  refine x_aload (np := 1) (x := 0) (by decide +kernel) rfl (x_nc_le (by decide)) ?_
  refine x_cI (t := 6) (mj := 191) (n := 1) (rc := 12) (ml := 1) (nr := 0) (np := 4) (as := [x_r 75]) (rest := []) (lo1 := [x_r 75]) (by decide +kernel) (by decide) (by decide +kernel) (x_rb_of (by decide +kernel)) rfl rfl (x_wr (by decide) x_wn) x_wn (by decide) rfl (c191_75_D0 hJ  (by first | decide | omega) (by first | decide | omega) hT) (fun v4 h7 l5 q6 => ?_)
  obtain ⟨j8, f9, b10, c11, c12, c13, c14, c15, c16, c17⟩ := q6
  have f18 := Fr.trans hF f9 (by decide)
  have b19 := jB (e := 13) 0 j8 rg_75_13_0_1 (by first | decide | omega) (by first | decide | omega)
  have b20 := jB (e := 7) 0 j8 rg_75_7_0_1 (by first | decide | omega) (by first | decide | omega)
  have b21 := jB (e := 10) 0 j8 rg_75_10_0_1 (by first | decide | omega) (by first | decide | omega)
  refine x_ifz (k := 1) (tg := 9) (np := 7) (by decide +kernel) (by decide) l5 (fun q22 => ?_) (fun q23 => ?_)
  · have q22 : v4 ≠ 2147483648 := q22
    have b24 := c11 (by first | decide | omega)
    have b25 := c12 (by first | decide | omega)
    have b26 := c13 (by first | decide | omega)
    have b27 := c14 (by first | decide | omega)
    have s28 := c16 (by first | decide | omega)
    have p197 : ∀ (n : Nat) (h194 : xh), 4294967296 - h194 75 7 < n → h194 75 13 + h 75 7 ≤ h194 75 7 + h 75 13 → h194 75 10 = h 75 10 → h 75 7 ≤ h194 75 7 → h 75 13 ≤ h194 75 13 → J h194 → Fr 97517569 h7 h194 → Res tB tN (Kd.lp 2) 0 (sk tB tN (h194 75 7)) (Kd.seq 2) 0 (sk tB tN (h 75 7)) → Kp h h194 (h 75 13 - 2147483648) → Seg (sg h194) (h 75 13 - 2147483648) (h194 75 13 - 2147483648) → X sc 192 (d + 27) (xI fun r h' => J h' ∧ Fr 97517569 h h' ∧ (2147483648 ≤ r ∧ r ≤ 2147483649) ∧ (r = 2147483649 → h' 75 13 + h 75 7 ≤ h' 75 7 + h 75 13) ∧ (r = 2147483649 → h' 75 10 = h 75 10) ∧ (r = 2147483649 → h 75 7 + 0 ≤ h' 75 7) ∧ (r = 2147483649 → h 75 13 ≤ h' 75 13) ∧ Kp h h' (h 75 13 - 2147483648) ∧ (r = 2147483649 → Seg (sg h') (h 75 13 - 2147483648) (h' 75 13 - 2147483648)) ∧ G tB tN (Kd.seq 2) 0 (sk tB tN (h 75 7)) (rs r (sk tB tN (h' 75 7)))) 0 0 9 [x_r 75] [] h194 := by
      intro n
      induction n with
      | zero => intro h194 q205; exact absurd q205 (Nat.not_lt_zero _)
      | succ n i206 =>
        intro h194 q205 b198 b199 b200 b201 j196 f195 m202 m203 m204
        have f207 := Fr.trans f18 f195 (by decide)
        refine x_aload (np := 10) (x := 0) (by decide +kernel) rfl (x_nc_le (by decide)) ?_
        refine x_ldcB (i := 15) (idx := 179) (tx := "or") (by rw [tb_y192]; exact List.mem_of_getElem? (i := 54) rfl) (by decide) (by rw [tb_b192]; decide +kernel) ?_
        have m212 := Tq.fr hT f9 (by decide) (by decide)
        have m211 := Tq.fr m212 f195 (by decide) (by decide)
        refine x_cI (t := 6) (mj := 171) (n := 2) (rc := 12) (ml := 2) (nr := 0) (np := 15) (as := [x_r 75, x_b (15 + 1)]) (rest := []) (lo1 := [x_r 75, x_b (15 + 1)]) (by decide +kernel) (by decide) (by decide +kernel) (x_rb_of (by decide +kernel)) rfl rfl (x_wr (by decide) (x_wB (by decide) x_wn)) x_wn (by decide) rfl (c171_75_S0 j196  (by decide) m211) (fun v208 h213 l209 q210 => ?_)
        obtain ⟨j214, f215, b216, c217, c218, c219⟩ := q210
        have f220 := Fr.trans f207 f215 (by decide)
        have f221 := Fr.trans f195 f215 (by decide)
        have b222 := jB (e := 7) 0 j196 rg_75_7_0_1 (by first | decide | omega) (by first | decide | omega)
        have b223 := jB (e := 7) 0 j214 rg_75_7_0_1 (by first | decide | omega) (by first | decide | omega)
        refine x_ifz (k := 0) (tg := 37) (np := 18) (by decide +kernel) (by decide) l209 (fun q224 => ?_) (fun q225 => ?_)
        · have q224 : v208 = 2147483648 := q224
          refine x_const (np := 38) (x := 9223372043297226753) (a := 2147483649) (by decide +kernel) (by decide) (by decide) ?_
          have q226 : h213 75 13 = h194 75 13 := jK 0 f215 rg_75_13_0_1 (by first | decide | omega) (by first | decide | omega) (by decide)
          have b227 := jB (e := 13) 0 j196 rg_75_13_0_1 (by first | decide | omega) (by first | decide | omega)
          have q228 : h213 75 10 = h194 75 10 := jK 0 f215 rg_75_10_0_1 (by first | decide | omega) (by first | decide | omega) (by decide)
          have b229 := jB (e := 10) 0 j196 rg_75_10_0_1 (by first | decide | omega) (by first | decide | omega)
          have q230 : h213 75 13 = h194 75 13 := jK 0 f215 rg_75_13_0_1 (by first | decide | omega) (by first | decide | omega) (by decide)
          have k232 : Kp h h194 (h 75 13 - 2147483648) := Kp.less m203 (by first | decide | omega)
          have k231 : Kp h h213 (h 75 13 - 2147483648) := Kp.fr k232 f215 (by first | decide | omega) (by decide)
          have q233 : h213 75 13 = h194 75 13 := jK 0 f215 rg_75_13_0_1 (by first | decide | omega) (by first | decide | omega) (by decide)
          have k234 : Kp h194 h213 (h194 75 13 - 2147483648) := Kp.fr Kp.refl f215 (by first | decide | omega) (by decide)
          have s235 : Seg (sg h213) (h 75 13 - 2147483648) (h213 75 13 - 2147483648) := Seg.cast (Seg.kp m204 k234) (by first | decide | omega) (by first | decide | omega)
          obtain ⟨w236, e237⟩ := Tk.no c219 (by first | decide | omega)
          refine x_retI (np := 39) (x := 0) (by decide +kernel) (by decide) (Or.inr ⟨by decide +kernel, by first | decide | omega, by first | decide | omega⟩) ⟨_, rfl, (by decide), ?_⟩
          exact ⟨j214, f220, (by first | decide | omega), (fun z => by first | decide | omega), (fun z => by first | decide | omega), (fun z => by first | decide | omega), (fun z => by first | decide | omega), k231, (fun _ => s235), (gQ_e (t := 2) m202 w236 rfl (by first | decide | omega) ((Eq.symm e237)))⟩
        have q225 : ¬ (v208 = 2147483648) := q225
        have b238 := c218 (by first | decide | omega)
        refine x_aload (np := 19) (x := 0) (by decide +kernel) rfl (x_nc_le (by decide)) ?_
        have q239 : h213 75 10 = h194 75 10 := jK 0 f215 rg_75_10_0_1 (by first | decide | omega) (by first | decide | omega) (by decide)
        have b240 := jB (e := 10) 0 j196 rg_75_10_0_1 (by first | decide | omega) (by first | decide | omega)
        have q241 : h213 75 13 = h194 75 13 := jK 0 f215 rg_75_13_0_1 (by first | decide | omega) (by first | decide | omega) (by decide)
        have b242 := jB (e := 13) 0 j196 rg_75_13_0_1 (by first | decide | omega) (by first | decide | omega)
        have q243 : h213 75 10 = h194 75 10 := jK 0 f215 rg_75_10_0_1 (by first | decide | omega) (by first | decide | omega) (by decide)
        have m247 := Tq.fr m211 f215 (by decide) (by decide)
        refine x_cI (t := 6) (mj := 191) (n := 1) (rc := 12) (ml := 1) (nr := 0) (np := 22) (as := [x_r 75]) (rest := []) (lo1 := [x_r 75]) (by decide +kernel) (by decide) (by decide +kernel) (x_rb_of (by decide +kernel)) rfl rfl (x_wr (by decide) x_wn) x_wn (by decide) rfl (c191_75_D0 j214  (by first | decide | omega) (by first | decide | omega) m247) (fun v244 h248 l245 q246 => ?_)
        obtain ⟨j249, f250, b251, c252, c253, c254, c255, c256, c257, c258⟩ := q246
        have f259 := Fr.trans f220 f250 (by decide)
        have f260 := Fr.trans f221 f250 (by decide)
        have q261 : h213 75 13 = h194 75 13 := jK 0 f215 rg_75_13_0_1 (by first | decide | omega) (by first | decide | omega) (by decide)
        have b262 := jB (e := 13) 0 j249 rg_75_13_0_1 (by first | decide | omega) (by first | decide | omega)
        have b263 := jB (e := 7) 0 j249 rg_75_7_0_1 (by first | decide | omega) (by first | decide | omega)
        have q264 : h213 75 10 = h194 75 10 := jK 0 f215 rg_75_10_0_1 (by first | decide | omega) (by first | decide | omega) (by decide)
        have b265 := jB (e := 10) 0 j249 rg_75_10_0_1 (by first | decide | omega) (by first | decide | omega)
        have q266 : h213 75 13 = h194 75 13 := jK 0 f215 rg_75_13_0_1 (by first | decide | omega) (by first | decide | omega) (by decide)
        refine x_ifz (k := 1) (tg := 27) (np := 25) (by decide +kernel) (by decide) l245 (fun q267 => ?_) (fun q268 => ?_)
        · have q267 : v244 ≠ 2147483648 := q267
          have b269 := c252 (by first | decide | omega)
          have b270 := c253 (by first | decide | omega)
          have b271 := c254 (by first | decide | omega)
          have b272 := c255 (by first | decide | omega)
          have s273 := c257 (by first | decide | omega)
          have q274 : h213 75 13 = h194 75 13 := jK 0 f215 rg_75_13_0_1 (by first | decide | omega) (by first | decide | omega) (by decide)
          refine x_aload (np := 28) (x := 0) (by decide +kernel) rfl (x_nc_le (by decide)) ?_
          refine x_const (np := 30) (x := 9223372099131801614) (a := 2147483662) (by decide +kernel) (by decide) (by decide) ?_
          refine x_const (np := 31) (x := 9223372039002259456) (a := 2147483648) (by decide +kernel) (by decide) (by decide) ?_
          refine x_nV (t := 6) (mj := 187) (n := 3) (rc := 12) (ml := 3) (nr := 0) (np := 34) (as := [x_r 75, iv_c 2147483662, iv_c 2147483648]) (rest := []) (lo1 := [x_r 75, iv_c 2147483662, iv_c 2147483648]) (by decide +kernel) (by decide) (by decide +kernel) (x_rb_of (by decide +kernel)) rfl rfl (x_wr (by decide) (x_wi (by decide) (x_wi (by decide) x_wn))) x_wn (by decide) rfl ?_
          refine x_aload (np := 1) (x := 0) (by decide +kernel) rfl (x_nc_le (by decide)) ?_
          have q275 : h248 75 1 = 76 := by have z := jB (e := 1) 0 j249 rg_75_1_0_1 (by decide) (by decide); omega
          refine x_getR (np := 4) (x := 705) (f := 1) (q := 76) (by decide +kernel) (by decide) (by decide +kernel) q275 ?_
          refine x_const (np := 7) (x := 9223376986804585600) (a := 2147484800) (by decide +kernel) (by decide) (by decide) ?_
          refine x_const (np := 8) (x := 9223372047592194050) (a := 2147483650) (by decide +kernel) (by decide) (by decide) ?_
          refine x_aload (np := 9) (x := 0) (by decide +kernel) rfl (x_nc_le (by decide)) ?_
          refine x_getC (np := 12) (x := 717) (f := 13) (q := (h248 75 13)) (by decide +kernel) (by decide) (by decide +kernel) rfl (fun l276 => ?_)
          obtain ⟨u277, q278⟩ : ∃ z, (h248 75 13) = 2147483648 + z := ⟨(h248 75 13) - 2147483648, by first | decide | omega⟩
          refine x_imul (np := 13) (x := 0) (i := 2) (j := u277) (v := (2147483648 + 2 * u277)) (by decide +kernel) (by first | decide | omega) (by first | decide | omega) (by first | decide | omega) (by first | decide | omega) (by decide) l276 ?_
          refine x_iadd (np := 14) (x := 0) (v := (2147484800 + 2 * u277)) (by decide +kernel) (by decide) (by first | decide | omega) (by first | decide | omega) (by first | decide | omega) ?_
          refine x_iload (np := 15) (x := 1) (by decide +kernel) rfl (by decide) ?_
          refine x_ast (np := 16) (x := 0) (kd := 1) (n := 1952) (i := (1152 + 2 * u277)) (by decide +kernel) (Or.inl rfl) (by decide +kernel) (by first | decide | omega) (by first | decide | omega) (by decide) (by decide) (fun z => absurd z (by decide)) ?_
          have j281 := jU (e := (1152 + 2 * u277)) (v := 2147483662) u277 j249 rg_76_1152_2_394 (by first | decide | omega) (by first | decide | omega) (by first | decide | omega)
          have f283 := jF (e := (1152 + 2 * u277)) (v := 2147483662) u277 f259 rg_76_1152_2_394 (by first | decide | omega) (by first | decide | omega) (by decide)
          have f284 := jF (e := (1152 + 2 * u277)) (v := 2147483662) u277 f260 rg_76_1152_2_394 (by first | decide | omega) (by first | decide | omega) (by decide)
          generalize e282 : x_up h248 76 (1152 + 2 * u277) 2147483662 = h280 at j281 f283 f284 ⊢
          refine x_aload (np := 17) (x := 0) (by decide +kernel) rfl (x_nc_le (by decide)) ?_
          have q285 : h280 75 1 = 76 := by have z := jB (e := 1) 0 j281 rg_75_1_0_1 (by decide) (by decide); omega
          refine x_getR (np := 20) (x := 705) (f := 1) (q := 76) (by decide +kernel) (by decide) (by decide +kernel) q285 ?_
          refine x_const (np := 23) (x := 9223376986804585600) (a := 2147484800) (by decide +kernel) (by decide) (by decide) ?_
          refine x_const (np := 24) (x := 9223372047592194050) (a := 2147483650) (by decide +kernel) (by decide) (by decide) ?_
          refine x_aload (np := 25) (x := 0) (by decide +kernel) rfl (x_nc_le (by decide)) ?_
          have q286 : h280 75 13 = h248 75 13 := by rw [← e282]; exact x_up_k (by decide)
          refine x_getC (np := 28) (x := 717) (f := 13) (q := (h248 75 13)) (by decide +kernel) (by decide) (by decide +kernel) q286 (fun l287 => ?_)
          refine x_imul (np := 29) (x := 0) (i := 2) (j := u277) (v := (2147483648 + 2 * u277)) (by decide +kernel) (by first | decide | omega) (by first | decide | omega) (by first | decide | omega) (by first | decide | omega) (by decide) l276 ?_
          refine x_iadd (np := 30) (x := 0) (v := (2147484800 + 2 * u277)) (by decide +kernel) (by decide) (by first | decide | omega) (by first | decide | omega) (by first | decide | omega) ?_
          refine x_const (np := 31) (x := 9223372043297226753) (a := 2147483649) (by decide +kernel) (by decide) (by decide) ?_
          refine x_iadd (np := 32) (x := 0) (v := (2147484801 + 2 * u277)) (by decide +kernel) (by first | decide | omega) (by decide) (by first | decide | omega) (by first | decide | omega) ?_
          refine x_iload (np := 33) (x := 2) (by decide +kernel) rfl (by decide) ?_
          refine x_ast (np := 34) (x := 0) (kd := 1) (n := 1952) (i := (1153 + 2 * u277)) (by decide +kernel) (Or.inl rfl) (by decide +kernel) (by first | decide | omega) (by first | decide | omega) (by decide) (by decide) (fun z => absurd z (by decide)) ?_
          have j290 := jU (e := (1153 + 2 * u277)) (v := 2147483648) u277 j281 rg_76_1153_2_394 (by first | decide | omega) (by first | decide | omega) (by first | decide | omega)
          have f292 := jF (e := (1153 + 2 * u277)) (v := 2147483648) u277 f283 rg_76_1153_2_394 (by first | decide | omega) (by first | decide | omega) (by decide)
          have f293 := jF (e := (1153 + 2 * u277)) (v := 2147483648) u277 f284 rg_76_1153_2_394 (by first | decide | omega) (by first | decide | omega) (by decide)
          generalize e291 : x_up h280 76 (1153 + 2 * u277) 2147483648 = h289 at j290 f292 f293 ⊢
          refine x_aload (np := 35) (x := 0) (by decide +kernel) rfl (x_nc_le (by decide)) ?_
          refine x_dup (np := 36) (x := 0) (by decide +kernel) (by have z := x_nc_le (k := 75) (by decide); unfold x_r; omega) ?_
          have q294 : h289 75 13 = h280 75 13 := by rw [← e291]; exact x_up_k (by decide)
          have q295 : h280 75 13 = h248 75 13 := by rw [← e282]; exact x_up_k (by decide)
          refine x_getC (np := 39) (x := 717) (f := 13) (q := (h248 75 13)) (by decide +kernel) (by decide) (by decide +kernel) (q294.trans q295) (fun l296 => ?_)
          refine x_const (np := 40) (x := 9223372043297226753) (a := 2147483649) (by decide +kernel) (by decide) (by decide) ?_
          refine x_iadd (np := 41) (x := 0) (v := (1 + (h248 75 13))) (by decide +kernel) l276 (by decide) (by first | decide | omega) (by first | decide | omega) ?_
          refine x_putI (np := 44) (x := 717) (f := 13) (by decide +kernel) (by decide +kernel) (by first | decide | omega) (Or.inl (by decide)) ?_
          have j298 := jU (e := 13) (v := (1 + (h248 75 13))) 0 j290 rg_75_13_0_1 (by first | decide | omega) (by first | decide | omega) (by first | decide | omega)
          have f300 := jF (e := 13) (v := (1 + (h248 75 13))) 0 f292 rg_75_13_0_1 (by first | decide | omega) (by first | decide | omega) (by decide)
          have f301 := jF (e := 13) (v := (1 + (h248 75 13))) 0 f293 rg_75_13_0_1 (by first | decide | omega) (by first | decide | omega) (by decide)
          generalize e299 : x_up h289 75 13 (1 + (h248 75 13)) = h297 at j298 f300 f301 ⊢
          refine x_retV (np := 45) (x := 0) (by decide +kernel) (by decide +kernel) ⟨rfl, ?_⟩
          have q302 : h297 75 13 = (1 + (h248 75 13)) := by rw [← e299]; exact x_up_at
          refine x_goto (np := 37) (x := 9) (by decide +kernel) ?_
          have q303 : h297 75 7 = h289 75 7 := by rw [← e299]; exact x_up_i (by first | decide | omega)
          have q304 : h289 75 7 = h280 75 7 := by rw [← e291]; exact x_up_k (by decide)
          have q305 : h280 75 7 = h248 75 7 := by rw [← e282]; exact x_up_k (by decide)
          have q306 : h297 75 7 = h289 75 7 := by rw [← e299]; exact x_up_i (by first | decide | omega)
          have q307 : h289 75 7 = h280 75 7 := by rw [← e291]; exact x_up_k (by decide)
          have q308 : h280 75 7 = h248 75 7 := by rw [← e282]; exact x_up_k (by decide)
          have q309 : h297 75 13 = (1 + (h248 75 13)) := by rw [← e299]; exact x_up_at
          have q310 : h297 75 10 = h289 75 10 := by rw [← e299]; exact x_up_i (by first | decide | omega)
          have q311 : h289 75 10 = h280 75 10 := by rw [← e291]; exact x_up_k (by decide)
          have q312 : h280 75 10 = h248 75 10 := by rw [← e282]; exact x_up_k (by decide)
          obtain ⟨w313, e314⟩ := Tk.yes c219 (by first | decide | omega)
          have q315 : h297 75 7 = h289 75 7 := by rw [← e299]; exact x_up_i (by first | decide | omega)
          have q316 : h289 75 7 = h280 75 7 := by rw [← e291]; exact x_up_k (by decide)
          have q317 : h280 75 7 = h248 75 7 := by rw [← e282]; exact x_up_k (by decide)
          have k323 : Kp h h194 (h 75 13 - 2147483648) := Kp.less m203 (by first | decide | omega)
          have k322 : Kp h h213 (h 75 13 - 2147483648) := Kp.fr k323 f215 (by first | decide | omega) (by decide)
          have q324 : h213 75 13 = h194 75 13 := jK 0 f215 rg_75_13_0_1 (by first | decide | omega) (by first | decide | omega) (by decide)
          have k321 : Kp h h248 (h 75 13 - 2147483648) := Kp.trans k322 c256 (by first | decide | omega)
          have k320 : Kp h h280 (h 75 13 - 2147483648) := by rw [← e282]; exact Kp.up k321 (by first | decide | omega) (fun i hi => by first | decide | omega)
          have k319 : Kp h h289 (h 75 13 - 2147483648) := by rw [← e291]; exact Kp.up k320 (by first | decide | omega) (fun i hi => by first | decide | omega)
          have k318 : Kp h h297 (h 75 13 - 2147483648) := by rw [← e299]; exact Kp.oth k319 (by decide)
          have q325 : h297 75 13 = (1 + (h248 75 13)) := by rw [← e299]; exact x_up_at
          have q327 : h297 76 (1152 + 2 * u277) = h289 76 (1152 + 2 * u277) := by rw [← e299]; exact x_up_k (by decide)
          have q328 : h289 76 (1152 + 2 * u277) = h280 76 (1152 + 2 * u277) := by rw [← e291]; exact x_up_i (by first | decide | omega)
          have q329 : h280 76 (1152 + 2 * u277) = 2147483662 := by rw [← e282]; exact x_up_at
          have k334 : Kp h194 h213 (h194 75 13 - 2147483648) := Kp.fr Kp.refl f215 (by first | decide | omega) (by decide)
          have q335 : h213 75 13 = h194 75 13 := jK 0 f215 rg_75_13_0_1 (by first | decide | omega) (by first | decide | omega) (by decide)
          have k333 : Kp h194 h248 (h194 75 13 - 2147483648) := Kp.trans k334 c256 (by first | decide | omega)
          have k332 : Kp h194 h280 (h194 75 13 - 2147483648) := by rw [← e282]; exact Kp.up k333 (by first | decide | omega) (fun i hi => by first | decide | omega)
          have k331 : Kp h194 h289 (h194 75 13 - 2147483648) := by rw [← e291]; exact Kp.up k332 (by first | decide | omega) (fun i hi => by first | decide | omega)
          have k330 : Kp h194 h297 (h194 75 13 - 2147483648) := by rw [← e299]; exact Kp.oth k331 (by decide)
          have k338 : Kp h248 h280 (h248 75 13 - 2147483648) := by rw [← e282]; exact Kp.up Kp.refl (by first | decide | omega) (fun i hi => by first | decide | omega)
          have k337 : Kp h248 h289 (h248 75 13 - 2147483648) := by rw [← e291]; exact Kp.up k338 (by first | decide | omega) (fun i hi => by first | decide | omega)
          have k336 : Kp h248 h297 (h248 75 13 - 2147483648) := by rw [← e299]; exact Kp.oth k337 (by decide)
          have s326 : Seg (sg h297) (h 75 13 - 2147483648) (u277 + 1) := Seg.bin (Seg.kp m204 k330) (Seg.cast (a' := (h194 75 13 - 2147483648)) (b' := u277) (Seg.kp s273 k336) (by first | decide | omega) (by first | decide | omega)) (show 2147483656 < h297 76 (1152 + 2 * u277) by first | decide | omega) (show h297 76 (1152 + 2 * u277) ≠ 2147483660 by first | decide | omega)
          have s339 : Seg (sg h297) (h 75 13 - 2147483648) (h297 75 13 - 2147483648) := Seg.cast (Seg.kp s326 Kp.refl) (by first | decide | omega) (by first | decide | omega)
          exact i206  h297 (by first | decide | omega) (by first | decide | omega) (by first | decide | omega) (by first | decide | omega) (by first | decide | omega) j298 f301 (gQ_st (t := 2) m202 w313 rfl e314 c258 rfl (by first | decide | omega) (congrArg (sk tB tN) (show h248 75 7 = h297 75 7 by first | decide | omega))) k318 s339
        have q268 : ¬ (v244 ≠ 2147483648) := q268
        refine x_const (np := 26) (x := 9223372039002259456) (a := 2147483648) (by decide +kernel) (by decide) (by decide) ?_
        have k342 : Kp h h194 (h 75 13 - 2147483648) := Kp.less m203 (by first | decide | omega)
        have k341 : Kp h h213 (h 75 13 - 2147483648) := Kp.fr k342 f215 (by first | decide | omega) (by decide)
        have q343 : h213 75 13 = h194 75 13 := jK 0 f215 rg_75_13_0_1 (by first | decide | omega) (by first | decide | omega) (by decide)
        have k340 : Kp h h248 (h 75 13 - 2147483648) := Kp.trans k341 c256 (by first | decide | omega)
        obtain ⟨w344, e345⟩ := Tk.yes c219 (by first | decide | omega)
        refine x_retI (np := 27) (x := 0) (by decide +kernel) (by decide) (Or.inr ⟨by decide +kernel, by first | decide | omega, by first | decide | omega⟩) ⟨_, rfl, (by decide), ?_⟩
        exact ⟨j249, f259, (by first | decide | omega), (fun z => by first | decide | omega), (fun z => by first | decide | omega), (fun z => by first | decide | omega), (fun z => by first | decide | omega), k340, (fun z => absurd z (by first | decide | omega)), (gQ_f (t := 2) m202 w344 rfl e345 c258 rfl (by first | decide | omega) (by first | decide | omega))⟩
    have k346 : Kp h h7 (h 75 13 - 2147483648) := Kp.less c15 (by first | decide | omega)
    have s347 : Seg (sg h7) (h 75 13 - 2147483648) (h7 75 13 - 2147483648) := Seg.cast (Seg.kp s28 Kp.refl) (by first | decide | omega) (by first | decide | omega)
    exact p197 _  h7 (Nat.lt_succ_self _) (by first | decide | omega) (by first | decide | omega) (by first | decide | omega) (by first | decide | omega) j8 (Fr.refl _ _) (gQ_in (t := 2) c17 rfl (by first | decide | omega) rfl) k346 s347
  have q23 : ¬ (v4 ≠ 2147483648) := q23
  refine x_const (np := 8) (x := 9223372039002259456) (a := 2147483648) (by decide +kernel) (by decide) (by decide) ?_
  have k348 : Kp h h7 (h 75 13 - 2147483648) := Kp.less c15 (by first | decide | omega)
  refine x_retI (np := 9) (x := 0) (by decide +kernel) (by decide) (Or.inr ⟨by decide +kernel, by first | decide | omega, by first | decide | omega⟩) ⟨_, rfl, (by decide), ?_⟩
  exact ⟨j8, f18, (by first | decide | omega), (fun z => by first | decide | omega), (fun z => by first | decide | omega), (fun z => by first | decide | omega), (fun z => by first | decide | omega), k348, (fun z => absurd z (by first | decide | omega)), (gQ_no (t := 2) c17 rfl (by first | decide | omega) (by first | decide | omega))⟩
set_option maxHeartbeats 0 in
/-- LentNamesModel.readCustomLine(I)Z -/
theorem c193_75 {sc : Nat × Nat} {d a1 : Nat} {h : xh} {tB : Nat → Nat} {tN : Nat} (hJ : J h) (ba1 : 2147483648 ≤ a1 ∧ a1 ≤ 2147483657) (hr0 : (h 75 13) ≤ (h 75 9)) (hT : Tq tB tN h) (hp0 : h 75 7 = le9 tB tN (h 75 9)) : X sc 193 (d + 28) (xI fun r h' => J h' ∧ Fr 97517569 h h' ∧ (2147483648 ≤ r ∧ r ≤ 2147483649) ∧ (r = 2147483649 → h' 75 13 ≤ h' 75 7) ∧ Kq h h' (h 75 13 - 2147483648) ∧ Kl h h' (a1 - 2147483648) ∧ (r = 2147483649 → Lg h' (a1 - 2147483648) ∧ h' 76 (1124 + 3 * (a1 - 2147483648)) = h' 75 13 ∧ h 75 13 ≤ h' 75 13) ∧ G tB tN Kd.line 0 (h 75 9) (rs r (sk tB tN (h' 75 7)))) 0 0 0 [x_r 75, iv_c a1, 147573952589676412928] [] h := by
  have la1 : a1 < 4294967296 := by first | decide | omega
  have hF := Fr.refl 97517569 h
  have b1 := jB (e := 13) 0 hJ rg_75_13_0_1 (by first | decide | omega) (by first | decide | omega)
  have b2 := jB (e := 9) 0 hJ rg_75_9_0_1 (by first | decide | omega) (by first | decide | omega)
  refine x_const (np := 3) (x := 9223376857955566690) (a := 2147484770) (by decide +kernel) (by decide) (by decide) ?_
  refine x_const (np := 4) (x := 9223372051887161347) (a := 2147483651) (by decide +kernel) (by decide) (by decide) ?_
  refine x_iload (np := 5) (x := 1) (by decide +kernel) rfl la1 ?_
  obtain ⟨u3, q4⟩ : ∃ z, a1 = 2147483648 + z := ⟨a1 - 2147483648, by first | decide | omega⟩
  refine x_imul (np := 6) (x := 0) (i := 3) (j := u3) (v := (2147483648 + 3 * u3)) (by decide +kernel) (by first | decide | omega) (by first | decide | omega) (by first | decide | omega) (by first | decide | omega) (by decide) la1 ?_
  refine x_iadd (np := 7) (x := 0) (v := (2147484770 + 3 * u3)) (by decide +kernel) (by decide) (by first | decide | omega) (by first | decide | omega) (by first | decide | omega) ?_
  refine x_istore (np := 8) (x := 2) (lo' := [x_r 75, iv_c a1, iv_c (2147484770 + 3 * u3)]) (by decide +kernel) (by first | decide | omega) (Nat.le_of_ble_eq_true rfl) rfl ?_
  refine x_aload (np := 9) (x := 0) (by decide +kernel) rfl (x_nc_le (by decide)) ?_
  refine x_ldcwB (i := 22) (idx := 262) (tx := "grant") (by rw [tb_y193]; exact List.mem_of_getElem? (i := 56) rfl) (by decide) (by rw [tb_b193]; decide +kernel) ?_
  refine x_cP (t := 6) (mj := 170) (n := 2) (rc := 12) (ml := 4) (nr := 0) (np := 15) (as := [x_r 75, x_b (22 + 1)]) (rest := []) (lo1 := [x_r 75, x_b (22 + 1), 147573952589676412928, 147573952589676412928]) (by decide +kernel) (by decide) (by decide +kernel) (x_rb_of (by decide +kernel)) rfl rfl (x_wr (by decide) (x_wB (by decide) x_wn)) x_wn (by decide) rfl (c170_75_S0 hJ  (by decide) hT) (fun v6 l7 q8 => ?_)
  obtain ⟨b11, c9, c10⟩ := q8
  have b12 := jB (e := 7) 0 hJ rg_75_7_0_1 (by first | decide | omega) (by first | decide | omega)
  have b13 : iv_tl 22 = 5 := by decide
  refine x_ifz (k := 1) (tg := 30) (np := 18) (by decide +kernel) (by decide) l7 (fun q14 => ?_) (fun q15 => ?_)
  · have q14 : v6 ≠ 2147483648 := q14
    have b16 := c9 (by first | decide | omega)
    refine x_aload (np := 31) (x := 0) (by decide +kernel) rfl (x_nc_le (by decide)) ?_
    have q17 : h 75 1 = 76 := by have z := jB (e := 1) 0 hJ rg_75_1_0_1 (by decide) (by decide); omega
    refine x_getR (np := 34) (x := 705) (f := 1) (q := 76) (by decide +kernel) (by decide) (by decide +kernel) q17 ?_
    refine x_iload (np := 35) (x := 2) (by decide +kernel) rfl (by first | decide | omega) ?_
    refine x_aload (np := 36) (x := 0) (by decide +kernel) rfl (x_nc_le (by decide)) ?_
    refine x_ldcwB (i := 22) (idx := 262) (tx := "grant") (by rw [tb_y193]; exact List.mem_of_getElem? (i := 56) rfl) (by decide) (by rw [tb_b193]; decide +kernel) ?_
    refine x_cP (t := 6) (mj := 170) (n := 2) (rc := 12) (ml := 4) (nr := 2) (np := 42) (as := [x_r 75, x_b (22 + 1)]) (rest := [iv_c (2147484770 + 3 * u3), x_r 76]) (lo1 := [x_r 75, x_b (22 + 1), 147573952589676412928, 147573952589676412928]) (by decide +kernel) (by decide) (by decide +kernel) (x_rb_of (by decide +kernel)) rfl rfl (x_wr (by decide) (x_wB (by decide) x_wn)) (x_wi (by first | decide | omega) (x_wr (by decide) x_wn)) (by decide) rfl (c170_75_S0 hJ  (by decide) hT) (fun v18 l19 q20 => ?_)
    obtain ⟨b23, c21, c22⟩ := q20
    have b24 : iv_tl 22 = 5 := by decide
    refine x_ifz (k := 0) (tg := 49) (np := 45) (by decide +kernel) (by decide) l19 (fun q25 => ?_) (fun q26 => ?_)
    · have q25 : v18 = 2147483648 := q25
      refine x_const (np := 50) (x := 9223372039002259456) (a := 2147483648) (by decide +kernel) (by decide) (by decide) ?_
      refine x_ast (np := 51) (x := 0) (kd := 1) (n := 1952) (i := (1122 + 3 * u3)) (by decide +kernel) (Or.inl rfl) (by decide +kernel) (by first | decide | omega) (by first | decide | omega) (by decide) (by decide) (fun z => absurd z (by decide)) ?_
      have j28 := jU (e := (1122 + 3 * u3)) (v := 2147483648) u3 hJ rg_76_1122_3_10 (by first | decide | omega) (by first | decide | omega) (by first | decide | omega)
      have f30 := jF (e := (1122 + 3 * u3)) (v := 2147483648) u3 hF rg_76_1122_3_10 (by first | decide | omega) (by first | decide | omega) (by decide)
      generalize e29 : x_up h 76 (1122 + 3 * u3) 2147483648 = h27 at j28 f30 ⊢
      refine x_aload (np := 52) (x := 0) (by decide +kernel) rfl (x_nc_le (by decide)) ?_
      have q31 : h27 75 1 = 76 := by have z := jB (e := 1) 0 j28 rg_75_1_0_1 (by decide) (by decide); omega
      refine x_getR (np := 55) (x := 705) (f := 1) (q := 76) (by decide +kernel) (by decide) (by decide +kernel) q31 ?_
      refine x_iload (np := 56) (x := 2) (by decide +kernel) rfl (by first | decide | omega) ?_
      refine x_const (np := 57) (x := 9223372043297226753) (a := 2147483649) (by decide +kernel) (by decide) (by decide) ?_
      refine x_iadd (np := 58) (x := 0) (v := (2147484771 + 3 * u3)) (by decide +kernel) (by first | decide | omega) (by decide) (by first | decide | omega) (by first | decide | omega) ?_
      refine x_aload (np := 59) (x := 0) (by decide +kernel) rfl (x_nc_le (by decide)) ?_
      have q32 : h27 75 13 = h 75 13 := by rw [← e29]; exact x_up_k (by decide)
      refine x_getC (np := 62) (x := 717) (f := 13) (q := (h 75 13)) (by decide +kernel) (by decide) (by decide +kernel) q32 (fun l33 => ?_)
      refine x_ast (np := 63) (x := 0) (kd := 1) (n := 1952) (i := (1123 + 3 * u3)) (by decide +kernel) (Or.inl rfl) (by decide +kernel) (by first | decide | omega) (by first | decide | omega) (by decide) l33 (fun z => absurd z (by decide)) ?_
      have j35 := jU (e := (1123 + 3 * u3)) (v := (h 75 13)) u3 j28 rg_76_1123_3_10 (by first | decide | omega) (by first | decide | omega) (by first | decide | omega)
      have f37 := jF (e := (1123 + 3 * u3)) (v := (h 75 13)) u3 f30 rg_76_1123_3_10 (by first | decide | omega) (by first | decide | omega) (by decide)
      generalize e36 : x_up h27 76 (1123 + 3 * u3) (h 75 13) = h34 at j35 f37 ⊢
      refine x_aload (np := 64) (x := 0) (by decide +kernel) rfl (x_nc_le (by decide)) ?_
      refine x_const (np := 65) (x := 9223372039002259456) (a := 2147483648) (by decide +kernel) (by decide) (by decide) ?_
      refine x_putI (np := 68) (x := 714) (f := 10) (by decide +kernel) (by decide +kernel) (by decide) (Or.inl (by decide)) ?_
      have j39 := jU (e := 10) (v := 2147483648) 0 j35 rg_75_10_0_1 (by first | decide | omega) (by first | decide | omega) (by first | decide | omega)
      have f41 := jF (e := 10) (v := 2147483648) 0 f37 rg_75_10_0_1 (by first | decide | omega) (by first | decide | omega) (by decide)
      generalize e40 : x_up h34 75 10 2147483648 = h38 at j39 f41 ⊢
      refine x_aload (np := 69) (x := 0) (by decide +kernel) rfl (x_nc_le (by decide)) ?_
      refine x_ldcwB (i := 23) (idx := 266) (tx := "if") (by rw [tb_y193]; exact List.mem_of_getElem? (i := 58) rfl) (by decide) (by rw [tb_b193]; decide +kernel) ?_
      have m47 : Tq tB tN h27 := by rw [← e29]; exact Tq.oth hT (by decide) (fun z => absurd z.1 (by decide))
      have m46 : Tq tB tN h34 := by rw [← e36]; exact Tq.oth m47 (by decide) (fun z => absurd z.1 (by decide))
      have m45 : Tq tB tN h38 := by rw [← e40]; exact Tq.oth m46 (by decide) (by decide)
      refine x_cI (t := 6) (mj := 171) (n := 2) (rc := 12) (ml := 2) (nr := 0) (np := 75) (as := [x_r 75, x_b (23 + 1)]) (rest := []) (lo1 := [x_r 75, x_b (23 + 1)]) (by decide +kernel) (by decide) (by decide +kernel) (x_rb_of (by decide +kernel)) rfl rfl (x_wr (by decide) (x_wB (by decide) x_wn)) x_wn (by decide) rfl (c171_75_S0 j39  (by decide) m45) (fun v42 h48 l43 q44 => ?_)
      obtain ⟨j49, f50, b51, c52, c53, c54⟩ := q44
      have f55 := Fr.trans f41 f50 (by decide)
      have q56 : h38 75 7 = h34 75 7 := by rw [← e40]; exact x_up_i (by first | decide | omega)
      have q57 : h34 75 7 = h27 75 7 := by rw [← e36]; exact x_up_k (by decide)
      have q58 : h27 75 7 = h 75 7 := by rw [← e29]; exact x_up_k (by decide)
      have b59 := jB (e := 7) 0 j49 rg_75_7_0_1 (by first | decide | omega) (by first | decide | omega)
      have q60 : h38 75 7 = h34 75 7 := by rw [← e40]; exact x_up_i (by first | decide | omega)
      have q61 : h34 75 7 = h27 75 7 := by rw [← e36]; exact x_up_k (by decide)
      have q62 : h27 75 7 = h 75 7 := by rw [← e29]; exact x_up_k (by decide)
      refine x_ifz (k := 0) (tg := 87) (np := 78) (by decide +kernel) (by decide) l43 (fun q63 => ?_) (fun q64 => ?_)
      · have q63 : v42 = 2147483648 := q63
        refine x_aload (np := 88) (x := 0) (by decide +kernel) rfl (x_nc_le (by decide)) ?_
        have q65 : h48 75 1 = 76 := by have z := jB (e := 1) 0 j49 rg_75_1_0_1 (by decide) (by decide); omega
        refine x_getR (np := 91) (x := 705) (f := 1) (q := 76) (by decide +kernel) (by decide) (by decide +kernel) q65 ?_
        refine x_iload (np := 92) (x := 2) (by decide +kernel) rfl (by first | decide | omega) ?_
        refine x_const (np := 93) (x := 9223372047592194050) (a := 2147483650) (by decide +kernel) (by decide) (by decide) ?_
        refine x_iadd (np := 94) (x := 0) (v := (2147484772 + 3 * u3)) (by decide +kernel) (by first | decide | omega) (by decide) (by first | decide | omega) (by first | decide | omega) ?_
        refine x_aload (np := 95) (x := 0) (by decide +kernel) rfl (x_nc_le (by decide)) ?_
        have q66 : h48 75 13 = h38 75 13 := jK 0 f50 rg_75_13_0_1 (by first | decide | omega) (by first | decide | omega) (by decide)
        have q67 : h38 75 13 = h34 75 13 := by rw [← e40]; exact x_up_i (by first | decide | omega)
        have q68 : h34 75 13 = h27 75 13 := by rw [← e36]; exact x_up_k (by decide)
        have q69 : h27 75 13 = h 75 13 := by rw [← e29]; exact x_up_k (by decide)
        refine x_getC (np := 98) (x := 717) (f := 13) (q := (h 75 13)) (by decide +kernel) (by decide) (by decide +kernel) (((q66.trans q67).trans q68).trans q69) (fun l70 => ?_)
        refine x_ast (np := 99) (x := 0) (kd := 1) (n := 1952) (i := (1124 + 3 * u3)) (by decide +kernel) (Or.inl rfl) (by decide +kernel) (by first | decide | omega) (by first | decide | omega) (by decide) l33 (fun z => absurd z (by decide)) ?_
        have j72 := jU (e := (1124 + 3 * u3)) (v := (h 75 13)) u3 j49 rg_76_1124_3_10 (by first | decide | omega) (by first | decide | omega) (by first | decide | omega)
        have f74 := jF (e := (1124 + 3 * u3)) (v := (h 75 13)) u3 f55 rg_76_1124_3_10 (by first | decide | omega) (by first | decide | omega) (by decide)
        generalize e73 : x_up h48 76 (1124 + 3 * u3) (h 75 13) = h71 at j72 f74 ⊢
        refine x_const (np := 100) (x := 9223372043297226753) (a := 2147483649) (by decide +kernel) (by decide) (by decide) ?_
        have q75 : h71 75 13 = h48 75 13 := by rw [← e73]; exact x_up_k (by decide)
        have q76 : h48 75 13 = h38 75 13 := jK 0 f50 rg_75_13_0_1 (by first | decide | omega) (by first | decide | omega) (by decide)
        have q77 : h38 75 13 = h34 75 13 := by rw [← e40]; exact x_up_i (by first | decide | omega)
        have q78 : h34 75 13 = h27 75 13 := by rw [← e36]; exact x_up_k (by decide)
        have q79 : h27 75 13 = h 75 13 := by rw [← e29]; exact x_up_k (by decide)
        have q80 : h71 75 7 = h48 75 7 := by rw [← e73]; exact x_up_k (by decide)
        have q81 : h71 75 13 = h48 75 13 := by rw [← e73]; exact x_up_k (by decide)
        have q82 : h48 75 13 = h38 75 13 := jK 0 f50 rg_75_13_0_1 (by first | decide | omega) (by first | decide | omega) (by decide)
        have q83 : h38 75 13 = h34 75 13 := by rw [← e40]; exact x_up_i (by first | decide | omega)
        have q84 : h34 75 13 = h27 75 13 := by rw [← e36]; exact x_up_k (by decide)
        have q85 : h27 75 13 = h 75 13 := by rw [← e29]; exact x_up_k (by decide)
        have k90 : Kq h h27 (h 75 13 - 2147483648) := by rw [← e29]; exact Kq.up Kq.refl (by first | decide | omega)
        have k89 : Kq h h34 (h 75 13 - 2147483648) := by rw [← e36]; exact Kq.up k90 (by first | decide | omega)
        have k88 : Kq h h38 (h 75 13 - 2147483648) := by rw [← e40]; exact Kq.oth k89 (by decide)
        have k87 : Kq h h48 (h 75 13 - 2147483648) := Kq.fr k88 f50 (by first | decide | omega) (by decide)
        have k86 : Kq h h71 (h 75 13 - 2147483648) := by rw [← e73]; exact Kq.up k87 (by first | decide | omega)
        have k95 : Kl h h27 u3 := by rw [← e29]; exact Kl.up Kl.refl (by first | decide | omega)
        have k94 : Kl h h34 u3 := by rw [← e36]; exact Kl.up k95 (by first | decide | omega)
        have k93 : Kl h h38 u3 := by rw [← e40]; exact Kl.oth k94 (by decide)
        have k92 : Kl h h48 u3 := Kl.fr k93 f50 (by first | decide | omega) (by decide)
        have k91 : Kl h h71 u3 := by rw [← e73]; exact Kl.up k92 (by first | decide | omega)
        have e97 : a1 - 2147483648 = u3 := by first | decide | omega
        have k96 : Kl h h71 (a1 - 2147483648) := by rw [e97]; exact k91
        have q98 : h71 76 (1123 + 3 * u3) = h48 76 (1123 + 3 * u3) := by rw [← e73]; exact x_up_i (by first | decide | omega)
        have q99 : h48 76 (1123 + 3 * u3) = h38 76 (1123 + 3 * u3) := jK u3 f50 rg_76_1123_3_10 (by first | decide | omega) (by first | decide | omega) (by decide)
        have q100 : h38 76 (1123 + 3 * u3) = h34 76 (1123 + 3 * u3) := by rw [← e40]; exact x_up_k (by decide)
        have q101 : h34 76 (1123 + 3 * u3) = (h 75 13) := by rw [← e36]; exact x_up_at
        have q102 : h71 76 (1124 + 3 * u3) = (h 75 13) := by rw [← e73]; exact x_up_at
        have g103 : Lg h71 u3 := Or.inl (show h71 76 (1123 + 3 * u3) = h71 76 (1124 + 3 * u3) by first | decide | omega)
        have g104 : Lg h71 (a1 - 2147483648) ∧ h71 76 (1124 + 3 * (a1 - 2147483648)) = h71 75 13 ∧ h 75 13 ≤ h71 75 13 := by
          rw [e97]
          exact ⟨g103, by first | decide | omega, by first | decide | omega⟩
        have y105 := Is.yes c10 (by first | decide | omega)
        have q106 : h38 75 7 = h34 75 7 := by rw [← e40]; exact x_up_i (by first | decide | omega)
        have q107 : h34 75 7 = h27 75 7 := by rw [← e36]; exact x_up_k (by decide)
        have q108 : h27 75 7 = h 75 7 := by rw [← e29]; exact x_up_k (by decide)
        obtain ⟨w109, e110⟩ := Tk.no c54 (by first | decide | omega)
        have q111 : h71 75 7 = h48 75 7 := by rw [← e73]; exact x_up_k (by decide)
        refine x_retI (np := 101) (x := 0) (by decide +kernel) (by decide) (Or.inr ⟨by decide +kernel, by first | decide | omega, by first | decide | omega⟩) ⟨_, rfl, (by decide), ?_⟩
        exact ⟨j72, f74, (by first | decide | omega), (fun z => by first | decide | omega), k86, k96, (fun _ => g104), (gL_end (i := 22) (by decide) (Wd.of' (by decide) y105 hp0) rfl (congrArg (sk tB tN) ((show h38 75 7 = h 75 7 by first | decide | omega).trans y105.1)) w109 rfl (by first | decide | omega) (Eq.trans (Eq.symm e110) (congrArg (sk tB tN) (show h48 75 7 = h71 75 7 by first | decide | omega))))⟩
      have q64 : ¬ (v42 = 2147483648) := q64
      have b112 := c53 (by first | decide | omega)
      refine x_aload (np := 79) (x := 0) (by decide +kernel) rfl (x_nc_le (by decide)) ?_
      have q113 : h48 75 10 = h38 75 10 := jK 0 f50 rg_75_10_0_1 (by first | decide | omega) (by first | decide | omega) (by decide)
      have q114 : h38 75 10 = 2147483648 := by rw [← e40]; exact x_up_at
      have q115 : h48 75 13 = h38 75 13 := jK 0 f50 rg_75_13_0_1 (by first | decide | omega) (by first | decide | omega) (by decide)
      have q116 : h38 75 13 = h34 75 13 := by rw [← e40]; exact x_up_i (by first | decide | omega)
      have q117 : h34 75 13 = h27 75 13 := by rw [← e36]; exact x_up_k (by decide)
      have q118 : h27 75 13 = h 75 13 := by rw [← e29]; exact x_up_k (by decide)
      have q119 : h48 75 10 = h38 75 10 := jK 0 f50 rg_75_10_0_1 (by first | decide | omega) (by first | decide | omega) (by decide)
      have q120 : h38 75 10 = 2147483648 := by rw [← e40]; exact x_up_at
      have m124 := Tq.fr m45 f50 (by decide) (by decide)
      refine x_cI (t := 6) (mj := 192) (n := 1) (rc := 12) (ml := 1) (nr := 0) (np := 82) (as := [x_r 75]) (rest := []) (lo1 := [x_r 75]) (by decide +kernel) (by decide) (by decide +kernel) (x_rb_of (by decide +kernel)) rfl rfl (x_wr (by decide) x_wn) x_wn (by decide) rfl (c192_75_D0 j49  (by first | decide | omega) (by first | decide | omega) m124) (fun v121 h125 l122 q123 => ?_)
      obtain ⟨j126, f127, b128, c129, c130, c131, c132, c133, c134, c135⟩ := q123
      have f136 := Fr.trans f55 f127 (by decide)
      have q137 : h48 75 13 = h38 75 13 := jK 0 f50 rg_75_13_0_1 (by first | decide | omega) (by first | decide | omega) (by decide)
      have q138 : h38 75 13 = h34 75 13 := by rw [← e40]; exact x_up_i (by first | decide | omega)
      have q139 : h34 75 13 = h27 75 13 := by rw [← e36]; exact x_up_k (by decide)
      have q140 : h27 75 13 = h 75 13 := by rw [← e29]; exact x_up_k (by decide)
      have b141 := jB (e := 13) 0 j126 rg_75_13_0_1 (by first | decide | omega) (by first | decide | omega)
      have b142 := jB (e := 7) 0 j126 rg_75_7_0_1 (by first | decide | omega) (by first | decide | omega)
      have q143 : h48 75 10 = h38 75 10 := jK 0 f50 rg_75_10_0_1 (by first | decide | omega) (by first | decide | omega) (by decide)
      have q144 : h38 75 10 = 2147483648 := by rw [← e40]; exact x_up_at
      have b145 := jB (e := 10) 0 j126 rg_75_10_0_1 (by first | decide | omega) (by first | decide | omega)
      have q146 : h48 75 13 = h38 75 13 := jK 0 f50 rg_75_13_0_1 (by first | decide | omega) (by first | decide | omega) (by decide)
      have q147 : h38 75 13 = h34 75 13 := by rw [← e40]; exact x_up_i (by first | decide | omega)
      have q148 : h34 75 13 = h27 75 13 := by rw [← e36]; exact x_up_k (by decide)
      have q149 : h27 75 13 = h 75 13 := by rw [← e29]; exact x_up_k (by decide)
      refine x_ifz (k := 1) (tg := 87) (np := 85) (by decide +kernel) (by decide) l122 (fun q150 => ?_) (fun q151 => ?_)
      · have q150 : v121 ≠ 2147483648 := q150
        have b152 := c129 (by first | decide | omega)
        have b153 := c130 (by first | decide | omega)
        have b154 := c131 (by first | decide | omega)
        have b155 := c132 (by first | decide | omega)
        have s156 := c134 (by first | decide | omega)
        have q157 : h48 75 13 = h38 75 13 := jK 0 f50 rg_75_13_0_1 (by first | decide | omega) (by first | decide | omega) (by decide)
        have q158 : h38 75 13 = h34 75 13 := by rw [← e40]; exact x_up_i (by first | decide | omega)
        have q159 : h34 75 13 = h27 75 13 := by rw [← e36]; exact x_up_k (by decide)
        have q160 : h27 75 13 = h 75 13 := by rw [← e29]; exact x_up_k (by decide)
        refine x_aload (np := 88) (x := 0) (by decide +kernel) rfl (x_nc_le (by decide)) ?_
        have q161 : h125 75 1 = 76 := by have z := jB (e := 1) 0 j126 rg_75_1_0_1 (by decide) (by decide); omega
        refine x_getR (np := 91) (x := 705) (f := 1) (q := 76) (by decide +kernel) (by decide) (by decide +kernel) q161 ?_
        refine x_iload (np := 92) (x := 2) (by decide +kernel) rfl (by first | decide | omega) ?_
        refine x_const (np := 93) (x := 9223372047592194050) (a := 2147483650) (by decide +kernel) (by decide) (by decide) ?_
        refine x_iadd (np := 94) (x := 0) (v := (2147484772 + 3 * u3)) (by decide +kernel) (by first | decide | omega) (by decide) (by first | decide | omega) (by first | decide | omega) ?_
        refine x_aload (np := 95) (x := 0) (by decide +kernel) rfl (x_nc_le (by decide)) ?_
        refine x_getC (np := 98) (x := 717) (f := 13) (q := (h125 75 13)) (by decide +kernel) (by decide) (by decide +kernel) rfl (fun l162 => ?_)
        refine x_ast (np := 99) (x := 0) (kd := 1) (n := 1952) (i := (1124 + 3 * u3)) (by decide +kernel) (Or.inl rfl) (by decide +kernel) (by first | decide | omega) (by first | decide | omega) (by decide) l162 (fun z => absurd z (by decide)) ?_
        have j164 := jU (e := (1124 + 3 * u3)) (v := (h125 75 13)) u3 j126 rg_76_1124_3_10 (by first | decide | omega) (by first | decide | omega) (by first | decide | omega)
        have f166 := jF (e := (1124 + 3 * u3)) (v := (h125 75 13)) u3 f136 rg_76_1124_3_10 (by first | decide | omega) (by first | decide | omega) (by decide)
        generalize e165 : x_up h125 76 (1124 + 3 * u3) (h125 75 13) = h163 at j164 f166 ⊢
        refine x_const (np := 100) (x := 9223372043297226753) (a := 2147483649) (by decide +kernel) (by decide) (by decide) ?_
        have q167 : h163 75 13 = h125 75 13 := by rw [← e165]; exact x_up_k (by decide)
        have q168 : h163 75 7 = h125 75 7 := by rw [← e165]; exact x_up_k (by decide)
        have q169 : h163 75 13 = h125 75 13 := by rw [← e165]; exact x_up_k (by decide)
        have k175 : Kq h h27 (h 75 13 - 2147483648) := by rw [← e29]; exact Kq.up Kq.refl (by first | decide | omega)
        have k174 : Kq h h34 (h 75 13 - 2147483648) := by rw [← e36]; exact Kq.up k175 (by first | decide | omega)
        have k173 : Kq h h38 (h 75 13 - 2147483648) := by rw [← e40]; exact Kq.oth k174 (by decide)
        have k172 : Kq h h48 (h 75 13 - 2147483648) := Kq.fr k173 f50 (by first | decide | omega) (by decide)
        have q176 : h48 75 13 = h38 75 13 := jK 0 f50 rg_75_13_0_1 (by first | decide | omega) (by first | decide | omega) (by decide)
        have q177 : h38 75 13 = h34 75 13 := by rw [← e40]; exact x_up_i (by first | decide | omega)
        have q178 : h34 75 13 = h27 75 13 := by rw [← e36]; exact x_up_k (by decide)
        have q179 : h27 75 13 = h 75 13 := by rw [← e29]; exact x_up_k (by decide)
        have k171 : Kq h h125 (h 75 13 - 2147483648) := Kq.kp k172 c133 (by first | decide | omega)
        have k170 : Kq h h163 (h 75 13 - 2147483648) := by rw [← e165]; exact Kq.up k171 (by first | decide | omega)
        have k185 : Kl h h27 u3 := by rw [← e29]; exact Kl.up Kl.refl (by first | decide | omega)
        have k184 : Kl h h34 u3 := by rw [← e36]; exact Kl.up k185 (by first | decide | omega)
        have k183 : Kl h h38 u3 := by rw [← e40]; exact Kl.oth k184 (by decide)
        have k182 : Kl h h48 u3 := Kl.fr k183 f50 (by first | decide | omega) (by decide)
        have k181 : Kl h h125 u3 := Kl.kp k182 c133 (by first | decide | omega)
        have k180 : Kl h h163 u3 := by rw [← e165]; exact Kl.up k181 (by first | decide | omega)
        have e187 : a1 - 2147483648 = u3 := by first | decide | omega
        have k186 : Kl h h163 (a1 - 2147483648) := by rw [e187]; exact k180
        have q188 : h163 76 (1123 + 3 * u3) = h125 76 (1123 + 3 * u3) := by rw [← e165]; exact x_up_i (by first | decide | omega)
        have b189 := jB (e := (1123 + 3 * u3)) u3 j126 rg_76_1123_3_10 (by first | decide | omega) (by first | decide | omega)
        have q190 : h163 76 (1124 + 3 * u3) = (h125 75 13) := by rw [← e165]; exact x_up_at
        have k192 : Kq h125 h163 (h125 75 13 - 2147483648) := by rw [← e165]; exact Kq.up Kq.refl (by first | decide | omega)
        have q193 := c133.2 (1123 + 3 * u3) (by first | decide | omega) (by first | decide | omega)
        have q194 : h48 76 (1123 + 3 * u3) = h38 76 (1123 + 3 * u3) := jK u3 f50 rg_76_1123_3_10 (by first | decide | omega) (by first | decide | omega) (by decide)
        have q195 : h38 76 (1123 + 3 * u3) = h34 76 (1123 + 3 * u3) := by rw [← e40]; exact x_up_k (by decide)
        have q196 : h34 76 (1123 + 3 * u3) = (h 75 13) := by rw [← e36]; exact x_up_at
        have g191 : Lg h163 u3 := Or.inr (Seg.cast (a' := h163 76 (1123 + 3 * u3) - 2147483648) (b' := h163 76 (1124 + 3 * u3) - 2147483648) (Seg.kq s156 k192) (by rw [show h163 76 (1123 + 3 * u3) = h48 75 13 by first | decide | omega]) (by rw [show h163 76 (1124 + 3 * u3) = h125 75 13 by first | decide | omega]))
        have g197 : Lg h163 (a1 - 2147483648) ∧ h163 76 (1124 + 3 * (a1 - 2147483648)) = h163 75 13 ∧ h 75 13 ≤ h163 75 13 := by
          rw [e187]
          exact ⟨g191, by first | decide | omega, by first | decide | omega⟩
        have y198 := Is.yes c10 (by first | decide | omega)
        have q199 : h38 75 7 = h34 75 7 := by rw [← e40]; exact x_up_i (by first | decide | omega)
        have q200 : h34 75 7 = h27 75 7 := by rw [← e36]; exact x_up_k (by decide)
        have q201 : h27 75 7 = h 75 7 := by rw [← e29]; exact x_up_k (by decide)
        obtain ⟨w202, e203⟩ := Tk.yes c54 (by first | decide | omega)
        have q204 : h163 75 7 = h125 75 7 := by rw [← e165]; exact x_up_k (by decide)
        refine x_retI (np := 101) (x := 0) (by decide +kernel) (by decide) (Or.inr ⟨by decide +kernel, by first | decide | omega, by first | decide | omega⟩) ⟨_, rfl, (by decide), ?_⟩
        exact ⟨j164, f166, (by first | decide | omega), (fun z => by first | decide | omega), k170, k186, (fun _ => g197), (gL_if (i := 22) (by decide) (Wd.of' (by decide) y198 hp0) rfl (congrArg (sk tB tN) ((show h38 75 7 = h 75 7 by first | decide | omega).trans y198.1)) w202 rfl e203 c135 rfl (by first | decide | omega) (fun z => (congrArg (sk tB tN) (show h125 75 7 = h163 75 7 by first | decide | omega))))⟩
      have q151 : ¬ (v121 ≠ 2147483648) := q151
      refine x_const (np := 86) (x := 9223372039002259456) (a := 2147483648) (by decide +kernel) (by decide) (by decide) ?_
      have k209 : Kq h h27 (h 75 13 - 2147483648) := by rw [← e29]; exact Kq.up Kq.refl (by first | decide | omega)
      have k208 : Kq h h34 (h 75 13 - 2147483648) := by rw [← e36]; exact Kq.up k209 (by first | decide | omega)
      have k207 : Kq h h38 (h 75 13 - 2147483648) := by rw [← e40]; exact Kq.oth k208 (by decide)
      have k206 : Kq h h48 (h 75 13 - 2147483648) := Kq.fr k207 f50 (by first | decide | omega) (by decide)
      have q210 : h48 75 13 = h38 75 13 := jK 0 f50 rg_75_13_0_1 (by first | decide | omega) (by first | decide | omega) (by decide)
      have q211 : h38 75 13 = h34 75 13 := by rw [← e40]; exact x_up_i (by first | decide | omega)
      have q212 : h34 75 13 = h27 75 13 := by rw [← e36]; exact x_up_k (by decide)
      have q213 : h27 75 13 = h 75 13 := by rw [← e29]; exact x_up_k (by decide)
      have k205 : Kq h h125 (h 75 13 - 2147483648) := Kq.kp k206 c133 (by first | decide | omega)
      have k218 : Kl h h27 u3 := by rw [← e29]; exact Kl.up Kl.refl (by first | decide | omega)
      have k217 : Kl h h34 u3 := by rw [← e36]; exact Kl.up k218 (by first | decide | omega)
      have k216 : Kl h h38 u3 := by rw [← e40]; exact Kl.oth k217 (by decide)
      have k215 : Kl h h48 u3 := Kl.fr k216 f50 (by first | decide | omega) (by decide)
      have k214 : Kl h h125 u3 := Kl.kp k215 c133 (by first | decide | omega)
      have e220 : a1 - 2147483648 = u3 := by first | decide | omega
      have k219 : Kl h h125 (a1 - 2147483648) := by rw [e220]; exact k214
      have y221 := Is.yes c10 (by first | decide | omega)
      have q222 : h38 75 7 = h34 75 7 := by rw [← e40]; exact x_up_i (by first | decide | omega)
      have q223 : h34 75 7 = h27 75 7 := by rw [← e36]; exact x_up_k (by decide)
      have q224 : h27 75 7 = h 75 7 := by rw [← e29]; exact x_up_k (by decide)
      obtain ⟨w225, e226⟩ := Tk.yes c54 (by first | decide | omega)
      refine x_retI (np := 87) (x := 0) (by decide +kernel) (by decide) (Or.inr ⟨by decide +kernel, by first | decide | omega, by first | decide | omega⟩) ⟨_, rfl, (by decide), ?_⟩
      exact ⟨j126, f136, (by first | decide | omega), (fun z => by first | decide | omega), k205, k219, (fun z => absurd z (by first | decide | omega)), (gL_if (i := 22) (by decide) (Wd.of' (by decide) y221 hp0) rfl (congrArg (sk tB tN) ((show h38 75 7 = h 75 7 by first | decide | omega).trans y221.1)) w225 rfl e226 c135 rfl (by first | decide | omega) (fun z => absurd z (by first | decide | omega)))⟩
    have q26 : ¬ (v18 = 2147483648) := q26
    have b227 := c21 (by first | decide | omega)
    refine x_const (np := 46) (x := 9223372043297226753) (a := 2147483649) (by decide +kernel) (by decide) (by decide) ?_
    refine x_goto (np := 49) (x := 50) (by decide +kernel) ?_
    refine x_ast (np := 51) (x := 0) (kd := 1) (n := 1952) (i := (1122 + 3 * u3)) (by decide +kernel) (Or.inl rfl) (by decide +kernel) (by first | decide | omega) (by first | decide | omega) (by decide) (by decide) (fun z => absurd z (by decide)) ?_
    have j229 := jU (e := (1122 + 3 * u3)) (v := 2147483649) u3 hJ rg_76_1122_3_10 (by first | decide | omega) (by first | decide | omega) (by first | decide | omega)
    have f231 := jF (e := (1122 + 3 * u3)) (v := 2147483649) u3 hF rg_76_1122_3_10 (by first | decide | omega) (by first | decide | omega) (by decide)
    generalize e230 : x_up h 76 (1122 + 3 * u3) 2147483649 = h228 at j229 f231 ⊢
    refine x_aload (np := 52) (x := 0) (by decide +kernel) rfl (x_nc_le (by decide)) ?_
    have q232 : h228 75 1 = 76 := by have z := jB (e := 1) 0 j229 rg_75_1_0_1 (by decide) (by decide); omega
    refine x_getR (np := 55) (x := 705) (f := 1) (q := 76) (by decide +kernel) (by decide) (by decide +kernel) q232 ?_
    refine x_iload (np := 56) (x := 2) (by decide +kernel) rfl (by first | decide | omega) ?_
    refine x_const (np := 57) (x := 9223372043297226753) (a := 2147483649) (by decide +kernel) (by decide) (by decide) ?_
    refine x_iadd (np := 58) (x := 0) (v := (2147484771 + 3 * u3)) (by decide +kernel) (by first | decide | omega) (by decide) (by first | decide | omega) (by first | decide | omega) ?_
    refine x_aload (np := 59) (x := 0) (by decide +kernel) rfl (x_nc_le (by decide)) ?_
    have q233 : h228 75 13 = h 75 13 := by rw [← e230]; exact x_up_k (by decide)
    refine x_getC (np := 62) (x := 717) (f := 13) (q := (h 75 13)) (by decide +kernel) (by decide) (by decide +kernel) q233 (fun l234 => ?_)
    refine x_ast (np := 63) (x := 0) (kd := 1) (n := 1952) (i := (1123 + 3 * u3)) (by decide +kernel) (Or.inl rfl) (by decide +kernel) (by first | decide | omega) (by first | decide | omega) (by decide) l234 (fun z => absurd z (by decide)) ?_
    have j236 := jU (e := (1123 + 3 * u3)) (v := (h 75 13)) u3 j229 rg_76_1123_3_10 (by first | decide | omega) (by first | decide | omega) (by first | decide | omega)
    have f238 := jF (e := (1123 + 3 * u3)) (v := (h 75 13)) u3 f231 rg_76_1123_3_10 (by first | decide | omega) (by first | decide | omega) (by decide)
    generalize e237 : x_up h228 76 (1123 + 3 * u3) (h 75 13) = h235 at j236 f238 ⊢
    refine x_aload (np := 64) (x := 0) (by decide +kernel) rfl (x_nc_le (by decide)) ?_
    refine x_const (np := 65) (x := 9223372039002259456) (a := 2147483648) (by decide +kernel) (by decide) (by decide) ?_
    refine x_putI (np := 68) (x := 714) (f := 10) (by decide +kernel) (by decide +kernel) (by decide) (Or.inl (by decide)) ?_
    have j240 := jU (e := 10) (v := 2147483648) 0 j236 rg_75_10_0_1 (by first | decide | omega) (by first | decide | omega) (by first | decide | omega)
    have f242 := jF (e := 10) (v := 2147483648) 0 f238 rg_75_10_0_1 (by first | decide | omega) (by first | decide | omega) (by decide)
    generalize e241 : x_up h235 75 10 2147483648 = h239 at j240 f242 ⊢
    refine x_aload (np := 69) (x := 0) (by decide +kernel) rfl (x_nc_le (by decide)) ?_
    refine x_ldcwB (i := 23) (idx := 266) (tx := "if") (by rw [tb_y193]; exact List.mem_of_getElem? (i := 58) rfl) (by decide) (by rw [tb_b193]; decide +kernel) ?_
    have m248 : Tq tB tN h228 := by rw [← e230]; exact Tq.oth hT (by decide) (fun z => absurd z.1 (by decide))
    have m247 : Tq tB tN h235 := by rw [← e237]; exact Tq.oth m248 (by decide) (fun z => absurd z.1 (by decide))
    have m246 : Tq tB tN h239 := by rw [← e241]; exact Tq.oth m247 (by decide) (by decide)
    refine x_cI (t := 6) (mj := 171) (n := 2) (rc := 12) (ml := 2) (nr := 0) (np := 75) (as := [x_r 75, x_b (23 + 1)]) (rest := []) (lo1 := [x_r 75, x_b (23 + 1)]) (by decide +kernel) (by decide) (by decide +kernel) (x_rb_of (by decide +kernel)) rfl rfl (x_wr (by decide) (x_wB (by decide) x_wn)) x_wn (by decide) rfl (c171_75_S0 j240  (by decide) m246) (fun v243 h249 l244 q245 => ?_)
    obtain ⟨j250, f251, b252, c253, c254, c255⟩ := q245
    have f256 := Fr.trans f242 f251 (by decide)
    have q257 : h239 75 7 = h235 75 7 := by rw [← e241]; exact x_up_i (by first | decide | omega)
    have q258 : h235 75 7 = h228 75 7 := by rw [← e237]; exact x_up_k (by decide)
    have q259 : h228 75 7 = h 75 7 := by rw [← e230]; exact x_up_k (by decide)
    have b260 := jB (e := 7) 0 j250 rg_75_7_0_1 (by first | decide | omega) (by first | decide | omega)
    have q261 : h239 75 7 = h235 75 7 := by rw [← e241]; exact x_up_i (by first | decide | omega)
    have q262 : h235 75 7 = h228 75 7 := by rw [← e237]; exact x_up_k (by decide)
    have q263 : h228 75 7 = h 75 7 := by rw [← e230]; exact x_up_k (by decide)
    refine x_ifz (k := 0) (tg := 87) (np := 78) (by decide +kernel) (by decide) l244 (fun q264 => ?_) (fun q265 => ?_)
    · have q264 : v243 = 2147483648 := q264
      refine x_aload (np := 88) (x := 0) (by decide +kernel) rfl (x_nc_le (by decide)) ?_
      have q266 : h249 75 1 = 76 := by have z := jB (e := 1) 0 j250 rg_75_1_0_1 (by decide) (by decide); omega
      refine x_getR (np := 91) (x := 705) (f := 1) (q := 76) (by decide +kernel) (by decide) (by decide +kernel) q266 ?_
      refine x_iload (np := 92) (x := 2) (by decide +kernel) rfl (by first | decide | omega) ?_
      refine x_const (np := 93) (x := 9223372047592194050) (a := 2147483650) (by decide +kernel) (by decide) (by decide) ?_
      refine x_iadd (np := 94) (x := 0) (v := (2147484772 + 3 * u3)) (by decide +kernel) (by first | decide | omega) (by decide) (by first | decide | omega) (by first | decide | omega) ?_
      refine x_aload (np := 95) (x := 0) (by decide +kernel) rfl (x_nc_le (by decide)) ?_
      have q267 : h249 75 13 = h239 75 13 := jK 0 f251 rg_75_13_0_1 (by first | decide | omega) (by first | decide | omega) (by decide)
      have q268 : h239 75 13 = h235 75 13 := by rw [← e241]; exact x_up_i (by first | decide | omega)
      have q269 : h235 75 13 = h228 75 13 := by rw [← e237]; exact x_up_k (by decide)
      have q270 : h228 75 13 = h 75 13 := by rw [← e230]; exact x_up_k (by decide)
      refine x_getC (np := 98) (x := 717) (f := 13) (q := (h 75 13)) (by decide +kernel) (by decide) (by decide +kernel) (((q267.trans q268).trans q269).trans q270) (fun l271 => ?_)
      refine x_ast (np := 99) (x := 0) (kd := 1) (n := 1952) (i := (1124 + 3 * u3)) (by decide +kernel) (Or.inl rfl) (by decide +kernel) (by first | decide | omega) (by first | decide | omega) (by decide) l234 (fun z => absurd z (by decide)) ?_
      have j273 := jU (e := (1124 + 3 * u3)) (v := (h 75 13)) u3 j250 rg_76_1124_3_10 (by first | decide | omega) (by first | decide | omega) (by first | decide | omega)
      have f275 := jF (e := (1124 + 3 * u3)) (v := (h 75 13)) u3 f256 rg_76_1124_3_10 (by first | decide | omega) (by first | decide | omega) (by decide)
      generalize e274 : x_up h249 76 (1124 + 3 * u3) (h 75 13) = h272 at j273 f275 ⊢
      refine x_const (np := 100) (x := 9223372043297226753) (a := 2147483649) (by decide +kernel) (by decide) (by decide) ?_
      have q276 : h272 75 13 = h249 75 13 := by rw [← e274]; exact x_up_k (by decide)
      have q277 : h249 75 13 = h239 75 13 := jK 0 f251 rg_75_13_0_1 (by first | decide | omega) (by first | decide | omega) (by decide)
      have q278 : h239 75 13 = h235 75 13 := by rw [← e241]; exact x_up_i (by first | decide | omega)
      have q279 : h235 75 13 = h228 75 13 := by rw [← e237]; exact x_up_k (by decide)
      have q280 : h228 75 13 = h 75 13 := by rw [← e230]; exact x_up_k (by decide)
      have q281 : h272 75 7 = h249 75 7 := by rw [← e274]; exact x_up_k (by decide)
      have q282 : h272 75 13 = h249 75 13 := by rw [← e274]; exact x_up_k (by decide)
      have q283 : h249 75 13 = h239 75 13 := jK 0 f251 rg_75_13_0_1 (by first | decide | omega) (by first | decide | omega) (by decide)
      have q284 : h239 75 13 = h235 75 13 := by rw [← e241]; exact x_up_i (by first | decide | omega)
      have q285 : h235 75 13 = h228 75 13 := by rw [← e237]; exact x_up_k (by decide)
      have q286 : h228 75 13 = h 75 13 := by rw [← e230]; exact x_up_k (by decide)
      have k291 : Kq h h228 (h 75 13 - 2147483648) := by rw [← e230]; exact Kq.up Kq.refl (by first | decide | omega)
      have k290 : Kq h h235 (h 75 13 - 2147483648) := by rw [← e237]; exact Kq.up k291 (by first | decide | omega)
      have k289 : Kq h h239 (h 75 13 - 2147483648) := by rw [← e241]; exact Kq.oth k290 (by decide)
      have k288 : Kq h h249 (h 75 13 - 2147483648) := Kq.fr k289 f251 (by first | decide | omega) (by decide)
      have k287 : Kq h h272 (h 75 13 - 2147483648) := by rw [← e274]; exact Kq.up k288 (by first | decide | omega)
      have k296 : Kl h h228 u3 := by rw [← e230]; exact Kl.up Kl.refl (by first | decide | omega)
      have k295 : Kl h h235 u3 := by rw [← e237]; exact Kl.up k296 (by first | decide | omega)
      have k294 : Kl h h239 u3 := by rw [← e241]; exact Kl.oth k295 (by decide)
      have k293 : Kl h h249 u3 := Kl.fr k294 f251 (by first | decide | omega) (by decide)
      have k292 : Kl h h272 u3 := by rw [← e274]; exact Kl.up k293 (by first | decide | omega)
      have e298 : a1 - 2147483648 = u3 := by first | decide | omega
      have k297 : Kl h h272 (a1 - 2147483648) := by rw [e298]; exact k292
      have q299 : h272 76 (1123 + 3 * u3) = h249 76 (1123 + 3 * u3) := by rw [← e274]; exact x_up_i (by first | decide | omega)
      have q300 : h249 76 (1123 + 3 * u3) = h239 76 (1123 + 3 * u3) := jK u3 f251 rg_76_1123_3_10 (by first | decide | omega) (by first | decide | omega) (by decide)
      have q301 : h239 76 (1123 + 3 * u3) = h235 76 (1123 + 3 * u3) := by rw [← e241]; exact x_up_k (by decide)
      have q302 : h235 76 (1123 + 3 * u3) = (h 75 13) := by rw [← e237]; exact x_up_at
      have q303 : h272 76 (1124 + 3 * u3) = (h 75 13) := by rw [← e274]; exact x_up_at
      have g304 : Lg h272 u3 := Or.inl (show h272 76 (1123 + 3 * u3) = h272 76 (1124 + 3 * u3) by first | decide | omega)
      have g305 : Lg h272 (a1 - 2147483648) ∧ h272 76 (1124 + 3 * (a1 - 2147483648)) = h272 75 13 ∧ h 75 13 ≤ h272 75 13 := by
        rw [e298]
        exact ⟨g304, by first | decide | omega, by first | decide | omega⟩
      have y306 := Is.yes c10 (by first | decide | omega)
      have q307 : h239 75 7 = h235 75 7 := by rw [← e241]; exact x_up_i (by first | decide | omega)
      have q308 : h235 75 7 = h228 75 7 := by rw [← e237]; exact x_up_k (by decide)
      have q309 : h228 75 7 = h 75 7 := by rw [← e230]; exact x_up_k (by decide)
      obtain ⟨w310, e311⟩ := Tk.no c255 (by first | decide | omega)
      have q312 : h272 75 7 = h249 75 7 := by rw [← e274]; exact x_up_k (by decide)
      refine x_retI (np := 101) (x := 0) (by decide +kernel) (by decide) (Or.inr ⟨by decide +kernel, by first | decide | omega, by first | decide | omega⟩) ⟨_, rfl, (by decide), ?_⟩
      exact ⟨j273, f275, (by first | decide | omega), (fun z => by first | decide | omega), k287, k297, (fun _ => g305), (gL_end (i := 22) (by decide) (Wd.of' (by decide) y306 hp0) rfl (congrArg (sk tB tN) ((show h239 75 7 = h 75 7 by first | decide | omega).trans y306.1)) w310 rfl (by first | decide | omega) (Eq.trans (Eq.symm e311) (congrArg (sk tB tN) (show h249 75 7 = h272 75 7 by first | decide | omega))))⟩
    have q265 : ¬ (v243 = 2147483648) := q265
    have b313 := c254 (by first | decide | omega)
    refine x_aload (np := 79) (x := 0) (by decide +kernel) rfl (x_nc_le (by decide)) ?_
    have q314 : h249 75 10 = h239 75 10 := jK 0 f251 rg_75_10_0_1 (by first | decide | omega) (by first | decide | omega) (by decide)
    have q315 : h239 75 10 = 2147483648 := by rw [← e241]; exact x_up_at
    have q316 : h249 75 13 = h239 75 13 := jK 0 f251 rg_75_13_0_1 (by first | decide | omega) (by first | decide | omega) (by decide)
    have q317 : h239 75 13 = h235 75 13 := by rw [← e241]; exact x_up_i (by first | decide | omega)
    have q318 : h235 75 13 = h228 75 13 := by rw [← e237]; exact x_up_k (by decide)
    have q319 : h228 75 13 = h 75 13 := by rw [← e230]; exact x_up_k (by decide)
    have q320 : h249 75 10 = h239 75 10 := jK 0 f251 rg_75_10_0_1 (by first | decide | omega) (by first | decide | omega) (by decide)
    have q321 : h239 75 10 = 2147483648 := by rw [← e241]; exact x_up_at
    have m325 := Tq.fr m246 f251 (by decide) (by decide)
    refine x_cI (t := 6) (mj := 192) (n := 1) (rc := 12) (ml := 1) (nr := 0) (np := 82) (as := [x_r 75]) (rest := []) (lo1 := [x_r 75]) (by decide +kernel) (by decide) (by decide +kernel) (x_rb_of (by decide +kernel)) rfl rfl (x_wr (by decide) x_wn) x_wn (by decide) rfl (c192_75_D0 j250  (by first | decide | omega) (by first | decide | omega) m325) (fun v322 h326 l323 q324 => ?_)
    obtain ⟨j327, f328, b329, c330, c331, c332, c333, c334, c335, c336⟩ := q324
    have f337 := Fr.trans f256 f328 (by decide)
    have q338 : h249 75 13 = h239 75 13 := jK 0 f251 rg_75_13_0_1 (by first | decide | omega) (by first | decide | omega) (by decide)
    have q339 : h239 75 13 = h235 75 13 := by rw [← e241]; exact x_up_i (by first | decide | omega)
    have q340 : h235 75 13 = h228 75 13 := by rw [← e237]; exact x_up_k (by decide)
    have q341 : h228 75 13 = h 75 13 := by rw [← e230]; exact x_up_k (by decide)
    have b342 := jB (e := 13) 0 j327 rg_75_13_0_1 (by first | decide | omega) (by first | decide | omega)
    have b343 := jB (e := 7) 0 j327 rg_75_7_0_1 (by first | decide | omega) (by first | decide | omega)
    have q344 : h249 75 10 = h239 75 10 := jK 0 f251 rg_75_10_0_1 (by first | decide | omega) (by first | decide | omega) (by decide)
    have q345 : h239 75 10 = 2147483648 := by rw [← e241]; exact x_up_at
    have b346 := jB (e := 10) 0 j327 rg_75_10_0_1 (by first | decide | omega) (by first | decide | omega)
    have q347 : h249 75 13 = h239 75 13 := jK 0 f251 rg_75_13_0_1 (by first | decide | omega) (by first | decide | omega) (by decide)
    have q348 : h239 75 13 = h235 75 13 := by rw [← e241]; exact x_up_i (by first | decide | omega)
    have q349 : h235 75 13 = h228 75 13 := by rw [← e237]; exact x_up_k (by decide)
    have q350 : h228 75 13 = h 75 13 := by rw [← e230]; exact x_up_k (by decide)
    refine x_ifz (k := 1) (tg := 87) (np := 85) (by decide +kernel) (by decide) l323 (fun q351 => ?_) (fun q352 => ?_)
    · have q351 : v322 ≠ 2147483648 := q351
      have b353 := c330 (by first | decide | omega)
      have b354 := c331 (by first | decide | omega)
      have b355 := c332 (by first | decide | omega)
      have b356 := c333 (by first | decide | omega)
      have s357 := c335 (by first | decide | omega)
      have q358 : h249 75 13 = h239 75 13 := jK 0 f251 rg_75_13_0_1 (by first | decide | omega) (by first | decide | omega) (by decide)
      have q359 : h239 75 13 = h235 75 13 := by rw [← e241]; exact x_up_i (by first | decide | omega)
      have q360 : h235 75 13 = h228 75 13 := by rw [← e237]; exact x_up_k (by decide)
      have q361 : h228 75 13 = h 75 13 := by rw [← e230]; exact x_up_k (by decide)
      refine x_aload (np := 88) (x := 0) (by decide +kernel) rfl (x_nc_le (by decide)) ?_
      have q362 : h326 75 1 = 76 := by have z := jB (e := 1) 0 j327 rg_75_1_0_1 (by decide) (by decide); omega
      refine x_getR (np := 91) (x := 705) (f := 1) (q := 76) (by decide +kernel) (by decide) (by decide +kernel) q362 ?_
      refine x_iload (np := 92) (x := 2) (by decide +kernel) rfl (by first | decide | omega) ?_
      refine x_const (np := 93) (x := 9223372047592194050) (a := 2147483650) (by decide +kernel) (by decide) (by decide) ?_
      refine x_iadd (np := 94) (x := 0) (v := (2147484772 + 3 * u3)) (by decide +kernel) (by first | decide | omega) (by decide) (by first | decide | omega) (by first | decide | omega) ?_
      refine x_aload (np := 95) (x := 0) (by decide +kernel) rfl (x_nc_le (by decide)) ?_
      refine x_getC (np := 98) (x := 717) (f := 13) (q := (h326 75 13)) (by decide +kernel) (by decide) (by decide +kernel) rfl (fun l363 => ?_)
      refine x_ast (np := 99) (x := 0) (kd := 1) (n := 1952) (i := (1124 + 3 * u3)) (by decide +kernel) (Or.inl rfl) (by decide +kernel) (by first | decide | omega) (by first | decide | omega) (by decide) l363 (fun z => absurd z (by decide)) ?_
      have j365 := jU (e := (1124 + 3 * u3)) (v := (h326 75 13)) u3 j327 rg_76_1124_3_10 (by first | decide | omega) (by first | decide | omega) (by first | decide | omega)
      have f367 := jF (e := (1124 + 3 * u3)) (v := (h326 75 13)) u3 f337 rg_76_1124_3_10 (by first | decide | omega) (by first | decide | omega) (by decide)
      generalize e366 : x_up h326 76 (1124 + 3 * u3) (h326 75 13) = h364 at j365 f367 ⊢
      refine x_const (np := 100) (x := 9223372043297226753) (a := 2147483649) (by decide +kernel) (by decide) (by decide) ?_
      have q368 : h364 75 13 = h326 75 13 := by rw [← e366]; exact x_up_k (by decide)
      have q369 : h364 75 7 = h326 75 7 := by rw [← e366]; exact x_up_k (by decide)
      have q370 : h364 75 13 = h326 75 13 := by rw [← e366]; exact x_up_k (by decide)
      have k376 : Kq h h228 (h 75 13 - 2147483648) := by rw [← e230]; exact Kq.up Kq.refl (by first | decide | omega)
      have k375 : Kq h h235 (h 75 13 - 2147483648) := by rw [← e237]; exact Kq.up k376 (by first | decide | omega)
      have k374 : Kq h h239 (h 75 13 - 2147483648) := by rw [← e241]; exact Kq.oth k375 (by decide)
      have k373 : Kq h h249 (h 75 13 - 2147483648) := Kq.fr k374 f251 (by first | decide | omega) (by decide)
      have q377 : h249 75 13 = h239 75 13 := jK 0 f251 rg_75_13_0_1 (by first | decide | omega) (by first | decide | omega) (by decide)
      have q378 : h239 75 13 = h235 75 13 := by rw [← e241]; exact x_up_i (by first | decide | omega)
      have q379 : h235 75 13 = h228 75 13 := by rw [← e237]; exact x_up_k (by decide)
      have q380 : h228 75 13 = h 75 13 := by rw [← e230]; exact x_up_k (by decide)
      have k372 : Kq h h326 (h 75 13 - 2147483648) := Kq.kp k373 c334 (by first | decide | omega)
      have k371 : Kq h h364 (h 75 13 - 2147483648) := by rw [← e366]; exact Kq.up k372 (by first | decide | omega)
      have k386 : Kl h h228 u3 := by rw [← e230]; exact Kl.up Kl.refl (by first | decide | omega)
      have k385 : Kl h h235 u3 := by rw [← e237]; exact Kl.up k386 (by first | decide | omega)
      have k384 : Kl h h239 u3 := by rw [← e241]; exact Kl.oth k385 (by decide)
      have k383 : Kl h h249 u3 := Kl.fr k384 f251 (by first | decide | omega) (by decide)
      have k382 : Kl h h326 u3 := Kl.kp k383 c334 (by first | decide | omega)
      have k381 : Kl h h364 u3 := by rw [← e366]; exact Kl.up k382 (by first | decide | omega)
      have e388 : a1 - 2147483648 = u3 := by first | decide | omega
      have k387 : Kl h h364 (a1 - 2147483648) := by rw [e388]; exact k381
      have q389 : h364 76 (1123 + 3 * u3) = h326 76 (1123 + 3 * u3) := by rw [← e366]; exact x_up_i (by first | decide | omega)
      have b390 := jB (e := (1123 + 3 * u3)) u3 j327 rg_76_1123_3_10 (by first | decide | omega) (by first | decide | omega)
      have q391 : h364 76 (1124 + 3 * u3) = (h326 75 13) := by rw [← e366]; exact x_up_at
      have k393 : Kq h326 h364 (h326 75 13 - 2147483648) := by rw [← e366]; exact Kq.up Kq.refl (by first | decide | omega)
      have q394 := c334.2 (1123 + 3 * u3) (by first | decide | omega) (by first | decide | omega)
      have q395 : h249 76 (1123 + 3 * u3) = h239 76 (1123 + 3 * u3) := jK u3 f251 rg_76_1123_3_10 (by first | decide | omega) (by first | decide | omega) (by decide)
      have q396 : h239 76 (1123 + 3 * u3) = h235 76 (1123 + 3 * u3) := by rw [← e241]; exact x_up_k (by decide)
      have q397 : h235 76 (1123 + 3 * u3) = (h 75 13) := by rw [← e237]; exact x_up_at
      have g392 : Lg h364 u3 := Or.inr (Seg.cast (a' := h364 76 (1123 + 3 * u3) - 2147483648) (b' := h364 76 (1124 + 3 * u3) - 2147483648) (Seg.kq s357 k393) (by rw [show h364 76 (1123 + 3 * u3) = h249 75 13 by first | decide | omega]) (by rw [show h364 76 (1124 + 3 * u3) = h326 75 13 by first | decide | omega]))
      have g398 : Lg h364 (a1 - 2147483648) ∧ h364 76 (1124 + 3 * (a1 - 2147483648)) = h364 75 13 ∧ h 75 13 ≤ h364 75 13 := by
        rw [e388]
        exact ⟨g392, by first | decide | omega, by first | decide | omega⟩
      have y399 := Is.yes c10 (by first | decide | omega)
      have q400 : h239 75 7 = h235 75 7 := by rw [← e241]; exact x_up_i (by first | decide | omega)
      have q401 : h235 75 7 = h228 75 7 := by rw [← e237]; exact x_up_k (by decide)
      have q402 : h228 75 7 = h 75 7 := by rw [← e230]; exact x_up_k (by decide)
      obtain ⟨w403, e404⟩ := Tk.yes c255 (by first | decide | omega)
      have q405 : h364 75 7 = h326 75 7 := by rw [← e366]; exact x_up_k (by decide)
      refine x_retI (np := 101) (x := 0) (by decide +kernel) (by decide) (Or.inr ⟨by decide +kernel, by first | decide | omega, by first | decide | omega⟩) ⟨_, rfl, (by decide), ?_⟩
      exact ⟨j365, f367, (by first | decide | omega), (fun z => by first | decide | omega), k371, k387, (fun _ => g398), (gL_if (i := 22) (by decide) (Wd.of' (by decide) y399 hp0) rfl (congrArg (sk tB tN) ((show h239 75 7 = h 75 7 by first | decide | omega).trans y399.1)) w403 rfl e404 c336 rfl (by first | decide | omega) (fun z => (congrArg (sk tB tN) (show h326 75 7 = h364 75 7 by first | decide | omega))))⟩
    have q352 : ¬ (v322 ≠ 2147483648) := q352
    refine x_const (np := 86) (x := 9223372039002259456) (a := 2147483648) (by decide +kernel) (by decide) (by decide) ?_
    have k410 : Kq h h228 (h 75 13 - 2147483648) := by rw [← e230]; exact Kq.up Kq.refl (by first | decide | omega)
    have k409 : Kq h h235 (h 75 13 - 2147483648) := by rw [← e237]; exact Kq.up k410 (by first | decide | omega)
    have k408 : Kq h h239 (h 75 13 - 2147483648) := by rw [← e241]; exact Kq.oth k409 (by decide)
    have k407 : Kq h h249 (h 75 13 - 2147483648) := Kq.fr k408 f251 (by first | decide | omega) (by decide)
    have q411 : h249 75 13 = h239 75 13 := jK 0 f251 rg_75_13_0_1 (by first | decide | omega) (by first | decide | omega) (by decide)
    have q412 : h239 75 13 = h235 75 13 := by rw [← e241]; exact x_up_i (by first | decide | omega)
    have q413 : h235 75 13 = h228 75 13 := by rw [← e237]; exact x_up_k (by decide)
    have q414 : h228 75 13 = h 75 13 := by rw [← e230]; exact x_up_k (by decide)
    have k406 : Kq h h326 (h 75 13 - 2147483648) := Kq.kp k407 c334 (by first | decide | omega)
    have k419 : Kl h h228 u3 := by rw [← e230]; exact Kl.up Kl.refl (by first | decide | omega)
    have k418 : Kl h h235 u3 := by rw [← e237]; exact Kl.up k419 (by first | decide | omega)
    have k417 : Kl h h239 u3 := by rw [← e241]; exact Kl.oth k418 (by decide)
    have k416 : Kl h h249 u3 := Kl.fr k417 f251 (by first | decide | omega) (by decide)
    have k415 : Kl h h326 u3 := Kl.kp k416 c334 (by first | decide | omega)
    have e421 : a1 - 2147483648 = u3 := by first | decide | omega
    have k420 : Kl h h326 (a1 - 2147483648) := by rw [e421]; exact k415
    have y422 := Is.yes c10 (by first | decide | omega)
    have q423 : h239 75 7 = h235 75 7 := by rw [← e241]; exact x_up_i (by first | decide | omega)
    have q424 : h235 75 7 = h228 75 7 := by rw [← e237]; exact x_up_k (by decide)
    have q425 : h228 75 7 = h 75 7 := by rw [← e230]; exact x_up_k (by decide)
    obtain ⟨w426, e427⟩ := Tk.yes c255 (by first | decide | omega)
    refine x_retI (np := 87) (x := 0) (by decide +kernel) (by decide) (Or.inr ⟨by decide +kernel, by first | decide | omega, by first | decide | omega⟩) ⟨_, rfl, (by decide), ?_⟩
    exact ⟨j327, f337, (by first | decide | omega), (fun z => by first | decide | omega), k406, k420, (fun z => absurd z (by first | decide | omega)), (gL_if (i := 22) (by decide) (Wd.of' (by decide) y422 hp0) rfl (congrArg (sk tB tN) ((show h239 75 7 = h 75 7 by first | decide | omega).trans y422.1)) w426 rfl e427 c336 rfl (by first | decide | omega) (fun z => absurd z (by first | decide | omega)))⟩
  have q15 : ¬ (v6 ≠ 2147483648) := q15
  refine x_aload (np := 19) (x := 0) (by decide +kernel) rfl (x_nc_le (by decide)) ?_
  refine x_ldcwB (i := 21) (idx := 264) (tx := "refuse") (by rw [tb_y193]; exact List.mem_of_getElem? (i := 57) rfl) (by decide) (by rw [tb_b193]; decide +kernel) ?_
  refine x_cP (t := 6) (mj := 170) (n := 2) (rc := 12) (ml := 4) (nr := 0) (np := 25) (as := [x_r 75, x_b (21 + 1)]) (rest := []) (lo1 := [x_r 75, x_b (21 + 1), 147573952589676412928, 147573952589676412928]) (by decide +kernel) (by decide) (by decide +kernel) (x_rb_of (by decide +kernel)) rfl rfl (x_wr (by decide) (x_wB (by decide) x_wn)) x_wn (by decide) rfl (c170_75_S0 hJ  (by decide) hT) (fun v428 l429 q430 => ?_)
  obtain ⟨b433, c431, c432⟩ := q430
  have b434 : iv_tl 21 = 6 := by decide
  refine x_ifz (k := 1) (tg := 30) (np := 28) (by decide +kernel) (by decide) l429 (fun q435 => ?_) (fun q436 => ?_)
  · have q435 : v428 ≠ 2147483648 := q435
    have b437 := c431 (by first | decide | omega)
    refine x_aload (np := 31) (x := 0) (by decide +kernel) rfl (x_nc_le (by decide)) ?_
    have q438 : h 75 1 = 76 := by have z := jB (e := 1) 0 hJ rg_75_1_0_1 (by decide) (by decide); omega
    refine x_getR (np := 34) (x := 705) (f := 1) (q := 76) (by decide +kernel) (by decide) (by decide +kernel) q438 ?_
    refine x_iload (np := 35) (x := 2) (by decide +kernel) rfl (by first | decide | omega) ?_
    refine x_aload (np := 36) (x := 0) (by decide +kernel) rfl (x_nc_le (by decide)) ?_
    refine x_ldcwB (i := 22) (idx := 262) (tx := "grant") (by rw [tb_y193]; exact List.mem_of_getElem? (i := 56) rfl) (by decide) (by rw [tb_b193]; decide +kernel) ?_
    refine x_cP (t := 6) (mj := 170) (n := 2) (rc := 12) (ml := 4) (nr := 2) (np := 42) (as := [x_r 75, x_b (22 + 1)]) (rest := [iv_c (2147484770 + 3 * u3), x_r 76]) (lo1 := [x_r 75, x_b (22 + 1), 147573952589676412928, 147573952589676412928]) (by decide +kernel) (by decide) (by decide +kernel) (x_rb_of (by decide +kernel)) rfl rfl (x_wr (by decide) (x_wB (by decide) x_wn)) (x_wi (by first | decide | omega) (x_wr (by decide) x_wn)) (by decide) rfl (c170_75_S0 hJ  (by decide) hT) (fun v439 l440 q441 => ?_)
    obtain ⟨b444, c442, c443⟩ := q441
    have b445 : iv_tl 22 = 5 := by decide
    refine x_ifz (k := 0) (tg := 49) (np := 45) (by decide +kernel) (by decide) l440 (fun q446 => ?_) (fun q447 => ?_)
    · have q446 : v439 = 2147483648 := q446
      refine x_const (np := 50) (x := 9223372039002259456) (a := 2147483648) (by decide +kernel) (by decide) (by decide) ?_
      refine x_ast (np := 51) (x := 0) (kd := 1) (n := 1952) (i := (1122 + 3 * u3)) (by decide +kernel) (Or.inl rfl) (by decide +kernel) (by first | decide | omega) (by first | decide | omega) (by decide) (by decide) (fun z => absurd z (by decide)) ?_
      have j449 := jU (e := (1122 + 3 * u3)) (v := 2147483648) u3 hJ rg_76_1122_3_10 (by first | decide | omega) (by first | decide | omega) (by first | decide | omega)
      have f451 := jF (e := (1122 + 3 * u3)) (v := 2147483648) u3 hF rg_76_1122_3_10 (by first | decide | omega) (by first | decide | omega) (by decide)
      generalize e450 : x_up h 76 (1122 + 3 * u3) 2147483648 = h448 at j449 f451 ⊢
      refine x_aload (np := 52) (x := 0) (by decide +kernel) rfl (x_nc_le (by decide)) ?_
      have q452 : h448 75 1 = 76 := by have z := jB (e := 1) 0 j449 rg_75_1_0_1 (by decide) (by decide); omega
      refine x_getR (np := 55) (x := 705) (f := 1) (q := 76) (by decide +kernel) (by decide) (by decide +kernel) q452 ?_
      refine x_iload (np := 56) (x := 2) (by decide +kernel) rfl (by first | decide | omega) ?_
      refine x_const (np := 57) (x := 9223372043297226753) (a := 2147483649) (by decide +kernel) (by decide) (by decide) ?_
      refine x_iadd (np := 58) (x := 0) (v := (2147484771 + 3 * u3)) (by decide +kernel) (by first | decide | omega) (by decide) (by first | decide | omega) (by first | decide | omega) ?_
      refine x_aload (np := 59) (x := 0) (by decide +kernel) rfl (x_nc_le (by decide)) ?_
      have q453 : h448 75 13 = h 75 13 := by rw [← e450]; exact x_up_k (by decide)
      refine x_getC (np := 62) (x := 717) (f := 13) (q := (h 75 13)) (by decide +kernel) (by decide) (by decide +kernel) q453 (fun l454 => ?_)
      refine x_ast (np := 63) (x := 0) (kd := 1) (n := 1952) (i := (1123 + 3 * u3)) (by decide +kernel) (Or.inl rfl) (by decide +kernel) (by first | decide | omega) (by first | decide | omega) (by decide) l454 (fun z => absurd z (by decide)) ?_
      have j456 := jU (e := (1123 + 3 * u3)) (v := (h 75 13)) u3 j449 rg_76_1123_3_10 (by first | decide | omega) (by first | decide | omega) (by first | decide | omega)
      have f458 := jF (e := (1123 + 3 * u3)) (v := (h 75 13)) u3 f451 rg_76_1123_3_10 (by first | decide | omega) (by first | decide | omega) (by decide)
      generalize e457 : x_up h448 76 (1123 + 3 * u3) (h 75 13) = h455 at j456 f458 ⊢
      refine x_aload (np := 64) (x := 0) (by decide +kernel) rfl (x_nc_le (by decide)) ?_
      refine x_const (np := 65) (x := 9223372039002259456) (a := 2147483648) (by decide +kernel) (by decide) (by decide) ?_
      refine x_putI (np := 68) (x := 714) (f := 10) (by decide +kernel) (by decide +kernel) (by decide) (Or.inl (by decide)) ?_
      have j460 := jU (e := 10) (v := 2147483648) 0 j456 rg_75_10_0_1 (by first | decide | omega) (by first | decide | omega) (by first | decide | omega)
      have f462 := jF (e := 10) (v := 2147483648) 0 f458 rg_75_10_0_1 (by first | decide | omega) (by first | decide | omega) (by decide)
      generalize e461 : x_up h455 75 10 2147483648 = h459 at j460 f462 ⊢
      refine x_aload (np := 69) (x := 0) (by decide +kernel) rfl (x_nc_le (by decide)) ?_
      refine x_ldcwB (i := 23) (idx := 266) (tx := "if") (by rw [tb_y193]; exact List.mem_of_getElem? (i := 58) rfl) (by decide) (by rw [tb_b193]; decide +kernel) ?_
      have m468 : Tq tB tN h448 := by rw [← e450]; exact Tq.oth hT (by decide) (fun z => absurd z.1 (by decide))
      have m467 : Tq tB tN h455 := by rw [← e457]; exact Tq.oth m468 (by decide) (fun z => absurd z.1 (by decide))
      have m466 : Tq tB tN h459 := by rw [← e461]; exact Tq.oth m467 (by decide) (by decide)
      refine x_cI (t := 6) (mj := 171) (n := 2) (rc := 12) (ml := 2) (nr := 0) (np := 75) (as := [x_r 75, x_b (23 + 1)]) (rest := []) (lo1 := [x_r 75, x_b (23 + 1)]) (by decide +kernel) (by decide) (by decide +kernel) (x_rb_of (by decide +kernel)) rfl rfl (x_wr (by decide) (x_wB (by decide) x_wn)) x_wn (by decide) rfl (c171_75_S0 j460  (by decide) m466) (fun v463 h469 l464 q465 => ?_)
      obtain ⟨j470, f471, b472, c473, c474, c475⟩ := q465
      have f476 := Fr.trans f462 f471 (by decide)
      have q477 : h459 75 7 = h455 75 7 := by rw [← e461]; exact x_up_i (by first | decide | omega)
      have q478 : h455 75 7 = h448 75 7 := by rw [← e457]; exact x_up_k (by decide)
      have q479 : h448 75 7 = h 75 7 := by rw [← e450]; exact x_up_k (by decide)
      have b480 := jB (e := 7) 0 j470 rg_75_7_0_1 (by first | decide | omega) (by first | decide | omega)
      have q481 : h459 75 7 = h455 75 7 := by rw [← e461]; exact x_up_i (by first | decide | omega)
      have q482 : h455 75 7 = h448 75 7 := by rw [← e457]; exact x_up_k (by decide)
      have q483 : h448 75 7 = h 75 7 := by rw [← e450]; exact x_up_k (by decide)
      refine x_ifz (k := 0) (tg := 87) (np := 78) (by decide +kernel) (by decide) l464 (fun q484 => ?_) (fun q485 => ?_)
      · have q484 : v463 = 2147483648 := q484
        refine x_aload (np := 88) (x := 0) (by decide +kernel) rfl (x_nc_le (by decide)) ?_
        have q486 : h469 75 1 = 76 := by have z := jB (e := 1) 0 j470 rg_75_1_0_1 (by decide) (by decide); omega
        refine x_getR (np := 91) (x := 705) (f := 1) (q := 76) (by decide +kernel) (by decide) (by decide +kernel) q486 ?_
        refine x_iload (np := 92) (x := 2) (by decide +kernel) rfl (by first | decide | omega) ?_
        refine x_const (np := 93) (x := 9223372047592194050) (a := 2147483650) (by decide +kernel) (by decide) (by decide) ?_
        refine x_iadd (np := 94) (x := 0) (v := (2147484772 + 3 * u3)) (by decide +kernel) (by first | decide | omega) (by decide) (by first | decide | omega) (by first | decide | omega) ?_
        refine x_aload (np := 95) (x := 0) (by decide +kernel) rfl (x_nc_le (by decide)) ?_
        have q487 : h469 75 13 = h459 75 13 := jK 0 f471 rg_75_13_0_1 (by first | decide | omega) (by first | decide | omega) (by decide)
        have q488 : h459 75 13 = h455 75 13 := by rw [← e461]; exact x_up_i (by first | decide | omega)
        have q489 : h455 75 13 = h448 75 13 := by rw [← e457]; exact x_up_k (by decide)
        have q490 : h448 75 13 = h 75 13 := by rw [← e450]; exact x_up_k (by decide)
        refine x_getC (np := 98) (x := 717) (f := 13) (q := (h 75 13)) (by decide +kernel) (by decide) (by decide +kernel) (((q487.trans q488).trans q489).trans q490) (fun l491 => ?_)
        refine x_ast (np := 99) (x := 0) (kd := 1) (n := 1952) (i := (1124 + 3 * u3)) (by decide +kernel) (Or.inl rfl) (by decide +kernel) (by first | decide | omega) (by first | decide | omega) (by decide) l454 (fun z => absurd z (by decide)) ?_
        have j493 := jU (e := (1124 + 3 * u3)) (v := (h 75 13)) u3 j470 rg_76_1124_3_10 (by first | decide | omega) (by first | decide | omega) (by first | decide | omega)
        have f495 := jF (e := (1124 + 3 * u3)) (v := (h 75 13)) u3 f476 rg_76_1124_3_10 (by first | decide | omega) (by first | decide | omega) (by decide)
        generalize e494 : x_up h469 76 (1124 + 3 * u3) (h 75 13) = h492 at j493 f495 ⊢
        refine x_const (np := 100) (x := 9223372043297226753) (a := 2147483649) (by decide +kernel) (by decide) (by decide) ?_
        have q496 : h492 75 13 = h469 75 13 := by rw [← e494]; exact x_up_k (by decide)
        have q497 : h469 75 13 = h459 75 13 := jK 0 f471 rg_75_13_0_1 (by first | decide | omega) (by first | decide | omega) (by decide)
        have q498 : h459 75 13 = h455 75 13 := by rw [← e461]; exact x_up_i (by first | decide | omega)
        have q499 : h455 75 13 = h448 75 13 := by rw [← e457]; exact x_up_k (by decide)
        have q500 : h448 75 13 = h 75 13 := by rw [← e450]; exact x_up_k (by decide)
        have q501 : h492 75 7 = h469 75 7 := by rw [← e494]; exact x_up_k (by decide)
        have q502 : h492 75 13 = h469 75 13 := by rw [← e494]; exact x_up_k (by decide)
        have q503 : h469 75 13 = h459 75 13 := jK 0 f471 rg_75_13_0_1 (by first | decide | omega) (by first | decide | omega) (by decide)
        have q504 : h459 75 13 = h455 75 13 := by rw [← e461]; exact x_up_i (by first | decide | omega)
        have q505 : h455 75 13 = h448 75 13 := by rw [← e457]; exact x_up_k (by decide)
        have q506 : h448 75 13 = h 75 13 := by rw [← e450]; exact x_up_k (by decide)
        have k511 : Kq h h448 (h 75 13 - 2147483648) := by rw [← e450]; exact Kq.up Kq.refl (by first | decide | omega)
        have k510 : Kq h h455 (h 75 13 - 2147483648) := by rw [← e457]; exact Kq.up k511 (by first | decide | omega)
        have k509 : Kq h h459 (h 75 13 - 2147483648) := by rw [← e461]; exact Kq.oth k510 (by decide)
        have k508 : Kq h h469 (h 75 13 - 2147483648) := Kq.fr k509 f471 (by first | decide | omega) (by decide)
        have k507 : Kq h h492 (h 75 13 - 2147483648) := by rw [← e494]; exact Kq.up k508 (by first | decide | omega)
        have k516 : Kl h h448 u3 := by rw [← e450]; exact Kl.up Kl.refl (by first | decide | omega)
        have k515 : Kl h h455 u3 := by rw [← e457]; exact Kl.up k516 (by first | decide | omega)
        have k514 : Kl h h459 u3 := by rw [← e461]; exact Kl.oth k515 (by decide)
        have k513 : Kl h h469 u3 := Kl.fr k514 f471 (by first | decide | omega) (by decide)
        have k512 : Kl h h492 u3 := by rw [← e494]; exact Kl.up k513 (by first | decide | omega)
        have e518 : a1 - 2147483648 = u3 := by first | decide | omega
        have k517 : Kl h h492 (a1 - 2147483648) := by rw [e518]; exact k512
        have q519 : h492 76 (1123 + 3 * u3) = h469 76 (1123 + 3 * u3) := by rw [← e494]; exact x_up_i (by first | decide | omega)
        have q520 : h469 76 (1123 + 3 * u3) = h459 76 (1123 + 3 * u3) := jK u3 f471 rg_76_1123_3_10 (by first | decide | omega) (by first | decide | omega) (by decide)
        have q521 : h459 76 (1123 + 3 * u3) = h455 76 (1123 + 3 * u3) := by rw [← e461]; exact x_up_k (by decide)
        have q522 : h455 76 (1123 + 3 * u3) = (h 75 13) := by rw [← e457]; exact x_up_at
        have q523 : h492 76 (1124 + 3 * u3) = (h 75 13) := by rw [← e494]; exact x_up_at
        have g524 : Lg h492 u3 := Or.inl (show h492 76 (1123 + 3 * u3) = h492 76 (1124 + 3 * u3) by first | decide | omega)
        have g525 : Lg h492 (a1 - 2147483648) ∧ h492 76 (1124 + 3 * (a1 - 2147483648)) = h492 75 13 ∧ h 75 13 ≤ h492 75 13 := by
          rw [e518]
          exact ⟨g524, by first | decide | omega, by first | decide | omega⟩
        have y526 := Is.yes c432 (by first | decide | omega)
        have q527 : h459 75 7 = h455 75 7 := by rw [← e461]; exact x_up_i (by first | decide | omega)
        have q528 : h455 75 7 = h448 75 7 := by rw [← e457]; exact x_up_k (by decide)
        have q529 : h448 75 7 = h 75 7 := by rw [← e450]; exact x_up_k (by decide)
        obtain ⟨w530, e531⟩ := Tk.no c475 (by first | decide | omega)
        have q532 : h492 75 7 = h469 75 7 := by rw [← e494]; exact x_up_k (by decide)
        refine x_retI (np := 101) (x := 0) (by decide +kernel) (by decide) (Or.inr ⟨by decide +kernel, by first | decide | omega, by first | decide | omega⟩) ⟨_, rfl, (by decide), ?_⟩
        exact ⟨j493, f495, (by first | decide | omega), (fun z => by first | decide | omega), k507, k517, (fun _ => g525), (gL_end (i := 21) (by decide) (Wd.of' (by decide) y526 hp0) rfl (congrArg (sk tB tN) ((show h459 75 7 = h 75 7 by first | decide | omega).trans y526.1)) w530 rfl (by first | decide | omega) (Eq.trans (Eq.symm e531) (congrArg (sk tB tN) (show h469 75 7 = h492 75 7 by first | decide | omega))))⟩
      have q485 : ¬ (v463 = 2147483648) := q485
      have b533 := c474 (by first | decide | omega)
      refine x_aload (np := 79) (x := 0) (by decide +kernel) rfl (x_nc_le (by decide)) ?_
      have q534 : h469 75 10 = h459 75 10 := jK 0 f471 rg_75_10_0_1 (by first | decide | omega) (by first | decide | omega) (by decide)
      have q535 : h459 75 10 = 2147483648 := by rw [← e461]; exact x_up_at
      have q536 : h469 75 13 = h459 75 13 := jK 0 f471 rg_75_13_0_1 (by first | decide | omega) (by first | decide | omega) (by decide)
      have q537 : h459 75 13 = h455 75 13 := by rw [← e461]; exact x_up_i (by first | decide | omega)
      have q538 : h455 75 13 = h448 75 13 := by rw [← e457]; exact x_up_k (by decide)
      have q539 : h448 75 13 = h 75 13 := by rw [← e450]; exact x_up_k (by decide)
      have q540 : h469 75 10 = h459 75 10 := jK 0 f471 rg_75_10_0_1 (by first | decide | omega) (by first | decide | omega) (by decide)
      have q541 : h459 75 10 = 2147483648 := by rw [← e461]; exact x_up_at
      have m545 := Tq.fr m466 f471 (by decide) (by decide)
      refine x_cI (t := 6) (mj := 192) (n := 1) (rc := 12) (ml := 1) (nr := 0) (np := 82) (as := [x_r 75]) (rest := []) (lo1 := [x_r 75]) (by decide +kernel) (by decide) (by decide +kernel) (x_rb_of (by decide +kernel)) rfl rfl (x_wr (by decide) x_wn) x_wn (by decide) rfl (c192_75_D0 j470  (by first | decide | omega) (by first | decide | omega) m545) (fun v542 h546 l543 q544 => ?_)
      obtain ⟨j547, f548, b549, c550, c551, c552, c553, c554, c555, c556⟩ := q544
      have f557 := Fr.trans f476 f548 (by decide)
      have q558 : h469 75 13 = h459 75 13 := jK 0 f471 rg_75_13_0_1 (by first | decide | omega) (by first | decide | omega) (by decide)
      have q559 : h459 75 13 = h455 75 13 := by rw [← e461]; exact x_up_i (by first | decide | omega)
      have q560 : h455 75 13 = h448 75 13 := by rw [← e457]; exact x_up_k (by decide)
      have q561 : h448 75 13 = h 75 13 := by rw [← e450]; exact x_up_k (by decide)
      have b562 := jB (e := 13) 0 j547 rg_75_13_0_1 (by first | decide | omega) (by first | decide | omega)
      have b563 := jB (e := 7) 0 j547 rg_75_7_0_1 (by first | decide | omega) (by first | decide | omega)
      have q564 : h469 75 10 = h459 75 10 := jK 0 f471 rg_75_10_0_1 (by first | decide | omega) (by first | decide | omega) (by decide)
      have q565 : h459 75 10 = 2147483648 := by rw [← e461]; exact x_up_at
      have b566 := jB (e := 10) 0 j547 rg_75_10_0_1 (by first | decide | omega) (by first | decide | omega)
      have q567 : h469 75 13 = h459 75 13 := jK 0 f471 rg_75_13_0_1 (by first | decide | omega) (by first | decide | omega) (by decide)
      have q568 : h459 75 13 = h455 75 13 := by rw [← e461]; exact x_up_i (by first | decide | omega)
      have q569 : h455 75 13 = h448 75 13 := by rw [← e457]; exact x_up_k (by decide)
      have q570 : h448 75 13 = h 75 13 := by rw [← e450]; exact x_up_k (by decide)
      refine x_ifz (k := 1) (tg := 87) (np := 85) (by decide +kernel) (by decide) l543 (fun q571 => ?_) (fun q572 => ?_)
      · have q571 : v542 ≠ 2147483648 := q571
        have b573 := c550 (by first | decide | omega)
        have b574 := c551 (by first | decide | omega)
        have b575 := c552 (by first | decide | omega)
        have b576 := c553 (by first | decide | omega)
        have s577 := c555 (by first | decide | omega)
        have q578 : h469 75 13 = h459 75 13 := jK 0 f471 rg_75_13_0_1 (by first | decide | omega) (by first | decide | omega) (by decide)
        have q579 : h459 75 13 = h455 75 13 := by rw [← e461]; exact x_up_i (by first | decide | omega)
        have q580 : h455 75 13 = h448 75 13 := by rw [← e457]; exact x_up_k (by decide)
        have q581 : h448 75 13 = h 75 13 := by rw [← e450]; exact x_up_k (by decide)
        refine x_aload (np := 88) (x := 0) (by decide +kernel) rfl (x_nc_le (by decide)) ?_
        have q582 : h546 75 1 = 76 := by have z := jB (e := 1) 0 j547 rg_75_1_0_1 (by decide) (by decide); omega
        refine x_getR (np := 91) (x := 705) (f := 1) (q := 76) (by decide +kernel) (by decide) (by decide +kernel) q582 ?_
        refine x_iload (np := 92) (x := 2) (by decide +kernel) rfl (by first | decide | omega) ?_
        refine x_const (np := 93) (x := 9223372047592194050) (a := 2147483650) (by decide +kernel) (by decide) (by decide) ?_
        refine x_iadd (np := 94) (x := 0) (v := (2147484772 + 3 * u3)) (by decide +kernel) (by first | decide | omega) (by decide) (by first | decide | omega) (by first | decide | omega) ?_
        refine x_aload (np := 95) (x := 0) (by decide +kernel) rfl (x_nc_le (by decide)) ?_
        refine x_getC (np := 98) (x := 717) (f := 13) (q := (h546 75 13)) (by decide +kernel) (by decide) (by decide +kernel) rfl (fun l583 => ?_)
        refine x_ast (np := 99) (x := 0) (kd := 1) (n := 1952) (i := (1124 + 3 * u3)) (by decide +kernel) (Or.inl rfl) (by decide +kernel) (by first | decide | omega) (by first | decide | omega) (by decide) l583 (fun z => absurd z (by decide)) ?_
        have j585 := jU (e := (1124 + 3 * u3)) (v := (h546 75 13)) u3 j547 rg_76_1124_3_10 (by first | decide | omega) (by first | decide | omega) (by first | decide | omega)
        have f587 := jF (e := (1124 + 3 * u3)) (v := (h546 75 13)) u3 f557 rg_76_1124_3_10 (by first | decide | omega) (by first | decide | omega) (by decide)
        generalize e586 : x_up h546 76 (1124 + 3 * u3) (h546 75 13) = h584 at j585 f587 ⊢
        refine x_const (np := 100) (x := 9223372043297226753) (a := 2147483649) (by decide +kernel) (by decide) (by decide) ?_
        have q588 : h584 75 13 = h546 75 13 := by rw [← e586]; exact x_up_k (by decide)
        have q589 : h584 75 7 = h546 75 7 := by rw [← e586]; exact x_up_k (by decide)
        have q590 : h584 75 13 = h546 75 13 := by rw [← e586]; exact x_up_k (by decide)
        have k596 : Kq h h448 (h 75 13 - 2147483648) := by rw [← e450]; exact Kq.up Kq.refl (by first | decide | omega)
        have k595 : Kq h h455 (h 75 13 - 2147483648) := by rw [← e457]; exact Kq.up k596 (by first | decide | omega)
        have k594 : Kq h h459 (h 75 13 - 2147483648) := by rw [← e461]; exact Kq.oth k595 (by decide)
        have k593 : Kq h h469 (h 75 13 - 2147483648) := Kq.fr k594 f471 (by first | decide | omega) (by decide)
        have q597 : h469 75 13 = h459 75 13 := jK 0 f471 rg_75_13_0_1 (by first | decide | omega) (by first | decide | omega) (by decide)
        have q598 : h459 75 13 = h455 75 13 := by rw [← e461]; exact x_up_i (by first | decide | omega)
        have q599 : h455 75 13 = h448 75 13 := by rw [← e457]; exact x_up_k (by decide)
        have q600 : h448 75 13 = h 75 13 := by rw [← e450]; exact x_up_k (by decide)
        have k592 : Kq h h546 (h 75 13 - 2147483648) := Kq.kp k593 c554 (by first | decide | omega)
        have k591 : Kq h h584 (h 75 13 - 2147483648) := by rw [← e586]; exact Kq.up k592 (by first | decide | omega)
        have k606 : Kl h h448 u3 := by rw [← e450]; exact Kl.up Kl.refl (by first | decide | omega)
        have k605 : Kl h h455 u3 := by rw [← e457]; exact Kl.up k606 (by first | decide | omega)
        have k604 : Kl h h459 u3 := by rw [← e461]; exact Kl.oth k605 (by decide)
        have k603 : Kl h h469 u3 := Kl.fr k604 f471 (by first | decide | omega) (by decide)
        have k602 : Kl h h546 u3 := Kl.kp k603 c554 (by first | decide | omega)
        have k601 : Kl h h584 u3 := by rw [← e586]; exact Kl.up k602 (by first | decide | omega)
        have e608 : a1 - 2147483648 = u3 := by first | decide | omega
        have k607 : Kl h h584 (a1 - 2147483648) := by rw [e608]; exact k601
        have q609 : h584 76 (1123 + 3 * u3) = h546 76 (1123 + 3 * u3) := by rw [← e586]; exact x_up_i (by first | decide | omega)
        have b610 := jB (e := (1123 + 3 * u3)) u3 j547 rg_76_1123_3_10 (by first | decide | omega) (by first | decide | omega)
        have q611 : h584 76 (1124 + 3 * u3) = (h546 75 13) := by rw [← e586]; exact x_up_at
        have k613 : Kq h546 h584 (h546 75 13 - 2147483648) := by rw [← e586]; exact Kq.up Kq.refl (by first | decide | omega)
        have q614 := c554.2 (1123 + 3 * u3) (by first | decide | omega) (by first | decide | omega)
        have q615 : h469 76 (1123 + 3 * u3) = h459 76 (1123 + 3 * u3) := jK u3 f471 rg_76_1123_3_10 (by first | decide | omega) (by first | decide | omega) (by decide)
        have q616 : h459 76 (1123 + 3 * u3) = h455 76 (1123 + 3 * u3) := by rw [← e461]; exact x_up_k (by decide)
        have q617 : h455 76 (1123 + 3 * u3) = (h 75 13) := by rw [← e457]; exact x_up_at
        have g612 : Lg h584 u3 := Or.inr (Seg.cast (a' := h584 76 (1123 + 3 * u3) - 2147483648) (b' := h584 76 (1124 + 3 * u3) - 2147483648) (Seg.kq s577 k613) (by rw [show h584 76 (1123 + 3 * u3) = h469 75 13 by first | decide | omega]) (by rw [show h584 76 (1124 + 3 * u3) = h546 75 13 by first | decide | omega]))
        have g618 : Lg h584 (a1 - 2147483648) ∧ h584 76 (1124 + 3 * (a1 - 2147483648)) = h584 75 13 ∧ h 75 13 ≤ h584 75 13 := by
          rw [e608]
          exact ⟨g612, by first | decide | omega, by first | decide | omega⟩
        have y619 := Is.yes c432 (by first | decide | omega)
        have q620 : h459 75 7 = h455 75 7 := by rw [← e461]; exact x_up_i (by first | decide | omega)
        have q621 : h455 75 7 = h448 75 7 := by rw [← e457]; exact x_up_k (by decide)
        have q622 : h448 75 7 = h 75 7 := by rw [← e450]; exact x_up_k (by decide)
        obtain ⟨w623, e624⟩ := Tk.yes c475 (by first | decide | omega)
        have q625 : h584 75 7 = h546 75 7 := by rw [← e586]; exact x_up_k (by decide)
        refine x_retI (np := 101) (x := 0) (by decide +kernel) (by decide) (Or.inr ⟨by decide +kernel, by first | decide | omega, by first | decide | omega⟩) ⟨_, rfl, (by decide), ?_⟩
        exact ⟨j585, f587, (by first | decide | omega), (fun z => by first | decide | omega), k591, k607, (fun _ => g618), (gL_if (i := 21) (by decide) (Wd.of' (by decide) y619 hp0) rfl (congrArg (sk tB tN) ((show h459 75 7 = h 75 7 by first | decide | omega).trans y619.1)) w623 rfl e624 c556 rfl (by first | decide | omega) (fun z => (congrArg (sk tB tN) (show h546 75 7 = h584 75 7 by first | decide | omega))))⟩
      have q572 : ¬ (v542 ≠ 2147483648) := q572
      refine x_const (np := 86) (x := 9223372039002259456) (a := 2147483648) (by decide +kernel) (by decide) (by decide) ?_
      have k630 : Kq h h448 (h 75 13 - 2147483648) := by rw [← e450]; exact Kq.up Kq.refl (by first | decide | omega)
      have k629 : Kq h h455 (h 75 13 - 2147483648) := by rw [← e457]; exact Kq.up k630 (by first | decide | omega)
      have k628 : Kq h h459 (h 75 13 - 2147483648) := by rw [← e461]; exact Kq.oth k629 (by decide)
      have k627 : Kq h h469 (h 75 13 - 2147483648) := Kq.fr k628 f471 (by first | decide | omega) (by decide)
      have q631 : h469 75 13 = h459 75 13 := jK 0 f471 rg_75_13_0_1 (by first | decide | omega) (by first | decide | omega) (by decide)
      have q632 : h459 75 13 = h455 75 13 := by rw [← e461]; exact x_up_i (by first | decide | omega)
      have q633 : h455 75 13 = h448 75 13 := by rw [← e457]; exact x_up_k (by decide)
      have q634 : h448 75 13 = h 75 13 := by rw [← e450]; exact x_up_k (by decide)
      have k626 : Kq h h546 (h 75 13 - 2147483648) := Kq.kp k627 c554 (by first | decide | omega)
      have k639 : Kl h h448 u3 := by rw [← e450]; exact Kl.up Kl.refl (by first | decide | omega)
      have k638 : Kl h h455 u3 := by rw [← e457]; exact Kl.up k639 (by first | decide | omega)
      have k637 : Kl h h459 u3 := by rw [← e461]; exact Kl.oth k638 (by decide)
      have k636 : Kl h h469 u3 := Kl.fr k637 f471 (by first | decide | omega) (by decide)
      have k635 : Kl h h546 u3 := Kl.kp k636 c554 (by first | decide | omega)
      have e641 : a1 - 2147483648 = u3 := by first | decide | omega
      have k640 : Kl h h546 (a1 - 2147483648) := by rw [e641]; exact k635
      have y642 := Is.yes c432 (by first | decide | omega)
      have q643 : h459 75 7 = h455 75 7 := by rw [← e461]; exact x_up_i (by first | decide | omega)
      have q644 : h455 75 7 = h448 75 7 := by rw [← e457]; exact x_up_k (by decide)
      have q645 : h448 75 7 = h 75 7 := by rw [← e450]; exact x_up_k (by decide)
      obtain ⟨w646, e647⟩ := Tk.yes c475 (by first | decide | omega)
      refine x_retI (np := 87) (x := 0) (by decide +kernel) (by decide) (Or.inr ⟨by decide +kernel, by first | decide | omega, by first | decide | omega⟩) ⟨_, rfl, (by decide), ?_⟩
      exact ⟨j547, f557, (by first | decide | omega), (fun z => by first | decide | omega), k626, k640, (fun z => absurd z (by first | decide | omega)), (gL_if (i := 21) (by decide) (Wd.of' (by decide) y642 hp0) rfl (congrArg (sk tB tN) ((show h459 75 7 = h 75 7 by first | decide | omega).trans y642.1)) w646 rfl e647 c556 rfl (by first | decide | omega) (fun z => absurd z (by first | decide | omega)))⟩
    have q447 : ¬ (v439 = 2147483648) := q447
    have b648 := c442 (by first | decide | omega)
    refine x_const (np := 46) (x := 9223372043297226753) (a := 2147483649) (by decide +kernel) (by decide) (by decide) ?_
    refine x_goto (np := 49) (x := 50) (by decide +kernel) ?_
    refine x_ast (np := 51) (x := 0) (kd := 1) (n := 1952) (i := (1122 + 3 * u3)) (by decide +kernel) (Or.inl rfl) (by decide +kernel) (by first | decide | omega) (by first | decide | omega) (by decide) (by decide) (fun z => absurd z (by decide)) ?_
    have j650 := jU (e := (1122 + 3 * u3)) (v := 2147483649) u3 hJ rg_76_1122_3_10 (by first | decide | omega) (by first | decide | omega) (by first | decide | omega)
    have f652 := jF (e := (1122 + 3 * u3)) (v := 2147483649) u3 hF rg_76_1122_3_10 (by first | decide | omega) (by first | decide | omega) (by decide)
    generalize e651 : x_up h 76 (1122 + 3 * u3) 2147483649 = h649 at j650 f652 ⊢
    refine x_aload (np := 52) (x := 0) (by decide +kernel) rfl (x_nc_le (by decide)) ?_
    have q653 : h649 75 1 = 76 := by have z := jB (e := 1) 0 j650 rg_75_1_0_1 (by decide) (by decide); omega
    refine x_getR (np := 55) (x := 705) (f := 1) (q := 76) (by decide +kernel) (by decide) (by decide +kernel) q653 ?_
    refine x_iload (np := 56) (x := 2) (by decide +kernel) rfl (by first | decide | omega) ?_
    refine x_const (np := 57) (x := 9223372043297226753) (a := 2147483649) (by decide +kernel) (by decide) (by decide) ?_
    refine x_iadd (np := 58) (x := 0) (v := (2147484771 + 3 * u3)) (by decide +kernel) (by first | decide | omega) (by decide) (by first | decide | omega) (by first | decide | omega) ?_
    refine x_aload (np := 59) (x := 0) (by decide +kernel) rfl (x_nc_le (by decide)) ?_
    have q654 : h649 75 13 = h 75 13 := by rw [← e651]; exact x_up_k (by decide)
    refine x_getC (np := 62) (x := 717) (f := 13) (q := (h 75 13)) (by decide +kernel) (by decide) (by decide +kernel) q654 (fun l655 => ?_)
    refine x_ast (np := 63) (x := 0) (kd := 1) (n := 1952) (i := (1123 + 3 * u3)) (by decide +kernel) (Or.inl rfl) (by decide +kernel) (by first | decide | omega) (by first | decide | omega) (by decide) l655 (fun z => absurd z (by decide)) ?_
    have j657 := jU (e := (1123 + 3 * u3)) (v := (h 75 13)) u3 j650 rg_76_1123_3_10 (by first | decide | omega) (by first | decide | omega) (by first | decide | omega)
    have f659 := jF (e := (1123 + 3 * u3)) (v := (h 75 13)) u3 f652 rg_76_1123_3_10 (by first | decide | omega) (by first | decide | omega) (by decide)
    generalize e658 : x_up h649 76 (1123 + 3 * u3) (h 75 13) = h656 at j657 f659 ⊢
    refine x_aload (np := 64) (x := 0) (by decide +kernel) rfl (x_nc_le (by decide)) ?_
    refine x_const (np := 65) (x := 9223372039002259456) (a := 2147483648) (by decide +kernel) (by decide) (by decide) ?_
    refine x_putI (np := 68) (x := 714) (f := 10) (by decide +kernel) (by decide +kernel) (by decide) (Or.inl (by decide)) ?_
    have j661 := jU (e := 10) (v := 2147483648) 0 j657 rg_75_10_0_1 (by first | decide | omega) (by first | decide | omega) (by first | decide | omega)
    have f663 := jF (e := 10) (v := 2147483648) 0 f659 rg_75_10_0_1 (by first | decide | omega) (by first | decide | omega) (by decide)
    generalize e662 : x_up h656 75 10 2147483648 = h660 at j661 f663 ⊢
    refine x_aload (np := 69) (x := 0) (by decide +kernel) rfl (x_nc_le (by decide)) ?_
    refine x_ldcwB (i := 23) (idx := 266) (tx := "if") (by rw [tb_y193]; exact List.mem_of_getElem? (i := 58) rfl) (by decide) (by rw [tb_b193]; decide +kernel) ?_
    have m669 : Tq tB tN h649 := by rw [← e651]; exact Tq.oth hT (by decide) (fun z => absurd z.1 (by decide))
    have m668 : Tq tB tN h656 := by rw [← e658]; exact Tq.oth m669 (by decide) (fun z => absurd z.1 (by decide))
    have m667 : Tq tB tN h660 := by rw [← e662]; exact Tq.oth m668 (by decide) (by decide)
    refine x_cI (t := 6) (mj := 171) (n := 2) (rc := 12) (ml := 2) (nr := 0) (np := 75) (as := [x_r 75, x_b (23 + 1)]) (rest := []) (lo1 := [x_r 75, x_b (23 + 1)]) (by decide +kernel) (by decide) (by decide +kernel) (x_rb_of (by decide +kernel)) rfl rfl (x_wr (by decide) (x_wB (by decide) x_wn)) x_wn (by decide) rfl (c171_75_S0 j661  (by decide) m667) (fun v664 h670 l665 q666 => ?_)
    obtain ⟨j671, f672, b673, c674, c675, c676⟩ := q666
    have f677 := Fr.trans f663 f672 (by decide)
    have q678 : h660 75 7 = h656 75 7 := by rw [← e662]; exact x_up_i (by first | decide | omega)
    have q679 : h656 75 7 = h649 75 7 := by rw [← e658]; exact x_up_k (by decide)
    have q680 : h649 75 7 = h 75 7 := by rw [← e651]; exact x_up_k (by decide)
    have b681 := jB (e := 7) 0 j671 rg_75_7_0_1 (by first | decide | omega) (by first | decide | omega)
    have q682 : h660 75 7 = h656 75 7 := by rw [← e662]; exact x_up_i (by first | decide | omega)
    have q683 : h656 75 7 = h649 75 7 := by rw [← e658]; exact x_up_k (by decide)
    have q684 : h649 75 7 = h 75 7 := by rw [← e651]; exact x_up_k (by decide)
    refine x_ifz (k := 0) (tg := 87) (np := 78) (by decide +kernel) (by decide) l665 (fun q685 => ?_) (fun q686 => ?_)
    · have q685 : v664 = 2147483648 := q685
      refine x_aload (np := 88) (x := 0) (by decide +kernel) rfl (x_nc_le (by decide)) ?_
      have q687 : h670 75 1 = 76 := by have z := jB (e := 1) 0 j671 rg_75_1_0_1 (by decide) (by decide); omega
      refine x_getR (np := 91) (x := 705) (f := 1) (q := 76) (by decide +kernel) (by decide) (by decide +kernel) q687 ?_
      refine x_iload (np := 92) (x := 2) (by decide +kernel) rfl (by first | decide | omega) ?_
      refine x_const (np := 93) (x := 9223372047592194050) (a := 2147483650) (by decide +kernel) (by decide) (by decide) ?_
      refine x_iadd (np := 94) (x := 0) (v := (2147484772 + 3 * u3)) (by decide +kernel) (by first | decide | omega) (by decide) (by first | decide | omega) (by first | decide | omega) ?_
      refine x_aload (np := 95) (x := 0) (by decide +kernel) rfl (x_nc_le (by decide)) ?_
      have q688 : h670 75 13 = h660 75 13 := jK 0 f672 rg_75_13_0_1 (by first | decide | omega) (by first | decide | omega) (by decide)
      have q689 : h660 75 13 = h656 75 13 := by rw [← e662]; exact x_up_i (by first | decide | omega)
      have q690 : h656 75 13 = h649 75 13 := by rw [← e658]; exact x_up_k (by decide)
      have q691 : h649 75 13 = h 75 13 := by rw [← e651]; exact x_up_k (by decide)
      refine x_getC (np := 98) (x := 717) (f := 13) (q := (h 75 13)) (by decide +kernel) (by decide) (by decide +kernel) (((q688.trans q689).trans q690).trans q691) (fun l692 => ?_)
      refine x_ast (np := 99) (x := 0) (kd := 1) (n := 1952) (i := (1124 + 3 * u3)) (by decide +kernel) (Or.inl rfl) (by decide +kernel) (by first | decide | omega) (by first | decide | omega) (by decide) l655 (fun z => absurd z (by decide)) ?_
      have j694 := jU (e := (1124 + 3 * u3)) (v := (h 75 13)) u3 j671 rg_76_1124_3_10 (by first | decide | omega) (by first | decide | omega) (by first | decide | omega)
      have f696 := jF (e := (1124 + 3 * u3)) (v := (h 75 13)) u3 f677 rg_76_1124_3_10 (by first | decide | omega) (by first | decide | omega) (by decide)
      generalize e695 : x_up h670 76 (1124 + 3 * u3) (h 75 13) = h693 at j694 f696 ⊢
      refine x_const (np := 100) (x := 9223372043297226753) (a := 2147483649) (by decide +kernel) (by decide) (by decide) ?_
      have q697 : h693 75 13 = h670 75 13 := by rw [← e695]; exact x_up_k (by decide)
      have q698 : h670 75 13 = h660 75 13 := jK 0 f672 rg_75_13_0_1 (by first | decide | omega) (by first | decide | omega) (by decide)
      have q699 : h660 75 13 = h656 75 13 := by rw [← e662]; exact x_up_i (by first | decide | omega)
      have q700 : h656 75 13 = h649 75 13 := by rw [← e658]; exact x_up_k (by decide)
      have q701 : h649 75 13 = h 75 13 := by rw [← e651]; exact x_up_k (by decide)
      have q702 : h693 75 7 = h670 75 7 := by rw [← e695]; exact x_up_k (by decide)
      have q703 : h693 75 13 = h670 75 13 := by rw [← e695]; exact x_up_k (by decide)
      have q704 : h670 75 13 = h660 75 13 := jK 0 f672 rg_75_13_0_1 (by first | decide | omega) (by first | decide | omega) (by decide)
      have q705 : h660 75 13 = h656 75 13 := by rw [← e662]; exact x_up_i (by first | decide | omega)
      have q706 : h656 75 13 = h649 75 13 := by rw [← e658]; exact x_up_k (by decide)
      have q707 : h649 75 13 = h 75 13 := by rw [← e651]; exact x_up_k (by decide)
      have k712 : Kq h h649 (h 75 13 - 2147483648) := by rw [← e651]; exact Kq.up Kq.refl (by first | decide | omega)
      have k711 : Kq h h656 (h 75 13 - 2147483648) := by rw [← e658]; exact Kq.up k712 (by first | decide | omega)
      have k710 : Kq h h660 (h 75 13 - 2147483648) := by rw [← e662]; exact Kq.oth k711 (by decide)
      have k709 : Kq h h670 (h 75 13 - 2147483648) := Kq.fr k710 f672 (by first | decide | omega) (by decide)
      have k708 : Kq h h693 (h 75 13 - 2147483648) := by rw [← e695]; exact Kq.up k709 (by first | decide | omega)
      have k717 : Kl h h649 u3 := by rw [← e651]; exact Kl.up Kl.refl (by first | decide | omega)
      have k716 : Kl h h656 u3 := by rw [← e658]; exact Kl.up k717 (by first | decide | omega)
      have k715 : Kl h h660 u3 := by rw [← e662]; exact Kl.oth k716 (by decide)
      have k714 : Kl h h670 u3 := Kl.fr k715 f672 (by first | decide | omega) (by decide)
      have k713 : Kl h h693 u3 := by rw [← e695]; exact Kl.up k714 (by first | decide | omega)
      have e719 : a1 - 2147483648 = u3 := by first | decide | omega
      have k718 : Kl h h693 (a1 - 2147483648) := by rw [e719]; exact k713
      have q720 : h693 76 (1123 + 3 * u3) = h670 76 (1123 + 3 * u3) := by rw [← e695]; exact x_up_i (by first | decide | omega)
      have q721 : h670 76 (1123 + 3 * u3) = h660 76 (1123 + 3 * u3) := jK u3 f672 rg_76_1123_3_10 (by first | decide | omega) (by first | decide | omega) (by decide)
      have q722 : h660 76 (1123 + 3 * u3) = h656 76 (1123 + 3 * u3) := by rw [← e662]; exact x_up_k (by decide)
      have q723 : h656 76 (1123 + 3 * u3) = (h 75 13) := by rw [← e658]; exact x_up_at
      have q724 : h693 76 (1124 + 3 * u3) = (h 75 13) := by rw [← e695]; exact x_up_at
      have g725 : Lg h693 u3 := Or.inl (show h693 76 (1123 + 3 * u3) = h693 76 (1124 + 3 * u3) by first | decide | omega)
      have g726 : Lg h693 (a1 - 2147483648) ∧ h693 76 (1124 + 3 * (a1 - 2147483648)) = h693 75 13 ∧ h 75 13 ≤ h693 75 13 := by
        rw [e719]
        exact ⟨g725, by first | decide | omega, by first | decide | omega⟩
      have y727 := Is.yes c432 (by first | decide | omega)
      have q728 : h660 75 7 = h656 75 7 := by rw [← e662]; exact x_up_i (by first | decide | omega)
      have q729 : h656 75 7 = h649 75 7 := by rw [← e658]; exact x_up_k (by decide)
      have q730 : h649 75 7 = h 75 7 := by rw [← e651]; exact x_up_k (by decide)
      obtain ⟨w731, e732⟩ := Tk.no c676 (by first | decide | omega)
      have q733 : h693 75 7 = h670 75 7 := by rw [← e695]; exact x_up_k (by decide)
      refine x_retI (np := 101) (x := 0) (by decide +kernel) (by decide) (Or.inr ⟨by decide +kernel, by first | decide | omega, by first | decide | omega⟩) ⟨_, rfl, (by decide), ?_⟩
      exact ⟨j694, f696, (by first | decide | omega), (fun z => by first | decide | omega), k708, k718, (fun _ => g726), (gL_end (i := 21) (by decide) (Wd.of' (by decide) y727 hp0) rfl (congrArg (sk tB tN) ((show h660 75 7 = h 75 7 by first | decide | omega).trans y727.1)) w731 rfl (by first | decide | omega) (Eq.trans (Eq.symm e732) (congrArg (sk tB tN) (show h670 75 7 = h693 75 7 by first | decide | omega))))⟩
    have q686 : ¬ (v664 = 2147483648) := q686
    have b734 := c675 (by first | decide | omega)
    refine x_aload (np := 79) (x := 0) (by decide +kernel) rfl (x_nc_le (by decide)) ?_
    have q735 : h670 75 10 = h660 75 10 := jK 0 f672 rg_75_10_0_1 (by first | decide | omega) (by first | decide | omega) (by decide)
    have q736 : h660 75 10 = 2147483648 := by rw [← e662]; exact x_up_at
    have q737 : h670 75 13 = h660 75 13 := jK 0 f672 rg_75_13_0_1 (by first | decide | omega) (by first | decide | omega) (by decide)
    have q738 : h660 75 13 = h656 75 13 := by rw [← e662]; exact x_up_i (by first | decide | omega)
    have q739 : h656 75 13 = h649 75 13 := by rw [← e658]; exact x_up_k (by decide)
    have q740 : h649 75 13 = h 75 13 := by rw [← e651]; exact x_up_k (by decide)
    have q741 : h670 75 10 = h660 75 10 := jK 0 f672 rg_75_10_0_1 (by first | decide | omega) (by first | decide | omega) (by decide)
    have q742 : h660 75 10 = 2147483648 := by rw [← e662]; exact x_up_at
    have m746 := Tq.fr m667 f672 (by decide) (by decide)
    refine x_cI (t := 6) (mj := 192) (n := 1) (rc := 12) (ml := 1) (nr := 0) (np := 82) (as := [x_r 75]) (rest := []) (lo1 := [x_r 75]) (by decide +kernel) (by decide) (by decide +kernel) (x_rb_of (by decide +kernel)) rfl rfl (x_wr (by decide) x_wn) x_wn (by decide) rfl (c192_75_D0 j671  (by first | decide | omega) (by first | decide | omega) m746) (fun v743 h747 l744 q745 => ?_)
    obtain ⟨j748, f749, b750, c751, c752, c753, c754, c755, c756, c757⟩ := q745
    have f758 := Fr.trans f677 f749 (by decide)
    have q759 : h670 75 13 = h660 75 13 := jK 0 f672 rg_75_13_0_1 (by first | decide | omega) (by first | decide | omega) (by decide)
    have q760 : h660 75 13 = h656 75 13 := by rw [← e662]; exact x_up_i (by first | decide | omega)
    have q761 : h656 75 13 = h649 75 13 := by rw [← e658]; exact x_up_k (by decide)
    have q762 : h649 75 13 = h 75 13 := by rw [← e651]; exact x_up_k (by decide)
    have b763 := jB (e := 13) 0 j748 rg_75_13_0_1 (by first | decide | omega) (by first | decide | omega)
    have b764 := jB (e := 7) 0 j748 rg_75_7_0_1 (by first | decide | omega) (by first | decide | omega)
    have q765 : h670 75 10 = h660 75 10 := jK 0 f672 rg_75_10_0_1 (by first | decide | omega) (by first | decide | omega) (by decide)
    have q766 : h660 75 10 = 2147483648 := by rw [← e662]; exact x_up_at
    have b767 := jB (e := 10) 0 j748 rg_75_10_0_1 (by first | decide | omega) (by first | decide | omega)
    have q768 : h670 75 13 = h660 75 13 := jK 0 f672 rg_75_13_0_1 (by first | decide | omega) (by first | decide | omega) (by decide)
    have q769 : h660 75 13 = h656 75 13 := by rw [← e662]; exact x_up_i (by first | decide | omega)
    have q770 : h656 75 13 = h649 75 13 := by rw [← e658]; exact x_up_k (by decide)
    have q771 : h649 75 13 = h 75 13 := by rw [← e651]; exact x_up_k (by decide)
    refine x_ifz (k := 1) (tg := 87) (np := 85) (by decide +kernel) (by decide) l744 (fun q772 => ?_) (fun q773 => ?_)
    · have q772 : v743 ≠ 2147483648 := q772
      have b774 := c751 (by first | decide | omega)
      have b775 := c752 (by first | decide | omega)
      have b776 := c753 (by first | decide | omega)
      have b777 := c754 (by first | decide | omega)
      have s778 := c756 (by first | decide | omega)
      have q779 : h670 75 13 = h660 75 13 := jK 0 f672 rg_75_13_0_1 (by first | decide | omega) (by first | decide | omega) (by decide)
      have q780 : h660 75 13 = h656 75 13 := by rw [← e662]; exact x_up_i (by first | decide | omega)
      have q781 : h656 75 13 = h649 75 13 := by rw [← e658]; exact x_up_k (by decide)
      have q782 : h649 75 13 = h 75 13 := by rw [← e651]; exact x_up_k (by decide)
      refine x_aload (np := 88) (x := 0) (by decide +kernel) rfl (x_nc_le (by decide)) ?_
      have q783 : h747 75 1 = 76 := by have z := jB (e := 1) 0 j748 rg_75_1_0_1 (by decide) (by decide); omega
      refine x_getR (np := 91) (x := 705) (f := 1) (q := 76) (by decide +kernel) (by decide) (by decide +kernel) q783 ?_
      refine x_iload (np := 92) (x := 2) (by decide +kernel) rfl (by first | decide | omega) ?_
      refine x_const (np := 93) (x := 9223372047592194050) (a := 2147483650) (by decide +kernel) (by decide) (by decide) ?_
      refine x_iadd (np := 94) (x := 0) (v := (2147484772 + 3 * u3)) (by decide +kernel) (by first | decide | omega) (by decide) (by first | decide | omega) (by first | decide | omega) ?_
      refine x_aload (np := 95) (x := 0) (by decide +kernel) rfl (x_nc_le (by decide)) ?_
      refine x_getC (np := 98) (x := 717) (f := 13) (q := (h747 75 13)) (by decide +kernel) (by decide) (by decide +kernel) rfl (fun l784 => ?_)
      refine x_ast (np := 99) (x := 0) (kd := 1) (n := 1952) (i := (1124 + 3 * u3)) (by decide +kernel) (Or.inl rfl) (by decide +kernel) (by first | decide | omega) (by first | decide | omega) (by decide) l784 (fun z => absurd z (by decide)) ?_
      have j786 := jU (e := (1124 + 3 * u3)) (v := (h747 75 13)) u3 j748 rg_76_1124_3_10 (by first | decide | omega) (by first | decide | omega) (by first | decide | omega)
      have f788 := jF (e := (1124 + 3 * u3)) (v := (h747 75 13)) u3 f758 rg_76_1124_3_10 (by first | decide | omega) (by first | decide | omega) (by decide)
      generalize e787 : x_up h747 76 (1124 + 3 * u3) (h747 75 13) = h785 at j786 f788 ⊢
      refine x_const (np := 100) (x := 9223372043297226753) (a := 2147483649) (by decide +kernel) (by decide) (by decide) ?_
      have q789 : h785 75 13 = h747 75 13 := by rw [← e787]; exact x_up_k (by decide)
      have q790 : h785 75 7 = h747 75 7 := by rw [← e787]; exact x_up_k (by decide)
      have q791 : h785 75 13 = h747 75 13 := by rw [← e787]; exact x_up_k (by decide)
      have k797 : Kq h h649 (h 75 13 - 2147483648) := by rw [← e651]; exact Kq.up Kq.refl (by first | decide | omega)
      have k796 : Kq h h656 (h 75 13 - 2147483648) := by rw [← e658]; exact Kq.up k797 (by first | decide | omega)
      have k795 : Kq h h660 (h 75 13 - 2147483648) := by rw [← e662]; exact Kq.oth k796 (by decide)
      have k794 : Kq h h670 (h 75 13 - 2147483648) := Kq.fr k795 f672 (by first | decide | omega) (by decide)
      have q798 : h670 75 13 = h660 75 13 := jK 0 f672 rg_75_13_0_1 (by first | decide | omega) (by first | decide | omega) (by decide)
      have q799 : h660 75 13 = h656 75 13 := by rw [← e662]; exact x_up_i (by first | decide | omega)
      have q800 : h656 75 13 = h649 75 13 := by rw [← e658]; exact x_up_k (by decide)
      have q801 : h649 75 13 = h 75 13 := by rw [← e651]; exact x_up_k (by decide)
      have k793 : Kq h h747 (h 75 13 - 2147483648) := Kq.kp k794 c755 (by first | decide | omega)
      have k792 : Kq h h785 (h 75 13 - 2147483648) := by rw [← e787]; exact Kq.up k793 (by first | decide | omega)
      have k807 : Kl h h649 u3 := by rw [← e651]; exact Kl.up Kl.refl (by first | decide | omega)
      have k806 : Kl h h656 u3 := by rw [← e658]; exact Kl.up k807 (by first | decide | omega)
      have k805 : Kl h h660 u3 := by rw [← e662]; exact Kl.oth k806 (by decide)
      have k804 : Kl h h670 u3 := Kl.fr k805 f672 (by first | decide | omega) (by decide)
      have k803 : Kl h h747 u3 := Kl.kp k804 c755 (by first | decide | omega)
      have k802 : Kl h h785 u3 := by rw [← e787]; exact Kl.up k803 (by first | decide | omega)
      have e809 : a1 - 2147483648 = u3 := by first | decide | omega
      have k808 : Kl h h785 (a1 - 2147483648) := by rw [e809]; exact k802
      have q810 : h785 76 (1123 + 3 * u3) = h747 76 (1123 + 3 * u3) := by rw [← e787]; exact x_up_i (by first | decide | omega)
      have b811 := jB (e := (1123 + 3 * u3)) u3 j748 rg_76_1123_3_10 (by first | decide | omega) (by first | decide | omega)
      have q812 : h785 76 (1124 + 3 * u3) = (h747 75 13) := by rw [← e787]; exact x_up_at
      have k814 : Kq h747 h785 (h747 75 13 - 2147483648) := by rw [← e787]; exact Kq.up Kq.refl (by first | decide | omega)
      have q815 := c755.2 (1123 + 3 * u3) (by first | decide | omega) (by first | decide | omega)
      have q816 : h670 76 (1123 + 3 * u3) = h660 76 (1123 + 3 * u3) := jK u3 f672 rg_76_1123_3_10 (by first | decide | omega) (by first | decide | omega) (by decide)
      have q817 : h660 76 (1123 + 3 * u3) = h656 76 (1123 + 3 * u3) := by rw [← e662]; exact x_up_k (by decide)
      have q818 : h656 76 (1123 + 3 * u3) = (h 75 13) := by rw [← e658]; exact x_up_at
      have g813 : Lg h785 u3 := Or.inr (Seg.cast (a' := h785 76 (1123 + 3 * u3) - 2147483648) (b' := h785 76 (1124 + 3 * u3) - 2147483648) (Seg.kq s778 k814) (by rw [show h785 76 (1123 + 3 * u3) = h670 75 13 by first | decide | omega]) (by rw [show h785 76 (1124 + 3 * u3) = h747 75 13 by first | decide | omega]))
      have g819 : Lg h785 (a1 - 2147483648) ∧ h785 76 (1124 + 3 * (a1 - 2147483648)) = h785 75 13 ∧ h 75 13 ≤ h785 75 13 := by
        rw [e809]
        exact ⟨g813, by first | decide | omega, by first | decide | omega⟩
      have y820 := Is.yes c432 (by first | decide | omega)
      have q821 : h660 75 7 = h656 75 7 := by rw [← e662]; exact x_up_i (by first | decide | omega)
      have q822 : h656 75 7 = h649 75 7 := by rw [← e658]; exact x_up_k (by decide)
      have q823 : h649 75 7 = h 75 7 := by rw [← e651]; exact x_up_k (by decide)
      obtain ⟨w824, e825⟩ := Tk.yes c676 (by first | decide | omega)
      have q826 : h785 75 7 = h747 75 7 := by rw [← e787]; exact x_up_k (by decide)
      refine x_retI (np := 101) (x := 0) (by decide +kernel) (by decide) (Or.inr ⟨by decide +kernel, by first | decide | omega, by first | decide | omega⟩) ⟨_, rfl, (by decide), ?_⟩
      exact ⟨j786, f788, (by first | decide | omega), (fun z => by first | decide | omega), k792, k808, (fun _ => g819), (gL_if (i := 21) (by decide) (Wd.of' (by decide) y820 hp0) rfl (congrArg (sk tB tN) ((show h660 75 7 = h 75 7 by first | decide | omega).trans y820.1)) w824 rfl e825 c757 rfl (by first | decide | omega) (fun z => (congrArg (sk tB tN) (show h747 75 7 = h785 75 7 by first | decide | omega))))⟩
    have q773 : ¬ (v743 ≠ 2147483648) := q773
    refine x_const (np := 86) (x := 9223372039002259456) (a := 2147483648) (by decide +kernel) (by decide) (by decide) ?_
    have k831 : Kq h h649 (h 75 13 - 2147483648) := by rw [← e651]; exact Kq.up Kq.refl (by first | decide | omega)
    have k830 : Kq h h656 (h 75 13 - 2147483648) := by rw [← e658]; exact Kq.up k831 (by first | decide | omega)
    have k829 : Kq h h660 (h 75 13 - 2147483648) := by rw [← e662]; exact Kq.oth k830 (by decide)
    have k828 : Kq h h670 (h 75 13 - 2147483648) := Kq.fr k829 f672 (by first | decide | omega) (by decide)
    have q832 : h670 75 13 = h660 75 13 := jK 0 f672 rg_75_13_0_1 (by first | decide | omega) (by first | decide | omega) (by decide)
    have q833 : h660 75 13 = h656 75 13 := by rw [← e662]; exact x_up_i (by first | decide | omega)
    have q834 : h656 75 13 = h649 75 13 := by rw [← e658]; exact x_up_k (by decide)
    have q835 : h649 75 13 = h 75 13 := by rw [← e651]; exact x_up_k (by decide)
    have k827 : Kq h h747 (h 75 13 - 2147483648) := Kq.kp k828 c755 (by first | decide | omega)
    have k840 : Kl h h649 u3 := by rw [← e651]; exact Kl.up Kl.refl (by first | decide | omega)
    have k839 : Kl h h656 u3 := by rw [← e658]; exact Kl.up k840 (by first | decide | omega)
    have k838 : Kl h h660 u3 := by rw [← e662]; exact Kl.oth k839 (by decide)
    have k837 : Kl h h670 u3 := Kl.fr k838 f672 (by first | decide | omega) (by decide)
    have k836 : Kl h h747 u3 := Kl.kp k837 c755 (by first | decide | omega)
    have e842 : a1 - 2147483648 = u3 := by first | decide | omega
    have k841 : Kl h h747 (a1 - 2147483648) := by rw [e842]; exact k836
    have y843 := Is.yes c432 (by first | decide | omega)
    have q844 : h660 75 7 = h656 75 7 := by rw [← e662]; exact x_up_i (by first | decide | omega)
    have q845 : h656 75 7 = h649 75 7 := by rw [← e658]; exact x_up_k (by decide)
    have q846 : h649 75 7 = h 75 7 := by rw [← e651]; exact x_up_k (by decide)
    obtain ⟨w847, e848⟩ := Tk.yes c676 (by first | decide | omega)
    refine x_retI (np := 87) (x := 0) (by decide +kernel) (by decide) (Or.inr ⟨by decide +kernel, by first | decide | omega, by first | decide | omega⟩) ⟨_, rfl, (by decide), ?_⟩
    exact ⟨j748, f758, (by first | decide | omega), (fun z => by first | decide | omega), k827, k841, (fun z => absurd z (by first | decide | omega)), (gL_if (i := 21) (by decide) (Wd.of' (by decide) y843 hp0) rfl (congrArg (sk tB tN) ((show h660 75 7 = h 75 7 by first | decide | omega).trans y843.1)) w847 rfl e848 c757 rfl (by first | decide | omega) (fun z => absurd z (by first | decide | omega)))⟩
  have q436 : ¬ (v428 ≠ 2147483648) := q436
  refine x_const (np := 29) (x := 9223372039002259456) (a := 2147483648) (by decide +kernel) (by decide) (by decide) ?_
  have e850 : a1 - 2147483648 = u3 := by first | decide | omega
  have k849 : Kl h h (a1 - 2147483648) := by rw [e850]; exact Kl.refl
  refine x_retI (np := 30) (x := 0) (by decide +kernel) (by decide) (Or.inr ⟨by decide +kernel, by first | decide | omega, by first | decide | omega⟩) ⟨_, rfl, (by decide), ?_⟩
  exact ⟨hJ, hF, (by first | decide | omega), (fun z => by first | decide | omega), Kq.refl, k849, (fun z => absurd z (by first | decide | omega)), (gL_no (Wd.no (by decide) (Is.no c432 (by first | decide | omega)) hp0) rfl (Wd.no (by decide) (Is.no c10 (by first | decide | omega)) hp0) rfl (by first | decide | omega))⟩
set_option maxHeartbeats 0 in
/-- LentNamesModel.readAll(Z)I -/
theorem c194_75_c0 {sc : Nat × Nat} {d  : Nat} {h : xh} {tB : Nat → Nat} {tN : Nat} (hJ : J h) (hT : Tr tB tN h) : X sc 194 (d + 29) (xI fun r h' => J h' ∧ Fr 100139009 h h' ∧ (2147483647 ≤ r ∧ r ≤ 2147483658) ∧ (h' 75 6 = 2147483648) ∧ (2147483648 ≤ r → h' 78 0 = h 78 0) ∧ (2147483648 ≤ r → h' 78 1 = h 78 1) ∧ (2147483648 ≤ r → LnS (r - 2147483648) h') ∧ Cu tB tN (rn9 r)) 0 0 0 [x_r 75, iv_c 2147483648, 147573952589676412928] [] h := by
  have hF := Fr.refl 100139009 h
  refine x_aload (np := 1) (x := 0) (by decide +kernel) rfl (x_nc_le (by decide)) ?_
  refine x_aload (np := 2) (x := 0) (by decide +kernel) rfl (x_nc_le (by decide)) ?_
  have b1 := jB (e := 6) 0 hJ rg_75_6_0_1 (by first | decide | omega) (by first | decide | omega)
  refine x_getC (np := 5) (x := 710) (f := 6) (q := (h 75 6)) (by decide +kernel) (by decide) (by decide +kernel) rfl (fun l2 => ?_)
  refine x_putI (np := 8) (x := 712) (f := 8) (by decide +kernel) (by decide +kernel) l2 (Or.inl (by decide)) ?_
  have j4 := jU (e := 8) (v := (h 75 6)) 0 hJ rg_75_8_0_1 (by first | decide | omega) (by first | decide | omega) (by first | decide | omega)
  have f6 := jF (e := 8) (v := (h 75 6)) 0 hF rg_75_8_0_1 (by first | decide | omega) (by first | decide | omega) (by decide)
  generalize e5 : x_up h 75 8 (h 75 6) = h3 at j4 f6 ⊢
  refine x_aload (np := 9) (x := 0) (by decide +kernel) rfl (x_nc_le (by decide)) ?_
  refine x_const (np := 10) (x := 9223372039002259456) (a := 2147483648) (by decide +kernel) (by decide) (by decide) ?_
  refine x_putI (np := 13) (x := 710) (f := 6) (by decide +kernel) (by decide +kernel) (by decide) (Or.inl (by decide)) ?_
  have j8 := jU (e := 6) (v := 2147483648) 0 j4 rg_75_6_0_1 (by first | decide | omega) (by first | decide | omega) (by first | decide | omega)
  have f10 := jF (e := 6) (v := 2147483648) 0 f6 rg_75_6_0_1 (by first | decide | omega) (by first | decide | omega) (by decide)
  generalize e9 : x_up h3 75 6 2147483648 = h7 at j8 f10 ⊢
  refine x_aload (np := 14) (x := 0) (by decide +kernel) rfl (x_nc_le (by decide)) ?_
  refine x_const (np := 15) (x := 9223372039002259456) (a := 2147483648) (by decide +kernel) (by decide) (by decide) ?_
  refine x_putI (np := 18) (x := 711) (f := 7) (by decide +kernel) (by decide +kernel) (by decide) (Or.inl (by decide)) ?_
  have j12 := jU (e := 7) (v := 2147483648) 0 j8 rg_75_7_0_1 (by first | decide | omega) (by first | decide | omega) (by first | decide | omega)
  have f14 := jF (e := 7) (v := 2147483648) 0 f10 rg_75_7_0_1 (by first | decide | omega) (by first | decide | omega) (by decide)
  generalize e13 : x_up h7 75 7 2147483648 = h11 at j12 f14 ⊢
  refine x_aload (np := 19) (x := 0) (by decide +kernel) rfl (x_nc_le (by decide)) ?_
  refine x_const (np := 20) (x := 9223372039002259456) (a := 2147483648) (by decide +kernel) (by decide) (by decide) ?_
  refine x_putI (np := 23) (x := 717) (f := 13) (by decide +kernel) (by decide +kernel) (by decide) (Or.inl (by decide)) ?_
  have j16 := jU (e := 13) (v := 2147483648) 0 j12 rg_75_13_0_1 (by first | decide | omega) (by first | decide | omega) (by first | decide | omega)
  have f18 := jF (e := 13) (v := 2147483648) 0 f14 rg_75_13_0_1 (by first | decide | omega) (by first | decide | omega) (by decide)
  generalize e17 : x_up h11 75 13 2147483648 = h15 at j16 f18 ⊢
  refine x_aload (np := 24) (x := 0) (by decide +kernel) rfl (x_nc_le (by decide)) ?_
  have m25 : Tq tB tN h3 := by rw [← e5]; exact Tr.tq hT (by first | decide | omega)
  have m24 : Tq tB tN h7 := by rw [← e9]; exact Tq.oth m25 (by decide) (by decide)
  have m23 : Tq tB tN h11 := by rw [← e13]; exact Tq.oth m24 (by decide) (by decide)
  have m22 : Tq tB tN h15 := by rw [← e17]; exact Tq.oth m23 (by decide) (by decide)
  refine x_cV (t := 6) (mj := 168) (n := 1) (rc := 12) (ml := 1) (nr := 0) (np := 27) (as := [x_r 75]) (rest := []) (lo1 := [x_r 75]) (by decide +kernel) (by decide) (by decide +kernel) (x_rb_of (by decide +kernel)) rfl rfl (x_wr (by decide) x_wn) x_wn (by decide) rfl (c168_75 j16  m22) (fun h26 q21 => ?_)
  obtain ⟨j27, f28, c31, c32, c33⟩ := q21
  have f34 := Fr.trans f18 f28 (by decide)
  have q35 : h15 75 7 = h11 75 7 := by rw [← e17]; exact x_up_i (by first | decide | omega)
  have q36 : h11 75 7 = 2147483648 := by rw [← e13]; exact x_up_at
  have b37 := jB (e := 7) 0 j27 rg_75_7_0_1 (by first | decide | omega) (by first | decide | omega)
  have b38 := jB (e := 9) 0 j27 rg_75_9_0_1 (by first | decide | omega) (by first | decide | omega)
  refine x_aload (np := 28) (x := 0) (by decide +kernel) rfl (x_nc_le (by decide)) ?_
  refine x_getC (np := 31) (x := 711) (f := 7) (q := (h26 75 7)) (by decide +kernel) (by decide) (by decide +kernel) rfl (fun l39 => ?_)
  refine x_aload (np := 32) (x := 0) (by decide +kernel) rfl (x_nc_le (by decide)) ?_
  have q40 : h26 75 8 = h15 75 8 := jK 0 f28 rg_75_8_0_1 (by first | decide | omega) (by first | decide | omega) (by decide)
  have q41 : h15 75 8 = h11 75 8 := by rw [← e17]; exact x_up_i (by first | decide | omega)
  have q42 : h11 75 8 = h7 75 8 := by rw [← e13]; exact x_up_i (by first | decide | omega)
  have q43 : h7 75 8 = h3 75 8 := by rw [← e9]; exact x_up_i (by first | decide | omega)
  have q44 : h3 75 8 = (h 75 6) := by rw [← e5]; exact x_up_at
  refine x_getC (np := 35) (x := 712) (f := 8) (q := (h 75 6)) (by decide +kernel) (by decide) (by decide +kernel) ((((q40.trans q41).trans q42).trans q43).trans q44) (fun l45 => ?_)
  refine x_icmp (k := 1) (tg := 40) (np := 38) (by decide +kernel) (by decide) l39 l2 (fun q46 => ?_) (fun q47 => ?_)
  · have q46 : (h26 75 7) ≠ (h 75 6) := q46
    refine x_const (np := 41) (x := 9223372039002259456) (a := 2147483648) (by decide +kernel) (by decide) (by decide) ?_
    refine x_istore (np := 42) (x := 2) (lo' := [x_r 75, iv_c 2147483648, iv_c 2147483648]) (by decide +kernel) (by decide) (Nat.le_of_ble_eq_true rfl) rfl ?_
    have p1341 : ∀ (n : Nat) (v1336 : Nat) (h1338 : xh), 4294967296 - v1336 < n → (2147483648 ≤ v1336 ∧ v1336 ≤ 2147483658) → h1338 75 13 ≤ h1338 75 7 → J h1338 → Fr 97517569 h26 h1338 → LnS (v1336 - 2147483648) h1338 → Lq tB tN v1336 (sk tB tN (h1338 75 7)) → X sc 194 (d + 29) (xI fun r h' => J h' ∧ Fr 100139009 h h' ∧ (2147483647 ≤ r ∧ r ≤ 2147483658) ∧ (h' 75 6 = 2147483648) ∧ (2147483648 ≤ r → h' 78 0 = h 78 0) ∧ (2147483648 ≤ r → h' 78 1 = h 78 1) ∧ (2147483648 ≤ r → LnS (r - 2147483648) h') ∧ Cu tB tN (rn9 r)) 0 0 42 [x_r 75, iv_c 2147483648, iv_c v1336] [] h1338 := by
      intro n
      induction n with
      | zero => intro v1336 h1338 q1345; exact absurd q1345 (Nat.not_lt_zero _)
      | succ n i1346 =>
        intro v1336 h1338 q1345 b1337 b1342 j1340 f1339 m1343 m1344
        have f1347 := Fr.trans f34 f1339 (by decide)
        refine x_aload (np := 43) (x := 0) (by decide +kernel) rfl (x_nc_le (by decide)) ?_
        have m1352 := Tq.fr m22 f28 (by decide) (by decide)
        have m1351 := Tq.fr m1352 f1339 (by decide) (by decide)
        refine x_cV (t := 6) (mj := 169) (n := 1) (rc := 12) (ml := 1) (nr := 0) (np := 46) (as := [x_r 75]) (rest := []) (lo1 := [x_r 75]) (by decide +kernel) (by decide) (by decide +kernel) (x_rb_of (by decide +kernel)) rfl rfl (x_wr (by decide) x_wn) x_wn (by decide) rfl (c169_75 j1340  m1351) (fun h1353 q1350 => ?_)
        obtain ⟨j1354, f1355, c1358, c1359, c1360, c1361⟩ := q1350
        have f1362 := Fr.trans f1347 f1355 (by decide)
        have f1363 := Fr.trans f1339 f1355 (by decide)
        have b1364 := jB (e := 7) 0 j1340 rg_75_7_0_1 (by first | decide | omega) (by first | decide | omega)
        have b1365 := jB (e := 9) 0 j1354 rg_75_9_0_1 (by first | decide | omega) (by first | decide | omega)
        have b1366 := jB (e := 7) 0 j1354 rg_75_7_0_1 (by first | decide | omega) (by first | decide | omega)
        refine x_iload (np := 47) (x := 2) (by decide +kernel) rfl (by first | decide | omega) ?_
        refine x_iload (np := 48) (x := 1) (by decide +kernel) rfl (by decide) ?_
        refine x_ifz (k := 0) (tg := 56) (np := 51) (by decide +kernel) (by decide) (by decide) (fun q1367 => ?_) (fun q1368 => ?_)
        · have q1367 : 2147483648 = 2147483648 := q1367
          refine x_const (np := 58) (x := 9223372081951932426) (a := 2147483658) (by decide +kernel) (by decide) (by decide) ?_
          refine x_icmp (k := 0) (tg := 83) (np := 61) (by decide +kernel) (by decide) (by first | decide | omega) (by decide) (fun q1369 => ?_) (fun q1370 => ?_)
          · have q1369 : v1336 = 2147483658 := q1369
            refine x_const (np := 84) (x := 9223372034707292159) (a := 2147483647) (by decide +kernel) (by decide) (by decide) ?_
            have q1371 : h1353 75 6 = h1338 75 6 := jK 0 f1355 rg_75_6_0_1 (by first | decide | omega) (by first | decide | omega) (by decide)
            have q1372 : h1338 75 6 = h26 75 6 := jK 0 f1339 rg_75_6_0_1 (by first | decide | omega) (by first | decide | omega) (by decide)
            have q1373 : h26 75 6 = h15 75 6 := jK 0 f28 rg_75_6_0_1 (by first | decide | omega) (by first | decide | omega) (by decide)
            have q1374 : h15 75 6 = h11 75 6 := by rw [← e17]; exact x_up_i (by first | decide | omega)
            have q1375 : h11 75 6 = h7 75 6 := by rw [← e13]; exact x_up_i (by first | decide | omega)
            have q1376 : h7 75 6 = 2147483648 := by rw [← e9]; exact x_up_at
            have b1377 := jB (e := 0) 0 hJ rg_78_0_0_1 (by first | decide | omega) (by first | decide | omega)
            have q1378 : h1353 78 0 = h1338 78 0 := jK 0 f1355 rg_78_0_0_1 (by first | decide | omega) (by first | decide | omega) (by decide)
            have q1379 : h1338 78 0 = h26 78 0 := jK 0 f1339 rg_78_0_0_1 (by first | decide | omega) (by first | decide | omega) (by decide)
            have q1380 : h26 78 0 = h15 78 0 := jK 0 f28 rg_78_0_0_1 (by first | decide | omega) (by first | decide | omega) (by decide)
            have q1381 : h15 78 0 = h11 78 0 := by rw [← e17]; exact x_up_k (by decide)
            have q1382 : h11 78 0 = h7 78 0 := by rw [← e13]; exact x_up_k (by decide)
            have q1383 : h7 78 0 = h3 78 0 := by rw [← e9]; exact x_up_k (by decide)
            have q1384 : h3 78 0 = h 78 0 := by rw [← e5]; exact x_up_k (by decide)
            have q1385 : h1353 78 1 = h1338 78 1 := jK 0 f1355 rg_78_1_0_1 (by first | decide | omega) (by first | decide | omega) (by decide)
            have q1386 : h1338 78 1 = h26 78 1 := jK 0 f1339 rg_78_1_0_1 (by first | decide | omega) (by first | decide | omega) (by decide)
            have q1387 : h26 78 1 = h15 78 1 := jK 0 f28 rg_78_1_0_1 (by first | decide | omega) (by first | decide | omega) (by decide)
            have q1388 : h15 78 1 = h11 78 1 := by rw [← e17]; exact x_up_k (by decide)
            have q1389 : h11 78 1 = h7 78 1 := by rw [← e13]; exact x_up_k (by decide)
            have q1390 : h7 78 1 = h3 78 1 := by rw [← e9]; exact x_up_k (by decide)
            have q1391 : h3 78 1 = h 78 1 := by rw [← e5]; exact x_up_k (by decide)
            refine x_retI (np := 85) (x := 0) (by decide +kernel) (by decide) (Or.inl (by decide +kernel)) ⟨_, rfl, (by decide), ?_⟩
            exact ⟨j1354, f1362, (by first | decide | omega), (by first | decide | omega), (fun z => by first | decide | omega), (fun z => by first | decide | omega), (fun z => absurd z (by first | decide | omega)), (Cu.rn0 (by first | decide | omega) (Lq.full m1344 (by first | decide | omega)))⟩
          have q1370 : ¬ (v1336 = 2147483658) := q1370
          refine x_iload (np := 62) (x := 1) (by decide +kernel) rfl (by decide) ?_
          refine x_ifz (k := 0) (tg := 75) (np := 65) (by decide +kernel) (by decide) (by decide) (fun q1392 => ?_) (fun q1393 => ?_)
          · have q1392 : 2147483648 = 2147483648 := q1392
            refine x_aload (np := 76) (x := 0) (by decide +kernel) rfl (x_nc_le (by decide)) ?_
            refine x_iload (np := 77) (x := 2) (by decide +kernel) rfl (by first | decide | omega) ?_
            have q1394 : h1353 75 13 = h1338 75 13 := jK 0 f1355 rg_75_13_0_1 (by first | decide | omega) (by first | decide | omega) (by decide)
            have b1395 := jB (e := 13) 0 j1340 rg_75_13_0_1 (by first | decide | omega) (by first | decide | omega)
            have m1399 := Tq.fr m1351 f1355 (by decide) (by decide)
            refine x_cI (t := 6) (mj := 193) (n := 2) (rc := 12) (ml := 3) (nr := 0) (np := 80) (as := [x_r 75, iv_c v1336]) (rest := []) (lo1 := [x_r 75, iv_c v1336, 147573952589676412928]) (by decide +kernel) (by decide) (by decide +kernel) (x_rb_of (by decide +kernel)) rfl rfl (x_wr (by decide) (x_wi (by first | decide | omega) x_wn)) x_wn (by decide) rfl (c193_75 j1354  (by first | decide | omega) (by first | decide | omega) m1399 c1361) (fun v1396 h1400 l1397 q1398 => ?_)
            obtain ⟨j1401, f1402, b1403, c1404, c1405, c1406, c1407, c1408⟩ := q1398
            have f1409 := Fr.trans f1362 f1402 (by decide)
            have f1410 := Fr.trans f1363 f1402 (by decide)
            have b1411 := jB (e := 13) 0 j1401 rg_75_13_0_1 (by first | decide | omega) (by first | decide | omega)
            have b1412 := jB (e := 7) 0 j1401 rg_75_7_0_1 (by first | decide | omega) (by first | decide | omega)
            refine x_ifz (k := 1) (tg := 85) (np := 83) (by decide +kernel) (by decide) l1397 (fun q1413 => ?_) (fun q1414 => ?_)
            · have q1413 : v1396 ≠ 2147483648 := q1413
              have b1415 := c1404 (by first | decide | omega)
              obtain ⟨u1416, q1417⟩ : ∃ z, v1336 = 2147483648 + z := ⟨v1336 - 2147483648, by first | decide | omega⟩
              have m1420 : LnS (v1336 - 2147483648) h1353 := LnS.fr m1343 j1340 f1355 (by first | decide | omega) (by decide) (by decide)
              obtain ⟨g1419a, g1419b, g1419c⟩ := c1407 (by first | decide | omega)
              have m1418 : LnS (v1336 - 2147483648 + 1) h1400 := LnS.step m1420 c1406 c1405 g1419a g1419b g1419c
              refine x_aload (np := 86) (x := 0) (by decide +kernel) rfl (x_nc_le (by decide)) ?_
              have m1424 := Tq.fr m1399 f1402 (by decide) (by decide)
              refine x_cV (t := 6) (mj := 168) (n := 1) (rc := 12) (ml := 1) (nr := 0) (np := 89) (as := [x_r 75]) (rest := []) (lo1 := [x_r 75]) (by decide +kernel) (by decide) (by decide +kernel) (x_rb_of (by decide +kernel)) rfl rfl (x_wr (by decide) x_wn) x_wn (by decide) rfl (c168_75 j1401  m1424) (fun h1425 q1423 => ?_)
              obtain ⟨j1426, f1427, c1430, c1431, c1432⟩ := q1423
              have f1433 := Fr.trans f1409 f1427 (by decide)
              have f1434 := Fr.trans f1410 f1427 (by decide)
              have b1435 := jB (e := 7) 0 j1426 rg_75_7_0_1 (by first | decide | omega) (by first | decide | omega)
              have b1436 := jB (e := 9) 0 j1426 rg_75_9_0_1 (by first | decide | omega) (by first | decide | omega)
              refine x_aload (np := 90) (x := 0) (by decide +kernel) rfl (x_nc_le (by decide)) ?_
              refine x_getC (np := 93) (x := 711) (f := 7) (q := (h1425 75 7)) (by decide +kernel) (by decide) (by decide +kernel) rfl (fun l1437 => ?_)
              refine x_aload (np := 94) (x := 0) (by decide +kernel) rfl (x_nc_le (by decide)) ?_
              have q1438 : h1425 75 8 = h1400 75 8 := jK 0 f1427 rg_75_8_0_1 (by first | decide | omega) (by first | decide | omega) (by decide)
              have q1439 : h1400 75 8 = h1353 75 8 := jK 0 f1402 rg_75_8_0_1 (by first | decide | omega) (by first | decide | omega) (by decide)
              have q1440 : h1353 75 8 = h1338 75 8 := jK 0 f1355 rg_75_8_0_1 (by first | decide | omega) (by first | decide | omega) (by decide)
              have q1441 : h1338 75 8 = h26 75 8 := jK 0 f1339 rg_75_8_0_1 (by first | decide | omega) (by first | decide | omega) (by decide)
              have q1442 : h26 75 8 = h15 75 8 := jK 0 f28 rg_75_8_0_1 (by first | decide | omega) (by first | decide | omega) (by decide)
              have q1443 : h15 75 8 = h11 75 8 := by rw [← e17]; exact x_up_i (by first | decide | omega)
              have q1444 : h11 75 8 = h7 75 8 := by rw [← e13]; exact x_up_i (by first | decide | omega)
              have q1445 : h7 75 8 = h3 75 8 := by rw [← e9]; exact x_up_i (by first | decide | omega)
              have q1446 : h3 75 8 = (h 75 6) := by rw [← e5]; exact x_up_at
              refine x_getC (np := 97) (x := 712) (f := 8) (q := (h 75 6)) (by decide +kernel) (by decide) (by decide +kernel) ((((((((q1438.trans q1439).trans q1440).trans q1441).trans q1442).trans q1443).trans q1444).trans q1445).trans q1446) (fun l1447 => ?_)
              refine x_icmp (k := 1) (tg := 104) (np := 100) (by decide +kernel) (by decide) l1437 l2 (fun q1448 => ?_) (fun q1449 => ?_)
              · have q1448 : (h1425 75 7) ≠ (h 75 6) := q1448
                refine x_aload (np := 105) (x := 0) (by decide +kernel) rfl (x_nc_le (by decide)) ?_
                refine x_const (np := 107) (x := 9223372292405329979) (a := 2147483707) (by decide +kernel) (by decide) (by decide) ?_
                refine x_const (np := 109) (x := 9223372292405329979) (a := 2147483707) (by decide +kernel) (by decide) (by decide) ?_
                refine x_nI (t := 6) (mj := 167) (n := 3) (rc := 12) (ml := 3) (nr := 0) (np := 112) (as := [x_r 75, iv_c 2147483707, iv_c 2147483707]) (rest := []) (lo1 := [x_r 75, iv_c 2147483707, iv_c 2147483707]) (by decide +kernel) (by decide) (by decide +kernel) (x_rb_of (by decide +kernel)) rfl rfl (x_wr (by decide) (x_wi (by decide) (x_wi (by decide) x_wn))) x_wn (by decide) rfl ?_
                refine x_aload (np := 1) (x := 0) (by decide +kernel) rfl (x_nc_le (by decide)) ?_
                refine x_getC (np := 4) (x := 711) (f := 7) (q := (h1425 75 7)) (by decide +kernel) (by decide) (by decide +kernel) rfl (fun l1450 => ?_)
                refine x_aload (np := 5) (x := 0) (by decide +kernel) rfl (x_nc_le (by decide)) ?_
                have q1451 : h1425 75 8 = h1400 75 8 := jK 0 f1427 rg_75_8_0_1 (by first | decide | omega) (by first | decide | omega) (by decide)
                have q1452 : h1400 75 8 = h1353 75 8 := jK 0 f1402 rg_75_8_0_1 (by first | decide | omega) (by first | decide | omega) (by decide)
                have q1453 : h1353 75 8 = h1338 75 8 := jK 0 f1355 rg_75_8_0_1 (by first | decide | omega) (by first | decide | omega) (by decide)
                have q1454 : h1338 75 8 = h26 75 8 := jK 0 f1339 rg_75_8_0_1 (by first | decide | omega) (by first | decide | omega) (by decide)
                have q1455 : h26 75 8 = h15 75 8 := jK 0 f28 rg_75_8_0_1 (by first | decide | omega) (by first | decide | omega) (by decide)
                have q1456 : h15 75 8 = h11 75 8 := by rw [← e17]; exact x_up_i (by first | decide | omega)
                have q1457 : h11 75 8 = h7 75 8 := by rw [← e13]; exact x_up_i (by first | decide | omega)
                have q1458 : h7 75 8 = h3 75 8 := by rw [← e9]; exact x_up_i (by first | decide | omega)
                have q1459 : h3 75 8 = (h 75 6) := by rw [← e5]; exact x_up_at
                refine x_getC (np := 8) (x := 712) (f := 8) (q := (h 75 6)) (by decide +kernel) (by decide) (by decide +kernel) ((((((((q1451.trans q1452).trans q1453).trans q1454).trans q1455).trans q1456).trans q1457).trans q1458).trans q1459) (fun l1460 => ?_)
                refine x_icmp (k := 3) (tg := 41) (np := 11) (by decide +kernel) (by decide) l1437 l2 (fun q1461 => ?_) (fun q1462 => ?_)
                · have q1461 : (h 75 6) ≤ (h1425 75 7) := q1461
                  refine x_const (np := 42) (x := 9223372039002259456) (a := 2147483648) (by decide +kernel) (by decide) (by decide) ?_
                  refine x_retI (np := 43) (x := 0) (by decide +kernel) (by decide) (Or.inr ⟨by decide +kernel, by first | decide | omega, by first | decide | omega⟩) ⟨_, rfl, (by decide), ?_⟩
                  refine x_ifz (k := 1) (tg := 117) (np := 115) (by decide +kernel) (by decide) (by decide) (fun q1463 => ?_) (fun q1464 => ?_)
                  · have q1463 : 2147483648 ≠ 2147483648 := q1463
                    exfalso; omega
                  have q1464 : ¬ (2147483648 ≠ 2147483648) := q1464
                  refine x_const (np := 116) (x := 9223372034707292159) (a := 2147483647) (by decide +kernel) (by decide) (by decide) ?_
                  have q1465 : h1425 75 6 = h1400 75 6 := jK 0 f1427 rg_75_6_0_1 (by first | decide | omega) (by first | decide | omega) (by decide)
                  have q1466 : h1400 75 6 = h1353 75 6 := jK 0 f1402 rg_75_6_0_1 (by first | decide | omega) (by first | decide | omega) (by decide)
                  have q1467 : h1353 75 6 = h1338 75 6 := jK 0 f1355 rg_75_6_0_1 (by first | decide | omega) (by first | decide | omega) (by decide)
                  have q1468 : h1338 75 6 = h26 75 6 := jK 0 f1339 rg_75_6_0_1 (by first | decide | omega) (by first | decide | omega) (by decide)
                  have q1469 : h26 75 6 = h15 75 6 := jK 0 f28 rg_75_6_0_1 (by first | decide | omega) (by first | decide | omega) (by decide)
                  have q1470 : h15 75 6 = h11 75 6 := by rw [← e17]; exact x_up_i (by first | decide | omega)
                  have q1471 : h11 75 6 = h7 75 6 := by rw [← e13]; exact x_up_i (by first | decide | omega)
                  have q1472 : h7 75 6 = 2147483648 := by rw [← e9]; exact x_up_at
                  have b1473 := jB (e := 0) 0 hJ rg_78_0_0_1 (by first | decide | omega) (by first | decide | omega)
                  have q1474 : h1425 78 0 = h1400 78 0 := jK 0 f1427 rg_78_0_0_1 (by first | decide | omega) (by first | decide | omega) (by decide)
                  have q1475 : h1400 78 0 = h1353 78 0 := jK 0 f1402 rg_78_0_0_1 (by first | decide | omega) (by first | decide | omega) (by decide)
                  have q1476 : h1353 78 0 = h1338 78 0 := jK 0 f1355 rg_78_0_0_1 (by first | decide | omega) (by first | decide | omega) (by decide)
                  have q1477 : h1338 78 0 = h26 78 0 := jK 0 f1339 rg_78_0_0_1 (by first | decide | omega) (by first | decide | omega) (by decide)
                  have q1478 : h26 78 0 = h15 78 0 := jK 0 f28 rg_78_0_0_1 (by first | decide | omega) (by first | decide | omega) (by decide)
                  have q1479 : h15 78 0 = h11 78 0 := by rw [← e17]; exact x_up_k (by decide)
                  have q1480 : h11 78 0 = h7 78 0 := by rw [← e13]; exact x_up_k (by decide)
                  have q1481 : h7 78 0 = h3 78 0 := by rw [← e9]; exact x_up_k (by decide)
                  have q1482 : h3 78 0 = h 78 0 := by rw [← e5]; exact x_up_k (by decide)
                  have q1483 : h1425 78 1 = h1400 78 1 := jK 0 f1427 rg_78_1_0_1 (by first | decide | omega) (by first | decide | omega) (by decide)
                  have q1484 : h1400 78 1 = h1353 78 1 := jK 0 f1402 rg_78_1_0_1 (by first | decide | omega) (by first | decide | omega) (by decide)
                  have q1485 : h1353 78 1 = h1338 78 1 := jK 0 f1355 rg_78_1_0_1 (by first | decide | omega) (by first | decide | omega) (by decide)
                  have q1486 : h1338 78 1 = h26 78 1 := jK 0 f1339 rg_78_1_0_1 (by first | decide | omega) (by first | decide | omega) (by decide)
                  have q1487 : h26 78 1 = h15 78 1 := jK 0 f28 rg_78_1_0_1 (by first | decide | omega) (by first | decide | omega) (by decide)
                  have q1488 : h15 78 1 = h11 78 1 := by rw [← e17]; exact x_up_k (by decide)
                  have q1489 : h11 78 1 = h7 78 1 := by rw [← e13]; exact x_up_k (by decide)
                  have q1490 : h7 78 1 = h3 78 1 := by rw [← e9]; exact x_up_k (by decide)
                  have q1491 : h3 78 1 = h 78 1 := by rw [← e5]; exact x_up_k (by decide)
                  have q1492 : h1425 75 8 = h1400 75 8 := jK 0 f1427 rg_75_8_0_1 (by first | decide | omega) (by first | decide | omega) (by decide)
                  have q1493 : h1400 75 8 = h1353 75 8 := jK 0 f1402 rg_75_8_0_1 (by first | decide | omega) (by first | decide | omega) (by decide)
                  have q1494 : h1353 75 8 = h1338 75 8 := jK 0 f1355 rg_75_8_0_1 (by first | decide | omega) (by first | decide | omega) (by decide)
                  have q1495 : h1338 75 8 = h26 75 8 := jK 0 f1339 rg_75_8_0_1 (by first | decide | omega) (by first | decide | omega) (by decide)
                  have q1496 : h26 75 8 = h15 75 8 := jK 0 f28 rg_75_8_0_1 (by first | decide | omega) (by first | decide | omega) (by decide)
                  have q1497 : h15 75 8 = h11 75 8 := by rw [← e17]; exact x_up_i (by first | decide | omega)
                  have q1498 : h11 75 8 = h7 75 8 := by rw [← e13]; exact x_up_i (by first | decide | omega)
                  have q1499 : h7 75 8 = h3 75 8 := by rw [← e9]; exact x_up_i (by first | decide | omega)
                  have q1500 : h3 75 8 = (h 75 6) := by rw [← e5]; exact x_up_at
                  have m1502 := Tq.fr m1424 f1427 (by decide) (by decide)
                  have z1501 := m1502.1
                  have z1503 := (Eq.trans c1432 (congrArg (sk tB tN) (show h1400 75 7 = h1400 75 7 by first | decide | omega)))
                  refine x_retI (np := 117) (x := 0) (by decide +kernel) (by decide) (Or.inl (by decide +kernel)) ⟨_, rfl, (by decide), ?_⟩
                  exact ⟨j1426, f1433, (by first | decide | omega), (by first | decide | omega), (fun z => by first | decide | omega), (fun z => by first | decide | omega), (fun z => absurd z (by first | decide | omega)), (Cu.rn0 (by first | decide | omega) (Lq.bad m1344 (by first | decide | omega) c1408 c1360 (by first | decide | omega) (by first | decide | omega) (p2 := h1425 75 7) (fun z => by have z1 := z.1; have z2 := z.2; omega) (Eq.trans c1432 (congrArg (sk tB tN) (show h1400 75 7 = h1400 75 7 by first | decide | omega)))))⟩
                have q1462 : ¬ ((h 75 6) ≤ (h1425 75 7)) := q1462
                refine x_aload (np := 12) (x := 0) (by decide +kernel) rfl (x_nc_le (by decide)) ?_
                have q1504 : h1425 75 5 = 79 := by have z := jB (e := 5) 0 j1426 rg_75_5_0_1 (by decide) (by decide); omega
                refine x_getR (np := 15) (x := 709) (f := 5) (q := 79) (by decide +kernel) (by decide) (by decide +kernel) q1504 ?_
                refine x_aload (np := 16) (x := 0) (by decide +kernel) rfl (x_nc_le (by decide)) ?_
                refine x_getC (np := 19) (x := 711) (f := 7) (q := (h1425 75 7)) (by decide +kernel) (by decide) (by decide +kernel) rfl (fun l1505 => ?_)
                obtain ⟨u1506, q1507⟩ : ∃ z, (h1425 75 7) = 2147483648 + z := ⟨(h1425 75 7) - 2147483648, by first | decide | omega⟩
                have q1508 : h1425 79 u1506 = h1400 79 u1506 := jK u1506 f1427 rg_79_0_1_400 (by first | decide | omega) (by first | decide | omega) (by decide)
                have q1509 : h1400 79 u1506 = h1353 79 u1506 := jK u1506 f1402 rg_79_0_1_400 (by first | decide | omega) (by first | decide | omega) (by decide)
                have q1510 : h1353 79 u1506 = h1338 79 u1506 := jK u1506 f1355 rg_79_0_1_400 (by first | decide | omega) (by first | decide | omega) (by decide)
                have q1511 : h1338 79 u1506 = h26 79 u1506 := jK u1506 f1339 rg_79_0_1_400 (by first | decide | omega) (by first | decide | omega) (by decide)
                have q1512 : h26 79 u1506 = h15 79 u1506 := jK u1506 f28 rg_79_0_1_400 (by first | decide | omega) (by first | decide | omega) (by decide)
                have q1513 : h15 79 u1506 = h11 79 u1506 := by rw [← e17]; exact x_up_k (by decide)
                have q1514 : h11 79 u1506 = h7 79 u1506 := by rw [← e13]; exact x_up_k (by decide)
                have q1515 : h7 79 u1506 = h3 79 u1506 := by rw [← e9]; exact x_up_k (by decide)
                have q1516 : h3 79 u1506 = h 79 u1506 := by rw [← e5]; exact x_up_k (by decide)
                have b1517 := jB (e := u1506) u1506 hJ rg_79_0_1_400 (by first | decide | omega) (by first | decide | omega)
                refine x_baldC (np := 20) (x := 0) (n := 400) (i := u1506) (q := (h 79 u1506)) (by decide +kernel) (by decide +kernel) (by first | decide | omega) (by first | decide | omega) (by decide) ((((((((q1508.trans q1509).trans q1510).trans q1511).trans q1512).trans q1513).trans q1514).trans q1515).trans q1516) (fun l1518 => ?_)
                refine x_iload (np := 21) (x := 1) (by decide +kernel) rfl (by decide) ?_
                refine x_icmp (k := 2) (tg := 41) (np := 24) (by decide +kernel) (by decide) l1518 (by decide) (fun q1519 => ?_) (fun q1520 => ?_)
                · have q1519 : (h 79 u1506) < 2147483707 := q1519
                  refine x_const (np := 42) (x := 9223372039002259456) (a := 2147483648) (by decide +kernel) (by decide) (by decide) ?_
                  refine x_retI (np := 43) (x := 0) (by decide +kernel) (by decide) (Or.inr ⟨by decide +kernel, by first | decide | omega, by first | decide | omega⟩) ⟨_, rfl, (by decide), ?_⟩
                  refine x_ifz (k := 1) (tg := 117) (np := 115) (by decide +kernel) (by decide) (by decide) (fun q1521 => ?_) (fun q1522 => ?_)
                  · have q1521 : 2147483648 ≠ 2147483648 := q1521
                    exfalso; omega
                  have q1522 : ¬ (2147483648 ≠ 2147483648) := q1522
                  refine x_const (np := 116) (x := 9223372034707292159) (a := 2147483647) (by decide +kernel) (by decide) (by decide) ?_
                  have q1523 : h1425 75 6 = h1400 75 6 := jK 0 f1427 rg_75_6_0_1 (by first | decide | omega) (by first | decide | omega) (by decide)
                  have q1524 : h1400 75 6 = h1353 75 6 := jK 0 f1402 rg_75_6_0_1 (by first | decide | omega) (by first | decide | omega) (by decide)
                  have q1525 : h1353 75 6 = h1338 75 6 := jK 0 f1355 rg_75_6_0_1 (by first | decide | omega) (by first | decide | omega) (by decide)
                  have q1526 : h1338 75 6 = h26 75 6 := jK 0 f1339 rg_75_6_0_1 (by first | decide | omega) (by first | decide | omega) (by decide)
                  have q1527 : h26 75 6 = h15 75 6 := jK 0 f28 rg_75_6_0_1 (by first | decide | omega) (by first | decide | omega) (by decide)
                  have q1528 : h15 75 6 = h11 75 6 := by rw [← e17]; exact x_up_i (by first | decide | omega)
                  have q1529 : h11 75 6 = h7 75 6 := by rw [← e13]; exact x_up_i (by first | decide | omega)
                  have q1530 : h7 75 6 = 2147483648 := by rw [← e9]; exact x_up_at
                  have b1531 := jB (e := 0) 0 hJ rg_78_0_0_1 (by first | decide | omega) (by first | decide | omega)
                  have q1532 : h1425 78 0 = h1400 78 0 := jK 0 f1427 rg_78_0_0_1 (by first | decide | omega) (by first | decide | omega) (by decide)
                  have q1533 : h1400 78 0 = h1353 78 0 := jK 0 f1402 rg_78_0_0_1 (by first | decide | omega) (by first | decide | omega) (by decide)
                  have q1534 : h1353 78 0 = h1338 78 0 := jK 0 f1355 rg_78_0_0_1 (by first | decide | omega) (by first | decide | omega) (by decide)
                  have q1535 : h1338 78 0 = h26 78 0 := jK 0 f1339 rg_78_0_0_1 (by first | decide | omega) (by first | decide | omega) (by decide)
                  have q1536 : h26 78 0 = h15 78 0 := jK 0 f28 rg_78_0_0_1 (by first | decide | omega) (by first | decide | omega) (by decide)
                  have q1537 : h15 78 0 = h11 78 0 := by rw [← e17]; exact x_up_k (by decide)
                  have q1538 : h11 78 0 = h7 78 0 := by rw [← e13]; exact x_up_k (by decide)
                  have q1539 : h7 78 0 = h3 78 0 := by rw [← e9]; exact x_up_k (by decide)
                  have q1540 : h3 78 0 = h 78 0 := by rw [← e5]; exact x_up_k (by decide)
                  have q1541 : h1425 78 1 = h1400 78 1 := jK 0 f1427 rg_78_1_0_1 (by first | decide | omega) (by first | decide | omega) (by decide)
                  have q1542 : h1400 78 1 = h1353 78 1 := jK 0 f1402 rg_78_1_0_1 (by first | decide | omega) (by first | decide | omega) (by decide)
                  have q1543 : h1353 78 1 = h1338 78 1 := jK 0 f1355 rg_78_1_0_1 (by first | decide | omega) (by first | decide | omega) (by decide)
                  have q1544 : h1338 78 1 = h26 78 1 := jK 0 f1339 rg_78_1_0_1 (by first | decide | omega) (by first | decide | omega) (by decide)
                  have q1545 : h26 78 1 = h15 78 1 := jK 0 f28 rg_78_1_0_1 (by first | decide | omega) (by first | decide | omega) (by decide)
                  have q1546 : h15 78 1 = h11 78 1 := by rw [← e17]; exact x_up_k (by decide)
                  have q1547 : h11 78 1 = h7 78 1 := by rw [← e13]; exact x_up_k (by decide)
                  have q1548 : h7 78 1 = h3 78 1 := by rw [← e9]; exact x_up_k (by decide)
                  have q1549 : h3 78 1 = h 78 1 := by rw [← e5]; exact x_up_k (by decide)
                  have q1550 : h1425 75 8 = h1400 75 8 := jK 0 f1427 rg_75_8_0_1 (by first | decide | omega) (by first | decide | omega) (by decide)
                  have q1551 : h1400 75 8 = h1353 75 8 := jK 0 f1402 rg_75_8_0_1 (by first | decide | omega) (by first | decide | omega) (by decide)
                  have q1552 : h1353 75 8 = h1338 75 8 := jK 0 f1355 rg_75_8_0_1 (by first | decide | omega) (by first | decide | omega) (by decide)
                  have q1553 : h1338 75 8 = h26 75 8 := jK 0 f1339 rg_75_8_0_1 (by first | decide | omega) (by first | decide | omega) (by decide)
                  have q1554 : h26 75 8 = h15 75 8 := jK 0 f28 rg_75_8_0_1 (by first | decide | omega) (by first | decide | omega) (by decide)
                  have q1555 : h15 75 8 = h11 75 8 := by rw [← e17]; exact x_up_i (by first | decide | omega)
                  have q1556 : h11 75 8 = h7 75 8 := by rw [← e13]; exact x_up_i (by first | decide | omega)
                  have q1557 : h7 75 8 = h3 75 8 := by rw [← e9]; exact x_up_i (by first | decide | omega)
                  have q1558 : h3 75 8 = (h 75 6) := by rw [← e5]; exact x_up_at
                  have m1560 := Tq.fr m1424 f1427 (by decide) (by decide)
                  have z1559 := m1560.1
                  have q1561 : h1425 79 u1506 = h1400 79 u1506 := jK u1506 f1427 rg_79_0_1_400 (by first | decide | omega) (by first | decide | omega) (by decide)
                  have q1562 : h1400 79 u1506 = h1353 79 u1506 := jK u1506 f1402 rg_79_0_1_400 (by first | decide | omega) (by first | decide | omega) (by decide)
                  have q1563 : h1353 79 u1506 = h1338 79 u1506 := jK u1506 f1355 rg_79_0_1_400 (by first | decide | omega) (by first | decide | omega) (by decide)
                  have q1564 : h1338 79 u1506 = h26 79 u1506 := jK u1506 f1339 rg_79_0_1_400 (by first | decide | omega) (by first | decide | omega) (by decide)
                  have q1565 : h26 79 u1506 = h15 79 u1506 := jK u1506 f28 rg_79_0_1_400 (by first | decide | omega) (by first | decide | omega) (by decide)
                  have q1566 : h15 79 u1506 = h11 79 u1506 := by rw [← e17]; exact x_up_k (by decide)
                  have q1567 : h11 79 u1506 = h7 79 u1506 := by rw [← e13]; exact x_up_k (by decide)
                  have q1568 : h7 79 u1506 = h3 79 u1506 := by rw [← e9]; exact x_up_k (by decide)
                  have q1569 : h3 79 u1506 = h 79 u1506 := by rw [← e5]; exact x_up_k (by decide)
                  have z1570 := Tq.at (p := (h1425 75 7)) (u := u1506) m1560 (by first | decide | omega) (by first | decide | omega)
                  have z1571 := (Eq.trans c1432 (congrArg (sk tB tN) (show h1400 75 7 = h1400 75 7 by first | decide | omega)))
                  refine x_retI (np := 117) (x := 0) (by decide +kernel) (by decide) (Or.inl (by decide +kernel)) ⟨_, rfl, (by decide), ?_⟩
                  exact ⟨j1426, f1433, (by first | decide | omega), (by first | decide | omega), (fun z => by first | decide | omega), (fun z => by first | decide | omega), (fun z => absurd z (by first | decide | omega)), (Cu.rn0 (by first | decide | omega) (Lq.bad m1344 (by first | decide | omega) c1408 c1360 (by first | decide | omega) (by first | decide | omega) (p2 := h1425 75 7) (fun z => by have z1 := z.1; have z2 := z.2; omega) (Eq.trans c1432 (congrArg (sk tB tN) (show h1400 75 7 = h1400 75 7 by first | decide | omega)))))⟩
                have q1520 : ¬ ((h 79 u1506) < 2147483707) := q1520
                refine x_aload (np := 25) (x := 0) (by decide +kernel) rfl (x_nc_le (by decide)) ?_
                have q1572 : h1425 75 5 = 79 := by have z := jB (e := 5) 0 j1426 rg_75_5_0_1 (by decide) (by decide); omega
                refine x_getR (np := 28) (x := 709) (f := 5) (q := 79) (by decide +kernel) (by decide) (by decide +kernel) q1572 ?_
                refine x_aload (np := 29) (x := 0) (by decide +kernel) rfl (x_nc_le (by decide)) ?_
                refine x_getC (np := 32) (x := 711) (f := 7) (q := (h1425 75 7)) (by decide +kernel) (by decide) (by decide +kernel) rfl (fun l1573 => ?_)
                have q1574 : h1425 79 u1506 = h1400 79 u1506 := jK u1506 f1427 rg_79_0_1_400 (by first | decide | omega) (by first | decide | omega) (by decide)
                have q1575 : h1400 79 u1506 = h1353 79 u1506 := jK u1506 f1402 rg_79_0_1_400 (by first | decide | omega) (by first | decide | omega) (by decide)
                have q1576 : h1353 79 u1506 = h1338 79 u1506 := jK u1506 f1355 rg_79_0_1_400 (by first | decide | omega) (by first | decide | omega) (by decide)
                have q1577 : h1338 79 u1506 = h26 79 u1506 := jK u1506 f1339 rg_79_0_1_400 (by first | decide | omega) (by first | decide | omega) (by decide)
                have q1578 : h26 79 u1506 = h15 79 u1506 := jK u1506 f28 rg_79_0_1_400 (by first | decide | omega) (by first | decide | omega) (by decide)
                have q1579 : h15 79 u1506 = h11 79 u1506 := by rw [← e17]; exact x_up_k (by decide)
                have q1580 : h11 79 u1506 = h7 79 u1506 := by rw [← e13]; exact x_up_k (by decide)
                have q1581 : h7 79 u1506 = h3 79 u1506 := by rw [← e9]; exact x_up_k (by decide)
                have q1582 : h3 79 u1506 = h 79 u1506 := by rw [← e5]; exact x_up_k (by decide)
                refine x_baldC (np := 33) (x := 0) (n := 400) (i := u1506) (q := (h 79 u1506)) (by decide +kernel) (by decide +kernel) (by first | decide | omega) (by first | decide | omega) (by decide) ((((((((q1574.trans q1575).trans q1576).trans q1577).trans q1578).trans q1579).trans q1580).trans q1581).trans q1582) (fun l1583 => ?_)
                refine x_iload (np := 34) (x := 2) (by decide +kernel) rfl (by decide) ?_
                refine x_icmp (k := 4) (tg := 41) (np := 37) (by decide +kernel) (by decide) l1518 (by decide) (fun q1584 => ?_) (fun q1585 => ?_)
                · have q1584 : 2147483707 < (h 79 u1506) := q1584
                  refine x_const (np := 42) (x := 9223372039002259456) (a := 2147483648) (by decide +kernel) (by decide) (by decide) ?_
                  refine x_retI (np := 43) (x := 0) (by decide +kernel) (by decide) (Or.inr ⟨by decide +kernel, by first | decide | omega, by first | decide | omega⟩) ⟨_, rfl, (by decide), ?_⟩
                  refine x_ifz (k := 1) (tg := 117) (np := 115) (by decide +kernel) (by decide) (by decide) (fun q1586 => ?_) (fun q1587 => ?_)
                  · have q1586 : 2147483648 ≠ 2147483648 := q1586
                    exfalso; omega
                  have q1587 : ¬ (2147483648 ≠ 2147483648) := q1587
                  refine x_const (np := 116) (x := 9223372034707292159) (a := 2147483647) (by decide +kernel) (by decide) (by decide) ?_
                  have q1588 : h1425 75 6 = h1400 75 6 := jK 0 f1427 rg_75_6_0_1 (by first | decide | omega) (by first | decide | omega) (by decide)
                  have q1589 : h1400 75 6 = h1353 75 6 := jK 0 f1402 rg_75_6_0_1 (by first | decide | omega) (by first | decide | omega) (by decide)
                  have q1590 : h1353 75 6 = h1338 75 6 := jK 0 f1355 rg_75_6_0_1 (by first | decide | omega) (by first | decide | omega) (by decide)
                  have q1591 : h1338 75 6 = h26 75 6 := jK 0 f1339 rg_75_6_0_1 (by first | decide | omega) (by first | decide | omega) (by decide)
                  have q1592 : h26 75 6 = h15 75 6 := jK 0 f28 rg_75_6_0_1 (by first | decide | omega) (by first | decide | omega) (by decide)
                  have q1593 : h15 75 6 = h11 75 6 := by rw [← e17]; exact x_up_i (by first | decide | omega)
                  have q1594 : h11 75 6 = h7 75 6 := by rw [← e13]; exact x_up_i (by first | decide | omega)
                  have q1595 : h7 75 6 = 2147483648 := by rw [← e9]; exact x_up_at
                  have b1596 := jB (e := 0) 0 hJ rg_78_0_0_1 (by first | decide | omega) (by first | decide | omega)
                  have q1597 : h1425 78 0 = h1400 78 0 := jK 0 f1427 rg_78_0_0_1 (by first | decide | omega) (by first | decide | omega) (by decide)
                  have q1598 : h1400 78 0 = h1353 78 0 := jK 0 f1402 rg_78_0_0_1 (by first | decide | omega) (by first | decide | omega) (by decide)
                  have q1599 : h1353 78 0 = h1338 78 0 := jK 0 f1355 rg_78_0_0_1 (by first | decide | omega) (by first | decide | omega) (by decide)
                  have q1600 : h1338 78 0 = h26 78 0 := jK 0 f1339 rg_78_0_0_1 (by first | decide | omega) (by first | decide | omega) (by decide)
                  have q1601 : h26 78 0 = h15 78 0 := jK 0 f28 rg_78_0_0_1 (by first | decide | omega) (by first | decide | omega) (by decide)
                  have q1602 : h15 78 0 = h11 78 0 := by rw [← e17]; exact x_up_k (by decide)
                  have q1603 : h11 78 0 = h7 78 0 := by rw [← e13]; exact x_up_k (by decide)
                  have q1604 : h7 78 0 = h3 78 0 := by rw [← e9]; exact x_up_k (by decide)
                  have q1605 : h3 78 0 = h 78 0 := by rw [← e5]; exact x_up_k (by decide)
                  have q1606 : h1425 78 1 = h1400 78 1 := jK 0 f1427 rg_78_1_0_1 (by first | decide | omega) (by first | decide | omega) (by decide)
                  have q1607 : h1400 78 1 = h1353 78 1 := jK 0 f1402 rg_78_1_0_1 (by first | decide | omega) (by first | decide | omega) (by decide)
                  have q1608 : h1353 78 1 = h1338 78 1 := jK 0 f1355 rg_78_1_0_1 (by first | decide | omega) (by first | decide | omega) (by decide)
                  have q1609 : h1338 78 1 = h26 78 1 := jK 0 f1339 rg_78_1_0_1 (by first | decide | omega) (by first | decide | omega) (by decide)
                  have q1610 : h26 78 1 = h15 78 1 := jK 0 f28 rg_78_1_0_1 (by first | decide | omega) (by first | decide | omega) (by decide)
                  have q1611 : h15 78 1 = h11 78 1 := by rw [← e17]; exact x_up_k (by decide)
                  have q1612 : h11 78 1 = h7 78 1 := by rw [← e13]; exact x_up_k (by decide)
                  have q1613 : h7 78 1 = h3 78 1 := by rw [← e9]; exact x_up_k (by decide)
                  have q1614 : h3 78 1 = h 78 1 := by rw [← e5]; exact x_up_k (by decide)
                  have q1615 : h1425 75 8 = h1400 75 8 := jK 0 f1427 rg_75_8_0_1 (by first | decide | omega) (by first | decide | omega) (by decide)
                  have q1616 : h1400 75 8 = h1353 75 8 := jK 0 f1402 rg_75_8_0_1 (by first | decide | omega) (by first | decide | omega) (by decide)
                  have q1617 : h1353 75 8 = h1338 75 8 := jK 0 f1355 rg_75_8_0_1 (by first | decide | omega) (by first | decide | omega) (by decide)
                  have q1618 : h1338 75 8 = h26 75 8 := jK 0 f1339 rg_75_8_0_1 (by first | decide | omega) (by first | decide | omega) (by decide)
                  have q1619 : h26 75 8 = h15 75 8 := jK 0 f28 rg_75_8_0_1 (by first | decide | omega) (by first | decide | omega) (by decide)
                  have q1620 : h15 75 8 = h11 75 8 := by rw [← e17]; exact x_up_i (by first | decide | omega)
                  have q1621 : h11 75 8 = h7 75 8 := by rw [← e13]; exact x_up_i (by first | decide | omega)
                  have q1622 : h7 75 8 = h3 75 8 := by rw [← e9]; exact x_up_i (by first | decide | omega)
                  have q1623 : h3 75 8 = (h 75 6) := by rw [← e5]; exact x_up_at
                  have m1625 := Tq.fr m1424 f1427 (by decide) (by decide)
                  have z1624 := m1625.1
                  have q1626 : h1425 79 u1506 = h1400 79 u1506 := jK u1506 f1427 rg_79_0_1_400 (by first | decide | omega) (by first | decide | omega) (by decide)
                  have q1627 : h1400 79 u1506 = h1353 79 u1506 := jK u1506 f1402 rg_79_0_1_400 (by first | decide | omega) (by first | decide | omega) (by decide)
                  have q1628 : h1353 79 u1506 = h1338 79 u1506 := jK u1506 f1355 rg_79_0_1_400 (by first | decide | omega) (by first | decide | omega) (by decide)
                  have q1629 : h1338 79 u1506 = h26 79 u1506 := jK u1506 f1339 rg_79_0_1_400 (by first | decide | omega) (by first | decide | omega) (by decide)
                  have q1630 : h26 79 u1506 = h15 79 u1506 := jK u1506 f28 rg_79_0_1_400 (by first | decide | omega) (by first | decide | omega) (by decide)
                  have q1631 : h15 79 u1506 = h11 79 u1506 := by rw [← e17]; exact x_up_k (by decide)
                  have q1632 : h11 79 u1506 = h7 79 u1506 := by rw [← e13]; exact x_up_k (by decide)
                  have q1633 : h7 79 u1506 = h3 79 u1506 := by rw [← e9]; exact x_up_k (by decide)
                  have q1634 : h3 79 u1506 = h 79 u1506 := by rw [← e5]; exact x_up_k (by decide)
                  have z1635 := Tq.at (p := (h1425 75 7)) (u := u1506) m1625 (by first | decide | omega) (by first | decide | omega)
                  have z1636 := (Eq.trans c1432 (congrArg (sk tB tN) (show h1400 75 7 = h1400 75 7 by first | decide | omega)))
                  refine x_retI (np := 117) (x := 0) (by decide +kernel) (by decide) (Or.inl (by decide +kernel)) ⟨_, rfl, (by decide), ?_⟩
                  exact ⟨j1426, f1433, (by first | decide | omega), (by first | decide | omega), (fun z => by first | decide | omega), (fun z => by first | decide | omega), (fun z => absurd z (by first | decide | omega)), (Cu.rn0 (by first | decide | omega) (Lq.bad m1344 (by first | decide | omega) c1408 c1360 (by first | decide | omega) (by first | decide | omega) (p2 := h1425 75 7) (fun z => by have z1 := z.1; have z2 := z.2; omega) (Eq.trans c1432 (congrArg (sk tB tN) (show h1400 75 7 = h1400 75 7 by first | decide | omega)))))⟩
                have q1585 : ¬ (2147483707 < (h 79 u1506)) := q1585
                refine x_const (np := 38) (x := 9223372043297226753) (a := 2147483649) (by decide +kernel) (by decide) (by decide) ?_
                refine x_goto (np := 41) (x := 42) (by decide +kernel) ?_
                refine x_retI (np := 43) (x := 0) (by decide +kernel) (by decide) (Or.inr ⟨by decide +kernel, by first | decide | omega, by first | decide | omega⟩) ⟨_, rfl, (by decide), ?_⟩
                refine x_ifz (k := 1) (tg := 117) (np := 115) (by decide +kernel) (by decide) (by decide) (fun q1637 => ?_) (fun q1638 => ?_)
                · have q1637 : 2147483649 ≠ 2147483648 := q1637
                  refine x_aload (np := 118) (x := 0) (by decide +kernel) rfl (x_nc_le (by decide)) ?_
                  refine x_dup (np := 119) (x := 0) (by decide +kernel) (by have z := x_nc_le (k := 75) (by decide); unfold x_r; omega) ?_
                  refine x_getC (np := 122) (x := 711) (f := 7) (q := (h1425 75 7)) (by decide +kernel) (by decide) (by decide +kernel) rfl (fun l1639 => ?_)
                  refine x_const (np := 123) (x := 9223372043297226753) (a := 2147483649) (by decide +kernel) (by decide) (by decide) ?_
                  refine x_iadd (np := 124) (x := 0) (v := (1 + (h1425 75 7))) (by decide +kernel) l1437 (by decide) (by first | decide | omega) (by first | decide | omega) ?_
                  refine x_putI (np := 127) (x := 711) (f := 7) (by decide +kernel) (by decide +kernel) (by first | decide | omega) (Or.inl (by decide)) ?_
                  have j1641 := jU (e := 7) (v := (1 + (h1425 75 7))) 0 j1426 rg_75_7_0_1 (by first | decide | omega) (by first | decide | omega) (by first | decide | omega)
                  have f1643 := jF (e := 7) (v := (1 + (h1425 75 7))) 0 f1433 rg_75_7_0_1 (by first | decide | omega) (by first | decide | omega) (by decide)
                  have f1644 := jF (e := 7) (v := (1 + (h1425 75 7))) 0 f1434 rg_75_7_0_1 (by first | decide | omega) (by first | decide | omega) (by decide)
                  generalize e1642 : x_up h1425 75 7 (1 + (h1425 75 7)) = h1640 at j1641 f1643 f1644 ⊢
                  refine x_iinc (np := 130) (i := 2) (j := 2147483649) (v := (1 + v1336)) (lo' := [x_r 75, iv_c 2147483648, iv_c (1 + v1336)]) (by decide +kernel) (by decide) (by decide) rfl (by first | decide | omega) (by first | decide | omega) (by first | decide | omega) rfl ?_
                  refine x_goto (np := 133) (x := 42) (by decide +kernel) ?_
                  have b1645 := jB (e := 7) 0 hJ rg_75_7_0_1 (by first | decide | omega) (by first | decide | omega)
                  have q1646 : h1640 75 7 = (1 + (h1425 75 7)) := by rw [← e1642]; exact x_up_at
                  have b1647 := jB (e := 13) 0 hJ rg_75_13_0_1 (by first | decide | omega) (by first | decide | omega)
                  have q1648 : h1640 75 13 = h1425 75 13 := by rw [← e1642]; exact x_up_i (by first | decide | omega)
                  have q1649 : h1425 75 13 = h1400 75 13 := jK 0 f1427 rg_75_13_0_1 (by first | decide | omega) (by first | decide | omega) (by decide)
                  have m1651 : LnS (v1336 - 2147483648 + 1) h1425 := LnS.fr m1418 j1401 f1427 (by first | decide | omega) (by decide) (by decide)
                  have m1650 : LnS (v1336 - 2147483648 + 1) h1640 := by rw [← e1642]; exact LnS.oth m1651 (by decide) (by decide)
                  have q1652 : h1640 75 7 = (1 + (h1425 75 7)) := by rw [← e1642]; exact x_up_at
                  have q1653 : h1425 75 8 = h1400 75 8 := jK 0 f1427 rg_75_8_0_1 (by first | decide | omega) (by first | decide | omega) (by decide)
                  have q1654 : h1400 75 8 = h1353 75 8 := jK 0 f1402 rg_75_8_0_1 (by first | decide | omega) (by first | decide | omega) (by decide)
                  have q1655 : h1353 75 8 = h1338 75 8 := jK 0 f1355 rg_75_8_0_1 (by first | decide | omega) (by first | decide | omega) (by decide)
                  have q1656 : h1338 75 8 = h26 75 8 := jK 0 f1339 rg_75_8_0_1 (by first | decide | omega) (by first | decide | omega) (by decide)
                  have q1657 : h26 75 8 = h15 75 8 := jK 0 f28 rg_75_8_0_1 (by first | decide | omega) (by first | decide | omega) (by decide)
                  have q1658 : h15 75 8 = h11 75 8 := by rw [← e17]; exact x_up_i (by first | decide | omega)
                  have q1659 : h11 75 8 = h7 75 8 := by rw [← e13]; exact x_up_i (by first | decide | omega)
                  have q1660 : h7 75 8 = h3 75 8 := by rw [← e9]; exact x_up_i (by first | decide | omega)
                  have q1661 : h3 75 8 = (h 75 6) := by rw [← e5]; exact x_up_at
                  have m1663 := Tq.fr m1424 f1427 (by decide) (by decide)
                  have z1662 := m1663.1
                  have q1664 : h1425 79 u1506 = h1400 79 u1506 := jK u1506 f1427 rg_79_0_1_400 (by first | decide | omega) (by first | decide | omega) (by decide)
                  have q1665 : h1400 79 u1506 = h1353 79 u1506 := jK u1506 f1402 rg_79_0_1_400 (by first | decide | omega) (by first | decide | omega) (by decide)
                  have q1666 : h1353 79 u1506 = h1338 79 u1506 := jK u1506 f1355 rg_79_0_1_400 (by first | decide | omega) (by first | decide | omega) (by decide)
                  have q1667 : h1338 79 u1506 = h26 79 u1506 := jK u1506 f1339 rg_79_0_1_400 (by first | decide | omega) (by first | decide | omega) (by decide)
                  have q1668 : h26 79 u1506 = h15 79 u1506 := jK u1506 f28 rg_79_0_1_400 (by first | decide | omega) (by first | decide | omega) (by decide)
                  have q1669 : h15 79 u1506 = h11 79 u1506 := by rw [← e17]; exact x_up_k (by decide)
                  have q1670 : h11 79 u1506 = h7 79 u1506 := by rw [← e13]; exact x_up_k (by decide)
                  have q1671 : h7 79 u1506 = h3 79 u1506 := by rw [← e9]; exact x_up_k (by decide)
                  have q1672 : h3 79 u1506 = h 79 u1506 := by rw [← e5]; exact x_up_k (by decide)
                  have z1673 := Tq.at (p := (h1425 75 7)) (u := u1506) m1663 (by first | decide | omega) (by first | decide | omega)
                  exact i1346 (1 + v1336) h1640 (by first | decide | omega) (by first | decide | omega) (by first | decide | omega) j1641 f1644 (LnS.cast m1650 (by first | decide | omega)) (Lq.go m1344 (by first | decide | omega) c1408 c1360 (by first | decide | omega) (p2 := h1425 75 7) ⟨by first | decide | omega, by first | decide | omega⟩ (Eq.trans c1432 (congrArg (sk tB tN) (show h1400 75 7 = h1400 75 7 by first | decide | omega))) (q1 := sk tB tN (h1425 75 7 + 1)) rfl (by first | decide | omega) (congrArg (sk tB tN) (show h1425 75 7 + 1 = h1640 75 7 by first | decide | omega)))
                have q1638 : ¬ (2147483649 ≠ 2147483648) := q1638
                exfalso; omega
              have q1449 : ¬ ((h1425 75 7) ≠ (h 75 6)) := q1449
              refine x_iload (np := 101) (x := 2) (by decide +kernel) rfl (by first | decide | omega) ?_
              refine x_const (np := 102) (x := 9223372043297226753) (a := 2147483649) (by decide +kernel) (by decide) (by decide) ?_
              refine x_iadd (np := 103) (x := 0) (v := (1 + v1336)) (by decide +kernel) (by first | decide | omega) (by decide) (by first | decide | omega) (by first | decide | omega) ?_
              have q1674 : h1425 75 6 = h1400 75 6 := jK 0 f1427 rg_75_6_0_1 (by first | decide | omega) (by first | decide | omega) (by decide)
              have q1675 : h1400 75 6 = h1353 75 6 := jK 0 f1402 rg_75_6_0_1 (by first | decide | omega) (by first | decide | omega) (by decide)
              have q1676 : h1353 75 6 = h1338 75 6 := jK 0 f1355 rg_75_6_0_1 (by first | decide | omega) (by first | decide | omega) (by decide)
              have q1677 : h1338 75 6 = h26 75 6 := jK 0 f1339 rg_75_6_0_1 (by first | decide | omega) (by first | decide | omega) (by decide)
              have q1678 : h26 75 6 = h15 75 6 := jK 0 f28 rg_75_6_0_1 (by first | decide | omega) (by first | decide | omega) (by decide)
              have q1679 : h15 75 6 = h11 75 6 := by rw [← e17]; exact x_up_i (by first | decide | omega)
              have q1680 : h11 75 6 = h7 75 6 := by rw [← e13]; exact x_up_i (by first | decide | omega)
              have q1681 : h7 75 6 = 2147483648 := by rw [← e9]; exact x_up_at
              have b1682 := jB (e := 0) 0 hJ rg_78_0_0_1 (by first | decide | omega) (by first | decide | omega)
              have q1683 : h1425 78 0 = h1400 78 0 := jK 0 f1427 rg_78_0_0_1 (by first | decide | omega) (by first | decide | omega) (by decide)
              have q1684 : h1400 78 0 = h1353 78 0 := jK 0 f1402 rg_78_0_0_1 (by first | decide | omega) (by first | decide | omega) (by decide)
              have q1685 : h1353 78 0 = h1338 78 0 := jK 0 f1355 rg_78_0_0_1 (by first | decide | omega) (by first | decide | omega) (by decide)
              have q1686 : h1338 78 0 = h26 78 0 := jK 0 f1339 rg_78_0_0_1 (by first | decide | omega) (by first | decide | omega) (by decide)
              have q1687 : h26 78 0 = h15 78 0 := jK 0 f28 rg_78_0_0_1 (by first | decide | omega) (by first | decide | omega) (by decide)
              have q1688 : h15 78 0 = h11 78 0 := by rw [← e17]; exact x_up_k (by decide)
              have q1689 : h11 78 0 = h7 78 0 := by rw [← e13]; exact x_up_k (by decide)
              have q1690 : h7 78 0 = h3 78 0 := by rw [← e9]; exact x_up_k (by decide)
              have q1691 : h3 78 0 = h 78 0 := by rw [← e5]; exact x_up_k (by decide)
              have q1692 : h1425 78 1 = h1400 78 1 := jK 0 f1427 rg_78_1_0_1 (by first | decide | omega) (by first | decide | omega) (by decide)
              have q1693 : h1400 78 1 = h1353 78 1 := jK 0 f1402 rg_78_1_0_1 (by first | decide | omega) (by first | decide | omega) (by decide)
              have q1694 : h1353 78 1 = h1338 78 1 := jK 0 f1355 rg_78_1_0_1 (by first | decide | omega) (by first | decide | omega) (by decide)
              have q1695 : h1338 78 1 = h26 78 1 := jK 0 f1339 rg_78_1_0_1 (by first | decide | omega) (by first | decide | omega) (by decide)
              have q1696 : h26 78 1 = h15 78 1 := jK 0 f28 rg_78_1_0_1 (by first | decide | omega) (by first | decide | omega) (by decide)
              have q1697 : h15 78 1 = h11 78 1 := by rw [← e17]; exact x_up_k (by decide)
              have q1698 : h11 78 1 = h7 78 1 := by rw [← e13]; exact x_up_k (by decide)
              have q1699 : h7 78 1 = h3 78 1 := by rw [← e9]; exact x_up_k (by decide)
              have q1700 : h3 78 1 = h 78 1 := by rw [← e5]; exact x_up_k (by decide)
              have m1701 : LnS (v1336 - 2147483648 + 1) h1425 := LnS.fr m1418 j1401 f1427 (by first | decide | omega) (by decide) (by decide)
              have q1702 : h1425 75 8 = h1400 75 8 := jK 0 f1427 rg_75_8_0_1 (by first | decide | omega) (by first | decide | omega) (by decide)
              have q1703 : h1400 75 8 = h1353 75 8 := jK 0 f1402 rg_75_8_0_1 (by first | decide | omega) (by first | decide | omega) (by decide)
              have q1704 : h1353 75 8 = h1338 75 8 := jK 0 f1355 rg_75_8_0_1 (by first | decide | omega) (by first | decide | omega) (by decide)
              have q1705 : h1338 75 8 = h26 75 8 := jK 0 f1339 rg_75_8_0_1 (by first | decide | omega) (by first | decide | omega) (by decide)
              have q1706 : h26 75 8 = h15 75 8 := jK 0 f28 rg_75_8_0_1 (by first | decide | omega) (by first | decide | omega) (by decide)
              have q1707 : h15 75 8 = h11 75 8 := by rw [← e17]; exact x_up_i (by first | decide | omega)
              have q1708 : h11 75 8 = h7 75 8 := by rw [← e13]; exact x_up_i (by first | decide | omega)
              have q1709 : h7 75 8 = h3 75 8 := by rw [← e9]; exact x_up_i (by first | decide | omega)
              have q1710 : h3 75 8 = (h 75 6) := by rw [← e5]; exact x_up_at
              have m1712 := Tq.fr m1424 f1427 (by decide) (by decide)
              have z1711 := m1712.1
              have z1713 := (Eq.trans c1432 (congrArg (sk tB tN) (show h1400 75 7 = h1400 75 7 by first | decide | omega)))
              refine x_retI (np := 104) (x := 0) (by decide +kernel) (by first | decide | omega) (Or.inl (by decide +kernel)) ⟨_, rfl, (by first | decide | omega), ?_⟩
              exact ⟨j1426, f1433, (by first | decide | omega), (by first | decide | omega), (fun z => by first | decide | omega), (fun z => by first | decide | omega), (fun _ => LnS.cast m1701 (by first | decide | omega)), (Cu.rn1 (v := (1 + v1336)) (by first | decide | omega) (by first | decide | omega) (Lq.fin m1344 (by first | decide | omega) c1408 c1360 (by first | decide | omega) (by first | decide | omega) (by first | decide | omega)))⟩
            have q1414 : ¬ (v1396 ≠ 2147483648) := q1414
            refine x_const (np := 84) (x := 9223372034707292159) (a := 2147483647) (by decide +kernel) (by decide) (by decide) ?_
            have q1714 : h1400 75 6 = h1353 75 6 := jK 0 f1402 rg_75_6_0_1 (by first | decide | omega) (by first | decide | omega) (by decide)
            have q1715 : h1353 75 6 = h1338 75 6 := jK 0 f1355 rg_75_6_0_1 (by first | decide | omega) (by first | decide | omega) (by decide)
            have q1716 : h1338 75 6 = h26 75 6 := jK 0 f1339 rg_75_6_0_1 (by first | decide | omega) (by first | decide | omega) (by decide)
            have q1717 : h26 75 6 = h15 75 6 := jK 0 f28 rg_75_6_0_1 (by first | decide | omega) (by first | decide | omega) (by decide)
            have q1718 : h15 75 6 = h11 75 6 := by rw [← e17]; exact x_up_i (by first | decide | omega)
            have q1719 : h11 75 6 = h7 75 6 := by rw [← e13]; exact x_up_i (by first | decide | omega)
            have q1720 : h7 75 6 = 2147483648 := by rw [← e9]; exact x_up_at
            have b1721 := jB (e := 0) 0 hJ rg_78_0_0_1 (by first | decide | omega) (by first | decide | omega)
            have q1722 : h1400 78 0 = h1353 78 0 := jK 0 f1402 rg_78_0_0_1 (by first | decide | omega) (by first | decide | omega) (by decide)
            have q1723 : h1353 78 0 = h1338 78 0 := jK 0 f1355 rg_78_0_0_1 (by first | decide | omega) (by first | decide | omega) (by decide)
            have q1724 : h1338 78 0 = h26 78 0 := jK 0 f1339 rg_78_0_0_1 (by first | decide | omega) (by first | decide | omega) (by decide)
            have q1725 : h26 78 0 = h15 78 0 := jK 0 f28 rg_78_0_0_1 (by first | decide | omega) (by first | decide | omega) (by decide)
            have q1726 : h15 78 0 = h11 78 0 := by rw [← e17]; exact x_up_k (by decide)
            have q1727 : h11 78 0 = h7 78 0 := by rw [← e13]; exact x_up_k (by decide)
            have q1728 : h7 78 0 = h3 78 0 := by rw [← e9]; exact x_up_k (by decide)
            have q1729 : h3 78 0 = h 78 0 := by rw [← e5]; exact x_up_k (by decide)
            have q1730 : h1400 78 1 = h1353 78 1 := jK 0 f1402 rg_78_1_0_1 (by first | decide | omega) (by first | decide | omega) (by decide)
            have q1731 : h1353 78 1 = h1338 78 1 := jK 0 f1355 rg_78_1_0_1 (by first | decide | omega) (by first | decide | omega) (by decide)
            have q1732 : h1338 78 1 = h26 78 1 := jK 0 f1339 rg_78_1_0_1 (by first | decide | omega) (by first | decide | omega) (by decide)
            have q1733 : h26 78 1 = h15 78 1 := jK 0 f28 rg_78_1_0_1 (by first | decide | omega) (by first | decide | omega) (by decide)
            have q1734 : h15 78 1 = h11 78 1 := by rw [← e17]; exact x_up_k (by decide)
            have q1735 : h11 78 1 = h7 78 1 := by rw [← e13]; exact x_up_k (by decide)
            have q1736 : h7 78 1 = h3 78 1 := by rw [← e9]; exact x_up_k (by decide)
            have q1737 : h3 78 1 = h 78 1 := by rw [← e5]; exact x_up_k (by decide)
            refine x_retI (np := 85) (x := 0) (by decide +kernel) (by decide) (Or.inl (by decide +kernel)) ⟨_, rfl, (by decide), ?_⟩
            exact ⟨j1401, f1409, (by first | decide | omega), (by first | decide | omega), (fun z => by first | decide | omega), (fun z => by first | decide | omega), (fun z => absurd z (by first | decide | omega)), (Cu.rn0 (by first | decide | omega) (Lq.no m1344 (by first | decide | omega) c1408 c1360 (by first | decide | omega)))⟩
          have q1393 : ¬ (2147483648 = 2147483648) := q1393
          exfalso; omega
        have q1368 : ¬ (2147483648 = 2147483648) := q1368
        exfalso; omega
    have b1738 := jB (e := 7) 0 hJ rg_75_7_0_1 (by first | decide | omega) (by first | decide | omega)
    have b1739 := jB (e := 13) 0 hJ rg_75_13_0_1 (by first | decide | omega) (by first | decide | omega)
    have q1740 : h26 75 13 = h15 75 13 := jK 0 f28 rg_75_13_0_1 (by first | decide | omega) (by first | decide | omega) (by decide)
    have q1741 : h15 75 13 = 2147483648 := by rw [← e17]; exact x_up_at
    have q1742 : h15 75 7 = h11 75 7 := by rw [← e17]; exact x_up_i (by first | decide | omega)
    have q1743 : h11 75 7 = 2147483648 := by rw [← e13]; exact x_up_at
    have q1744 : h26 75 8 = h15 75 8 := jK 0 f28 rg_75_8_0_1 (by first | decide | omega) (by first | decide | omega) (by decide)
    have q1745 : h15 75 8 = h11 75 8 := by rw [← e17]; exact x_up_i (by first | decide | omega)
    have q1746 : h11 75 8 = h7 75 8 := by rw [← e13]; exact x_up_i (by first | decide | omega)
    have q1747 : h7 75 8 = h3 75 8 := by rw [← e9]; exact x_up_i (by first | decide | omega)
    have q1748 : h3 75 8 = (h 75 6) := by rw [← e5]; exact x_up_at
    have m1750 := Tq.fr m22 f28 (by decide) (by decide)
    have z1749 := m1750.1
    exact p1341 _ 2147483648 h26 (Nat.lt_succ_self _) (by first | decide | omega) (by first | decide | omega) j27 (Fr.refl _ _) LnS.zero (Lq.zeroR ((show h26 75 7 = h26 75 7 by first | decide | omega).trans (Eq.trans c33 (congrArg (sk tB tN) (show h15 75 7 = 2147483648 by first | decide | omega)))) (by first | decide | omega) (by first | decide | omega) (by first | decide | omega))
  have q47 : ¬ ((h26 75 7) ≠ (h 75 6)) := q47
  refine x_const (np := 39) (x := 9223372039002259456) (a := 2147483648) (by decide +kernel) (by decide) (by decide) ?_
  have q1751 : h26 75 6 = h15 75 6 := jK 0 f28 rg_75_6_0_1 (by first | decide | omega) (by first | decide | omega) (by decide)
  have q1752 : h15 75 6 = h11 75 6 := by rw [← e17]; exact x_up_i (by first | decide | omega)
  have q1753 : h11 75 6 = h7 75 6 := by rw [← e13]; exact x_up_i (by first | decide | omega)
  have q1754 : h7 75 6 = 2147483648 := by rw [← e9]; exact x_up_at
  have b1755 := jB (e := 0) 0 hJ rg_78_0_0_1 (by first | decide | omega) (by first | decide | omega)
  have q1756 : h26 78 0 = h15 78 0 := jK 0 f28 rg_78_0_0_1 (by first | decide | omega) (by first | decide | omega) (by decide)
  have q1757 : h15 78 0 = h11 78 0 := by rw [← e17]; exact x_up_k (by decide)
  have q1758 : h11 78 0 = h7 78 0 := by rw [← e13]; exact x_up_k (by decide)
  have q1759 : h7 78 0 = h3 78 0 := by rw [← e9]; exact x_up_k (by decide)
  have q1760 : h3 78 0 = h 78 0 := by rw [← e5]; exact x_up_k (by decide)
  have q1761 : h26 78 1 = h15 78 1 := jK 0 f28 rg_78_1_0_1 (by first | decide | omega) (by first | decide | omega) (by decide)
  have q1762 : h15 78 1 = h11 78 1 := by rw [← e17]; exact x_up_k (by decide)
  have q1763 : h11 78 1 = h7 78 1 := by rw [← e13]; exact x_up_k (by decide)
  have q1764 : h7 78 1 = h3 78 1 := by rw [← e9]; exact x_up_k (by decide)
  have q1765 : h3 78 1 = h 78 1 := by rw [← e5]; exact x_up_k (by decide)
  have q1766 : h15 75 7 = h11 75 7 := by rw [← e17]; exact x_up_i (by first | decide | omega)
  have q1767 : h11 75 7 = 2147483648 := by rw [← e13]; exact x_up_at
  have q1768 : h26 75 8 = h15 75 8 := jK 0 f28 rg_75_8_0_1 (by first | decide | omega) (by first | decide | omega) (by decide)
  have q1769 : h15 75 8 = h11 75 8 := by rw [← e17]; exact x_up_i (by first | decide | omega)
  have q1770 : h11 75 8 = h7 75 8 := by rw [← e13]; exact x_up_i (by first | decide | omega)
  have q1771 : h7 75 8 = h3 75 8 := by rw [← e9]; exact x_up_i (by first | decide | omega)
  have q1772 : h3 75 8 = (h 75 6) := by rw [← e5]; exact x_up_at
  have m1774 := Tq.fr m22 f28 (by decide) (by decide)
  have z1773 := m1774.1
  refine x_retI (np := 40) (x := 0) (by decide +kernel) (by decide) (Or.inl (by decide +kernel)) ⟨_, rfl, (by decide), ?_⟩
  exact ⟨j27, f34, (by first | decide | omega), (by first | decide | omega), (fun z => by first | decide | omega), (fun z => by first | decide | omega), (fun _ => LnS.zero), (Cu.nil (Eq.trans c33 (congrArg (sk tB tN) (show h15 75 7 = 2147483648 by first | decide | omega))) (by first | decide | omega) (rn1 (by first | decide | omega) (by decide)))⟩
